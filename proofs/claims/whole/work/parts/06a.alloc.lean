
/-! ===== operations that make cells (constructors alone) ===== -/
theorem okA {h : SH} {ls : LSt} {st : List Value} (h0 : (okH h.length h && (okL h.length ls && st.all (okV h.length))) = true) : okH h.length h = true ∧ okL h.length ls = true ∧ st.all (okV h.length) = true := by
  simp only [Bool.and_eq_true] at h0
  exact ⟨h0.1, h0.2.1, h0.2.2⟩
theorem cw_grow {M : MI} {D : va_G} {G : ClassId × ClassId} {p : Program} {s : State} {m : MethodId} {args : Array Value} {meth : Method} {c : Code} {A : Nat → Prop} {ad0 ad : List Nat} {H H1 : Heap} {locs : List Loc} {lsA : Array Slot} {ls : LSt} {h : SH} {q : Nat} {cl : SCell} {e1 : va_E} (C : Cw M D G p s m args meth c A ad0 ad H locs lsA ls h) (hm : 0 < mMc M) (hok : okH h.length h = true) (hokl : okL h.length ls = true) (he : trC (ad ++ [q]) G cl = e1)
    (hP : va_P D vwCl (mkW ad G h ++ [(q, e1)]) H1) (hD : va_D A (mkW ad G h ++ [(q, e1)])) (hS : va_S A s.heap H1 locs) : Cw M D G p s m args meth c A ad0 (ad ++ [q]) H1 locs lsA ls (h ++ [cl]) := by
  obtain ⟨⟨c1, c2, c3, c4, c5, c6, c7, c8, c9, c10, c11, x, rfl, hx⟩, ⟨hl, -, -, -⟩, hL⟩ := C
  have hew : mkW ((ad0 ++ x) ++ [q]) G (h ++ [cl]) = mkW (ad0 ++ x) G h ++ [(q, e1)] := by
    rw [mkW_app hl (by rw [hl]; exact hok)]
    show _ ++ [(q, trC (ad0 ++ x ++ [q]) G cl)] = _
    rw [he]
  refine ⟨⟨c1, c2, c3, c4, c5, c6, c7, c8, c9, c10, c11, x ++ [q], List.append_assoc _ _ _, fun z => by omega⟩, ⟨by simp [← hl]; omega, by rw [hew]; exact hP, by rw [hew]; exact hD, hS⟩, ?_⟩
  rw [trL_app (by rw [hl]; exact hokl)]
  exact hL
theorem tr_new {ad : List Nat} {n q : Nat} (h : ad.length = n) : tr (ad ++ [q]) (.ref n) = .ref q := by
  subst h
  simp [tr, List.getD_eq_getElem?_getD]
theorem SW.newI {M : MI} {Q : Option Value → SH → Prop} {ce sl pc n : Nat} {ls : LSt} {st : List Value} {h : SH} (hd : decode (mC M) pc = .ok (.newarray .int, 2)) (hw : Cond.arrayClass .int ∈ TB) (hn : n ≤ 1000) (hok : (okH h.length h && (okL h.length ls && st.all (okV h.length))) = true) (hce : ce + 1 ≤ mMc M) (hsl : sl + n ≤ mMs M)
    (k : SW M Q (ce + 1) (sl + n) (pc + 2) ls (.ref h.length :: st) (h ++ [.inl (false, n, fun _ => 0)])) : SW M Q ce sl pc ls (.int (nI n) :: st) h := by
  intro l D G p e s m args below meth c A ad0 ad H locs lsA C
  obtain ⟨ok1, ok2, ok3⟩ := okA hok
  have hK := C.1.2.2.2.2.2.2.2.2.2.2.1
  refine va_newa C.1.1 C.1.2.1 (atype := .int) (ty := .int) (C.1.2.2.2.2.2.1 _ hw) rfl hK C.2.1.2.1 C.2.1.2.2.1 C.2.1.2.2.2 C.1.2.2.2.2.2.2.2.2.2.1 (a0 := (n, .inl (fun _ => 0))) (fun cA => rfl) (nI_pos (by omega)) (nI_clamp (by omega)) (by simp only [componentBytes]; omega) hce hsl hd (fun q cA H1 hK1 hP1 hD1 hS1 => ?_)
  have h1 : s.vm.findClass ("[" ++ FieldType.int.toString) = some cA := (hK1.2 2 (cA, .int) rfl).2
  have h2 : s.vm.findClass ("[" ++ FieldType.int.toString) = some G.1 := (hK.2 0 (G.1, .int) rfl).2
  have h3 : cA = G.1 := Option.some.inj (h1.symm.trans h2)
  subst h3
  have C1 := cw_grow (cl := .inl (false, n, fun _ => 0)) C (by omega) ok1 ok2 rfl hP1 hD1 hS1
  have hst : (Value.ref h.length :: st).map (tr (ad ++ [q])) = .ref q :: st.map (tr ad) := by
    rw [List.map_cons, tr_new C.2.1.1, trs_app (by rw [C.2.1.1]; exact ok3)]
  have := k l D G p e s m args below meth c A ad0 (ad ++ [q]) H1 locs lsA C1
  rw [hst] at this
  exact this
theorem SW.newC {M : MI} {Q : Option Value → SH → Prop} {ce sl pc n : Nat} {ls : LSt} {st : List Value} {h : SH} (hd : decode (mC M) pc = .ok (.newarray .char, 2)) (hw : Cond.arrayClass .char ∈ TB) (hn : n ≤ 1000) (hok : (okH h.length h && (okL h.length ls && st.all (okV h.length))) = true) (hce : ce + 1 ≤ mMc M) (hsl : sl + n ≤ mMs M)
    (k : SW M Q (ce + 1) (sl + n) (pc + 2) ls (.ref h.length :: st) (h ++ [.inl (true, n, fun _ => 0)])) : SW M Q ce sl pc ls (.int (nI n) :: st) h := by
  intro l D G p e s m args below meth c A ad0 ad H locs lsA C
  obtain ⟨ok1, ok2, ok3⟩ := okA hok
  have hK := C.1.2.2.2.2.2.2.2.2.2.2.1
  refine va_newa C.1.1 C.1.2.1 (atype := .char) (ty := .char) (C.1.2.2.2.2.2.1 _ hw) rfl hK C.2.1.2.1 C.2.1.2.2.1 C.2.1.2.2.2 C.1.2.2.2.2.2.2.2.2.2.1 (a0 := (n, .inl (fun _ => 0))) (fun cA => rfl) (nI_pos (by omega)) (nI_clamp (by omega)) (by simp only [componentBytes]; omega) hce hsl hd (fun q cA H1 hK1 hP1 hD1 hS1 => ?_)
  have h1 : s.vm.findClass ("[" ++ FieldType.char.toString) = some cA := (hK1.2 2 (cA, .char) rfl).2
  have h2 : s.vm.findClass ("[" ++ FieldType.char.toString) = some G.2 := (hK.2 1 (G.2, .char) rfl).2
  have h3 : cA = G.2 := Option.some.inj (h1.symm.trans h2)
  subst h3
  have C1 := cw_grow (cl := .inl (true, n, fun _ => 0)) C (by omega) ok1 ok2 rfl hP1 hD1 hS1
  have hst : (Value.ref h.length :: st).map (tr (ad ++ [q])) = .ref q :: st.map (tr ad) := by
    rw [List.map_cons, tr_new C.2.1.1, trs_app (by rw [C.2.1.1]; exact ok3)]
  have := k l D G p e s m args below meth c A ad0 (ad ++ [q]) H1 locs lsA C1
  rw [hst] at this
  exact this
theorem SW.newO {M : MI} {Q : Option Value → SH → Prop} {ce sl pc ci idx N : Nat} {C0 : String} {T0 : u_T} {ls : LSt} {st : List Value} {h : SH} (fs : List Value) (hd : decode (mC M) pc = .ok (.new idx, 3)) (hc : vwCl[ci]? = some (C0, T0, N)) (hin : ∀ w ∈ u_ws C0 T0 N, w ∈ TB) (ty0 : Nat → FieldType) (hty : ∀ k, k < N → parseFieldDescriptor (T0 k).2.2.1 = some (ty0 k)) (hcl : Cond.classLink (mY M).cls idx C0 ∈ TB) (hinst : Cond.instantiable C0 N ∈ TB) (hini : Cond.initialized C0 ∈ TB) (hfs : ∀ j, j < N → defaultValue (ty0 j) = vp_V fs j) (hfs2 : ∀ ad, fs.map (tr ad) = fs) (hok : (okH h.length h && (okL h.length ls && st.all (okV h.length))) = true) (hce : ce + 1 ≤ mMc M) (hsl : sl + N ≤ mMs M)
    (k : SW M Q (ce + 1) (sl + N) (pc + 3) ls (.ref h.length :: st) (h ++ [.inr (ci, fs)])) : SW M Q ce sl pc ls st h := by
  intro l D G p e s m args below meth c A ad0 ad H locs lsA C
  obtain ⟨ok1, ok2, ok3⟩ := okA hok
  have hK := C.1.2.2.2.2.2.2.2.2.2.2.1
  refine va_new (ci := ci) (fs := fs) C.1.1 C.1.2.1 C.1.2.2.2.2.2.1 hin ty0 hty C.1.2.2.2.2.1 (C.1.2.2.2.2.2.1 _ hcl) (C.1.2.2.2.2.2.1 _ hinst) (C.1.2.2.2.2.2.1 _ hini) hK C.2.1.2.1 C.2.1.2.2.1 C.2.1.2.2.2 C.1.2.2.2.2.2.2.2.2.2.1 hc hfs hce hsl hd (fun q H1 hP1 hD1 hS1 => ?_)
  have C1 := cw_grow (cl := .inr (ci, fs)) C (by omega) ok1 ok2 (by simp only [trC, hfs2]) hP1 hD1 hS1
  have hst : (Value.ref h.length :: st).map (tr (ad ++ [q])) = .ref q :: st.map (tr ad) := by
    rw [List.map_cons, tr_new C.2.1.1, trs_app (by rw [C.2.1.1]; exact ok3)]
  have := k l D G p e s m args below meth c A ad0 (ad ++ [q]) H1 locs lsA C1
  rw [hst] at this
  exact this
/-- a constructor that makes cells -/
theorem SW.callI {M M' : MI} {Q : Option Value → SH → Prop} {ce sl pc idx n b : Nat} {ls : LSt} {as r : List Value} {st : List Value} {h : SH} (hd : decode (mC M) pc = .ok (.invokespecial idx, 3)) (hl1 : Cond.methodLink (mY M).cls idx (mY M') ∈ TB) (hl2 : Cond.instanceMethod (mY M') ∈ TB) (hr : mR M' = none) (hin : (mY M').name = "<init>") (hcf : CF M M' n) (hce : ce + mMc M' ≤ mMc M) (hsl : sl + mMs M' ≤ mMs M) (hm : 0 < mMc M) (hst : st = as.reverse ++ .ref b :: r) (hpl : as.length = n) (hcs : cs r ≤ 8) (hok : (okL h.length ls && r.all (okV h.length)) = true)
    (hsp : Spc M' (.ref b :: as) h (fun v h' => SW M Q (ce + mMc M') (sl + mMs M') (pc + 3) ls (v.toList ++ r) h')) : SW M Q ce sl pc ls st h := by
  intro l D G p e s m args below meth c A ad0 ad H locs lsA C
  simp only [Bool.and_eq_true] at hok
  have hstk : st.map (tr ad) = (as.map (tr ad)).reverse ++ .ref (ad.getD b 0) :: r.map (tr ad) := by rw [hst]; simp [tr]
  have hfr := cw_free C
  have run : va_Run p l e (rmD M) s m args below meth c H locs ce sl (mMc M') (mMs M') (F0 m pc lsA (st.map (tr ad))) (r.map (tr ad)) (QcD M' D G (va_A (mkW ad G h) H.size) ad (fun v h' => SW M Q (ce + mMc M') (sl + mMs M') (pc + 3) ls (v.toList ++ r) h') ((.ref b :: as).map (tr ad)).toArray) (va_A (mkW ad G h) H.size) :=
    va_runI ⟨C.1.1, C.1.2.1, C.1.2.2.2.1, C.1.2.2.2.2.1, C.1.2.2.2.2.2.1⟩ (hsp l D G ad H.size C.2.1.1) (cwI n C.1.2.2.2.2.2.1 (gi_code hcf.2.1) (by rw [hr]) rfl rfl (C.1.2.2.2.2.2.1 _ hcf.1) (C.1.2.2.2.2.2.1 _ hl1) (C.1.2.2.2.2.2.1 _ hl2) hin hcf.2.2.1 (cf_room hcf.2.2.2)) ⟨pcd_blind, pcd_pre C (.ref b :: as)⟩ rfl (by simpa using hpl) C.2.2.1 hstk (lv_room (by rw [cs_tr]; exact hcs)) hd ⟨hce, hsl⟩
  refine W_callD run C.2.1.2.2.2 hfr (fun v ad' h' H1 locs1 hq hz hl hP hD hS => ?_)
  have ok2 : r.all (okV ad.length) = true := by rw [C.2.1.1]; exact hok.2
  have hew : (v.map (tr (ad ++ ad'))).toList ++ r.map (tr ad) = (v.toList ++ r).map (tr (ad ++ ad')) := by
    rw [← trs_app (x := ad') ok2]
    cases v <;> simp
  rw [hew]
  obtain ⟨⟨c1, c2, c3, c4, c5, c6, c7, c8, c9, c10, c11, x, hx1, hx⟩, ⟨hl0, -, -, -⟩, hL⟩ := C
  exact hq l D G p e s m args below meth c A ad0 (ad ++ ad') H1 locs1 lsA ⟨⟨c1, c2, c3, c4, c5, c6, c7, c8, c9, c10, c11, x ++ ad', by rw [hx1]; exact List.append_assoc _ _ _, fun z => by omega⟩, ⟨hl, hP, hD, hS⟩, by rw [trL_app (by rw [hl0]; exact hok.1)]; exact hL⟩
