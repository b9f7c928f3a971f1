/-! ===== the class's own constructor ===== -/
theorem cw_grow2 {M : MI} {D : va_G} {G : ClassId × ClassId} {p : Program} {s : State} {m : MethodId} {args : Array Value} {meth : Method} {c : Code} {A : Nat → Prop} {ad0 ad : List Nat} {H H1 : Heap} {locs locs1 : List Loc} {lsA : Array Slot} {ls : LSt} {h : SH} {q : Nat} {cl : SCell} {e1 : va_E} (C : Cw M D G p s m args meth c A ad0 ad H locs lsA ls h) (hm : 0 < mMc M) (hok : okH h.length h = true) (hokl : okL h.length ls = true) (he : trC (ad ++ [q]) G cl = e1)
    (hP : va_P D vwCl (mkW ad G h ++ [(q, e1)]) H1) (hD : va_D A (mkW ad G h ++ [(q, e1)])) (hS : va_S A s.heap H1 locs1) : Cw M D G p s m args meth c A ad0 (ad ++ [q]) H1 locs1 lsA ls (h ++ [cl]) := by
  obtain ⟨⟨c1, c2, c3, c4, c5, c6, c7, c8, c9, c10, c11, x, rfl, hx⟩, ⟨hl, -, -, -⟩, hL⟩ := C
  have hew : mkW ((ad0 ++ x) ++ [q]) G (h ++ [cl]) = mkW (ad0 ++ x) G h ++ [(q, e1)] := by
    rw [mkW_app hl (by rw [hl]; exact hok)]
    show _ ++ [(q, trC (ad0 ++ x ++ [q]) G cl)] = _
    rw [he]
  refine ⟨⟨c1, c2, c3, c4, c5, c6, c7, c8, c9, c10, c11, x ++ [q], List.append_assoc _ _ _, fun z => by omega⟩, ⟨by simp [← hl]; omega, by rw [hew]; exact hP, by rw [hew]; exact hD, hS⟩, ?_⟩
  rw [trL_app (by rw [hl]; exact hokl)]
  exact hL
theorem SW.str {Q : Option Value → SH → Prop} {ce sl : Nat} {ls : LSt} {h : SH} (hok : (okH h.length h && (okL h.length ls && ([] : List Value).all (okV h.length))) = true) (hce : ce + 1 ≤ mMc MX5_init) (hsl : sl + 133 ≤ mMs MX5_init)
    (k : SW MX5_init Q (ce + 1) (sl + 133) 39 ls [.ref h.length] (h ++ [.inl (true, 133, SF 133)])) : SW MX5_init Q ce sl 34 ls [] h := by
  intro l D G p e s m args below meth c A ad0 ad H locs lsA C
  obtain ⟨ok1, ok2, ok3⟩ := okA hok
  obtain ⟨q, v, hR, hF⟩ := C.1.2.2.2.2.2.2.1.2 (by decide +kernel)
  refine va_ldcS C.1.1 C.1.2.1 C.1.2.2.2.2.1 hR dX5_init_34 ?_
  refine W_callT (rest := []) (va_runV (rest := []) (As := []) (b := q) ⟨C.1.1, C.1.2.1, C.1.2.2.2.1, C.1.2.2.2.2.1, C.1.2.2.2.2.2.1⟩ (c_tCA l D G A q v H.size (mkW ad G h)) (cwV 0 C.1.2.2.2.2.2.1 (gi_app (gi_of (tb_4 w_mlTc w_imTc w_seTc w_izS)) (gi_code w_coTc)) rfl rfl rfl ⟨rfl, by decide, by decide, by decide +kernel⟩ (cf_room (M := MX5_init) ⟨by decide, by decide⟩)) ⟨pt_blind, vk_recv hF.1 (i := 0) (by decide) C.2.1.2.2.2, pt_pre C.2.1.2.1 C.1.2.2.2.2.2.2.2.2.2.2.1 C.2.1.2.2.1 C.2.1.2.2.2 C.1.2.2.2.2.2.2.2.2.2.1 hF⟩ rfl rfl (C.2.2.1.trans rfl) rfl (lv_room (by decide)) dX5_init_36 ⟨hce, hsl⟩) C.2.1.2.2.2 (fun _ h => h) (fun r w H1 locs1 hq hP1 hD1 hS1 => ?_)
  obtain ⟨a, rfl, rfl⟩ := hq
  have C1 := cw_grow2 (q := a) (cl := .inl (true, 133, SF 133)) C (by decide) ok1 ok2 rfl hP1 hD1 hS1
  have := k l D G p e s m args below meth c A ad0 (ad ++ [a]) H1 locs1 lsA C1
  rw [List.map_cons, tr_new C.2.1.1] at this
  exact this
