/-! THE CLAIM OUT OF ONE WALK OF THE LAW'S BODY. Your part is whole_start (and what it stands on); all else here is the same for every law, but numbers. -/
def R_law : String := "BottomDrawerLaw"
def lw_P (b : Addr) (xs : List Int32) (args : Array Value) (s : State) : Prop := args = #[.ref b] ∧ s.IntsAt b xs ∧ xs.length ≤ 256 ∧ (Jvm.Cond.and given_1 narrow_1).before args s = true
def lw_Q (_ : Array Value) (s : State) (o : Outcome) (t : State) : Prop := o = .returned (some (.int 1)) ∧ Framed s o t [] 600000 7302250
def lw_Z (below : List Frame) (a : Array Value) (s : State) : State → Prop := fun t => ∃ o, t.status = .running ∧ Ended t below o ∧ lw_Q a s o t
/-- the law's own end, with 1 on the stack, nothing written that was there before, its room as the claim has it -/
theorem lw_ret {p : Program} {l : Launch} {e : Env} {s : State} {m : MethodId} {below : List Frame} {meth : Method} {c : Code} {b : Nat} (hx : p.tables.exec = Jvm.exec) (hb : c.code = code) (hr : meth.sig.returnType = ret) (hlocks : meth.locks = false) {pc : Nat} {H : Heap} {ls : Array Slot} (hdg : decode code pc = .ok (.ireturn, 1)) : W p l e room_1 s m #[Value.ref b] below meth c H [] 600000 7302250 (lw_Z below #[Value.ref b] s) (F0 m pc ls [.int 1]) := by
  intro T hT X
  obtain ⟨fs, hret, hrun, hended, hW, hframe⟩ := X.leave (v := some (.int 1)) (hlocks := hlocks) (fun h => by rw [hr] at h; cases h)
  have hmeth' : T.vm.method? m = some meth := X.method'
  refine ⟨T.setFrames fs, ?_, .returned (some (.int 1)), hrun, hended, rfl, ⟨_, rfl⟩, hW, hframe⟩
  jvm_step X.here [X.here.top, hx, hb, hdg, hmeth', hr, ret, narrow_b1]
  (try refine ⟨rfl, ?_⟩); (try refine ⟨rfl, ?_⟩)
  first | (intro acts; rw [hret _ acts rfl rfl rfl]) | rw [hret _ _ rfl rfl rfl]
  exact Steps.refl _
/-- what holds at the law's entry: the machine, the code, the tables' words (any of lw_tbl by 'hts w (by decide +kernel)'), the script of L ints xs at the cell b, what the Statement gives of the start (any of its parts by flat_of_before) -/
def lw_At (p : Program) (s : State) (m : MethodId) (meth : Method) (c : Code) (b L : Nat) (xs : Nat → Int32) : Prop :=
  p.tables.exec = Jvm.exec ∧ c.code = code ∧ meth.sig.returnType = ret ∧ c.maxLocals = 4 ∧ s.vm.findClass R_law = some m.cls ∧ (∀ w ∈ lw_tbl, w.before #[Value.ref b] s = true) ∧ va_X b L xs s s.heap ∧ b < s.heap.size ∧ meth.locks = false ∧ (Jvm.Cond.and given_1 narrow_1).before #[Value.ref b] s = true
/-! ===== two worlds side by side ===== -/
def TW (D : va_G) (G : ClassId × ClassId) (A : Nat → Prop) (ad : List Nat) (h : SH) (H : Heap) : Prop := ad.length = h.length ∧ va_P D vwCl (mkW ad G h) H ∧ va_D A (mkW ad G h)
abbrev LA (s : State) : Nat → Prop := fun q => s.heap.size ≤ q
theorem mkW_ad {ad : List Nat} {G : ClassId × ClassId} {h : SH} {k : Nat} {q : Nat × va_E} (e : (mkW ad G h)[k]? = some q) : q.1 ∈ ad := by
  simp only [mkW, List.getElem?_zipWith] at e
  cases ha : ad[k]? with
  | none => rw [ha] at e; cases e
  | some a =>
    rw [ha] at e
    cases hh : h[k]? with
    | none => rw [hh] at e; cases e
    | some c =>
      rw [hh] at e
      cases e
      exact List.mem_of_getElem? ha
theorem TW.kept {D : va_G} {G : ClassId × ClassId} {A : Nat → Prop} {adA adB : List Nat} {hA hB : SH} {H H1 : Heap} (T : TW D G A adB hB H) (dis : ∀ q, q ∈ adA → q ∉ adB) (hk : ∀ q, q < H.size → ¬ va_A (mkW adA G hA) H.size q → H1[q]? = H[q]?) : TW D G A adB hB H1 :=
  ⟨T.1, T.2.1.kept (fun k q hq => by
    have hl := (T.2.1 k q hq).lt
    refine hk q.1 hl (fun z => ?_)
    rcases z with ⟨k2, e, z⟩ | z
    · exact dis q.1 (mkW_ad (q := (q.1, e)) z) (mkW_ad hq)
    · omega), T.2.2⟩
theorem W_callF {p : Program} {l : Launch} {e : Env} {R : Room} {s : State} {m : MethodId} {args : Array Value} {below : List Frame} {meth : Method} {c : Code} {H : Heap} {locs : List Loc} {ce sl mc ms : Nat} {Qw : State → Prop} {pc : Nat} {lsA : Array Slot} {st0 rest : List Value} {a : Array Value} {A A1 : Nat → Prop} {M' : MI} {D : va_G} {G : ClassId × ClassId} {ad : List Nat} {Q' : Option Value → SH → Prop}
    (hr : va_Run p l e R s m args below meth c H locs ce sl mc ms (F0 m pc lsA st0) rest (QcD M' D G A1 ad Q' a) A1) (hS : va_S A s.heap H locs) (hA : ∀ q, A1 q → A q)
    (kk : ∀ (v : Option Value) (ad' : List Nat) (h' : SH) (H1 : Heap) (locs1 : List Loc), Q' v h' → (mMc M' = 0 → ad' = []) → (ad ++ ad').length = h'.length → va_P D vwCl (mkW (ad ++ ad') G h') H1 → va_D A1 (mkW (ad ++ ad') G h') → (∀ q, q < H.size → ¬ A1 q → H1[q]? = H[q]?) → va_S A s.heap H1 locs1 → W p l e R s m args below meth c H1 locs1 (ce + mc) (sl + ms) Qw (F0 m (pc + 3) lsA ((v.map (tr (ad ++ ad'))).toList ++ rest))) : W p l e R s m args below meth c H locs ce sl Qw (F0 m pc lsA st0) := by
  intro T hT X
  obtain ⟨v, st₀, t, T', L, h0, X', hL, e1, e2, ⟨⟨v2, ad', h', hv, hq, hz, hl, hP, hD⟩, hf1, hf2⟩, st⟩ := hr T hT X
  cases hv
  rw [h0] at hf1 hf2
  obtain ⟨t2, a1, b1⟩ := kk v2 ad' h' T'.heap (locs ++ L) hq hz hl (by rw [e1]; exact hP) hD (fun q h1 h2 => by rw [e1]; exact hf2 q h1 h2) ⟨Nat.le_trans hS.1 (by rw [e1]; exact hf1), fun q h1 h2 => by rw [e1, hf2 q (Nat.lt_of_lt_of_le h1 hS.1) (fun z => h2 (hA q z))]; exact hS.2.1 q h1 h2, fun q hq => by
    rcases List.mem_append.mp hq with h | h
    · exact hS.2.2 q h
    · exact hA _ (hL q h)⟩ T' rfl X'
  exact ⟨t2, st t2 a1, b1⟩
/-- the facts of a call out of the law -/
abbrev CFL (M' : MI) (n : Nat) : Prop := (Cond.initialized (mY M').cls ∈ TB) ∧ (Cond.code (mY M') (mC M') (mN M') (mR M') ∈ TB) ∧ ((mY M').cls ≠ "java/lang/invoke/MethodHandle" ∧ (mY M').cls ≠ "java/lang/invoke/VarHandle" ∧ (parseMethodDescriptor (mY M').desc).map (fun d => d.parameters.length) = some n) ∧ (mD M' + 1 ≤ 9 ∧ 8 + (mN M' + 11) + 40 * mD M' ≤ 314)
section
variable {p : Program} {l : Launch} {e : Env} {s : State} {m : MethodId} {below : List Frame} {meth : Method} {c : Code} {b L : Nat} {xs : Nat → Int32} {D : va_G} {G : ClassId × ClassId} {H : Heap} {locs : List Loc} {ls : Array Slot} {Qz : State → Prop} {pc : Nat} {adA adB : List Nat} {hA hB : SH}
theorem lw_free (T : TW D G (LA s) adA hA H) (hS : va_S (LA s) s.heap H locs) : ∀ q, va_A (mkW adA G hA) H.size q → LA s q := fun q z => by
  rcases z with ⟨k, e, z⟩ | z
  · exact T.2.2.2 k _ z
  · exact Nat.le_trans hS.1 z
theorem lw_callG {M' : MI} {idx n ci N : Nat} {T0 : u_T} {as rest : List Value} {Q' : Int32 → SH → Prop} {fs : List Value}
    (C0 : lw_At p s m meth c b L xs) (hK : va_K D vwCl (tysG G) s) (hN : ∀ w ∈ NTB, va_Nw w s) (hls : ls.size = 4)
    (hd : decode code pc = .ok (.invokevirtual idx, 3)) (hc : vwCl[ci]? = some ((mY M').cls, T0, N)) (hl1 : Cond.methodLink R_law idx (mY M') ∈ TB) (hl2 : Cond.instanceMethod (mY M') ∈ TB) (hl3 : Cond.selects (mY M').cls (mY M') (mY M') ∈ TB) (hcf : CFL M' n) (h0 : mMc M' = 0 ∧ mMs M' = 0) (hcell : hA[0]? = some (.inr (ci, fs))) (hn : as.length = n) (hcs : (rest.map fun v => v.category).sum ≤ 8)
    (hsp : Spc M' (.ref 0 :: as) hA (fun v h' => ∃ r, v = some (.int r) ∧ Q' r h'))
    (TA : TW D G (LA s) adA hA H) (TB0 : TW D G (LA s) adB hB H) (dis : ∀ q, q ∈ adA → q ∉ adB) (hS : va_S (LA s) s.heap H locs)
    (kk : ∀ r h' H1 locs1, Q' r h' → TW D G (LA s) adA h' H1 → TW D G (LA s) adB hB H1 → va_S (LA s) s.heap H1 locs1 → W p l e room_1 s m #[Value.ref b] below meth c H1 locs1 600000 7302250 Qz (F0 m (pc + 3) ls (.int r :: rest))) : W p l e room_1 s m #[Value.ref b] below meth c H locs 600000 7302250 Qz (F0 m pc ls ((as.map (tr adA)).reverse ++ .ref (adA.getD 0 0) :: rest)) := by
  obtain ⟨hx, hb, hr, hml, hown, hts, hX, hbl, hlocks, hgv⟩ := C0
  have htb : ∀ w ∈ TB, w.before #[Value.ref b] s = true := fun w h => hts w (TB_in w h)
  have run : va_Run p l e room_1 s m #[Value.ref b] below meth c H locs 600000 7302250 (mMc M') (mMs M') (F0 m pc ls ((as.map (tr adA)).reverse ++ .ref (adA.getD 0 0) :: rest)) rest (QcD M' D G (va_A (mkW adA G hA) H.size) adA (fun v h' => ∃ r, v = some (.int r) ∧ Q' r h') ((.ref 0 :: as).map (tr adA)).toArray) (va_A (mkW adA G hA) H.size) :=
    va_runV (nL := 4) ⟨hx, hb, hml, hown, htb⟩ (hsp l D G adA H.size TA.1) (cwV n htb (gi_app (gi_of (tb_4 hl1 hl2 hl3 hcf.1)) (gi_code hcf.2.1)) rfl rfl rfl ⟨rfl, hcf.2.2.1⟩ hcf.2.2.2) ⟨pcd_blind, va_recv hK TA.2.1 hc (mkW_get TA.1 hcell), fun U hU hW => ⟨rfl, by rw [hU], by rw [hU]; exact TA.2.1, va_K.moved hW.alike hK, TA.2.2.weaken (fun _ _ _ _ => trivial), NTB_warm hW hN⟩⟩ rfl (by simpa using hn) hls rfl (lv_room hcs) hd (by rw [h0.1, h0.2]; exact ⟨Nat.le_refl _, Nat.le_refl _⟩)
  refine W_callF run hS (lw_free TA hS) (fun v ad' h' H1 locs1 hq hz hl hP hD hk hS1 => ?_)
  have hz := hz h0.1
  subst hz
  obtain ⟨r, rfl, hq⟩ := hq
  simp only [List.append_nil] at hl hP hD
  rw [h0.1, h0.2]
  exact kk r h' H1 locs1 hq ⟨hl, hP, hD.weaken (fun _ _ _ q => lw_free TA hS _ q)⟩ (TB0.kept dis hk) hS1
/-- an int of the script is loaded -/
theorem lw_ld {i k : Nat} {z : Int} {rest : List Value} {lv : List (Nat × Value)} (C0 : lw_At p s m meth c b L xs) (hL : L ≤ 256) (hl : lv_has ls 4 lv) (h0 : lv[0]? = some (0, .ref b)) (h3 : lv[3]? = some (3, .int (nI i))) (hS : va_S (LA s) s.heap H locs)
    (d0 : decode code pc = .ok (.aload_n 0, 1)) (d1 : decode code (pc + 1) = .ok (.iload_n 3, 1)) (d2 : decode code (pc + 1 + 1) = .ok (.iconst z, 1)) (hz : Int32.ofInt z = nI k) (d3 : decode code (pc + 1 + 1 + 1) = .ok (.iadd, 1)) (d4 : decode code (pc + 1 + 1 + 1 + 1) = .ok (.iaload, 1)) (hik : i + k < L)
    (kk : W p l e room_1 s m #[Value.ref b] below meth c H locs 600000 7302250 Qz (F0 m (pc + 1 + 1 + 1 + 1 + 1) ls (.int (xs (i + k)) :: rest))) : W p l e room_1 s m #[Value.ref b] below meth c H locs 600000 7302250 Qz (F0 m pc ls rest) := by
  obtain ⟨hx, hb, hr, hml, hown, hts, hX, hbl, hlocks, hgv⟩ := C0
  have hbA : ¬ LA s b := Nat.not_le.mpr hbl
  refine lv_aload_n hx hb d0 rfl (lv_at hl 0 h0) ?_
  refine lv_iload_n hx hb d1 rfl (lv_at hl 3 h3) ?_
  refine lv_iconst (v := nI k) hx hb d2 hz ?_
  refine lv_iadd hx hb d3 ?_
  rw [nI_add]
  refine va_sld hx hb hX hbl hbA hS (vp_in_nI hik (by omega)) d4 ?_
  rw [nI_clamp (by omega)]
  exact kk
end
