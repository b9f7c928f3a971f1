/-! ===== the string constant's way into an array of chars (the JDK's own methods), over old cells ===== -/
def QT (D : va_G) (A : Nat → Prop) (R : Option Value → va_W → Prop) : Array Value → State → Outcome → State → Prop := fun _ st oc t => (∃ (v : Option Value) (w : va_W), oc = .returned v ∧ R v w ∧ va_P D vwCl w t.heap ∧ va_D A w) ∧ va_F A st t
def PT (D : va_G) (G : ClassId × ClassId) (A : Nat → Prop) (q v sz : Nat) (ws : va_W) (As : List Value) : Array Value → State → Prop := va_Pc As (fun U => U.heap.size = sz ∧ va_P D vwCl ws U.heap ∧ va_K D vwCl (tysG G) U ∧ va_D A ws ∧ (∀ k, sz ≤ k → A k) ∧ StrF A q v U)
theorem W_callT {p : Program} {l : Launch} {e : Env} {R : Room} {s : State} {m : MethodId} {args : Array Value} {below : List Frame} {meth : Method} {c : Code} {H : Heap} {locs : List Loc} {ce sl mc ms : Nat} {Qw : State → Prop} {pc : Nat} {lsA : Array Slot} {st0 rest : List Value} {a : Array Value} {A A1 : Nat → Prop} {D : va_G} {Q' : Option Value → va_W → Prop}
    (hr : va_Run p l e R s m args below meth c H locs ce sl mc ms (F0 m pc lsA st0) rest (QT D A1 Q' a) A1) (hS : va_S A s.heap H locs) (hA : ∀ q, A1 q → A q)
    (kk : ∀ (v : Option Value) (w : va_W) (H1 : Heap) (locs1 : List Loc), Q' v w → va_P D vwCl w H1 → va_D A w → va_S A s.heap H1 locs1 → W p l e R s m args below meth c H1 locs1 (ce + mc) (sl + ms) Qw (F0 m (pc + 3) lsA (v.toList ++ rest))) : W p l e R s m args below meth c H locs ce sl Qw (F0 m pc lsA st0) := by
  intro T hT X
  obtain ⟨v, st₀, t, T', L, h0, X', hL, e1, e2, ⟨⟨v2, w, hv, hq, hP, hD⟩, hf1, hf2⟩, st⟩ := hr T hT X
  cases hv
  rw [h0] at hf1 hf2
  obtain ⟨t2, a1, b1⟩ := kk v w T'.heap (locs ++ L) hq (by rw [e1]; exact hP) (hD.weaken (fun _ _ _ q => hA _ q)) ⟨Nat.le_trans hS.1 (by rw [e1]; exact hf1), fun q h1 h2 => by rw [e1, hf2 q (Nat.lt_of_lt_of_le h1 hS.1) (fun z => h2 (hA q z))]; exact hS.2.1 q h1 h2, fun q hq => by
    rcases List.mem_append.mp hq with h | h
    · exact hS.2.2 q h
    · exact hA _ (hL q h)⟩ T' rfl X'
  exact ⟨t2, st t2 a1, b1⟩
def MIl : MI := (yJ0_isLatin1_aae02, cJ0_isLatin1_aae02, 1, some .boolean, 0, 0, 0)
def MNf : MI := (yJ1_inflate_03870, cJ1_inflate_03870, 6, none, 0, 0, 0)
def MTs : MI := (yJ1_toChars_9d188, cJ1_toChars_9d188, 2, some (.array .char), 1, 1, 133)
def MTc : MI := (yJ0_toCharArray_70df3, cJ0_toCharArray_70df3, 1, some (.array .char), 2, 1, 133)
theorem c_isL (l : Launch) (D : va_G) (G : ClassId × ClassId) (A : Nat → Prop) (q v sz : Nat) (ws : va_W) : Met l (mY MIl) (Cond.code (mY MIl) (mC MIl) (mN MIl) (mR MIl) :: TB) (rmD MIl) (PT D G A q v sz ws [.ref q]) (QT D A (fun r w => r = some (.int 1) ∧ w = ws)) 0 0 A := by
  refine Met.ofW (cc := mC MIl) (maxL := mN MIl) (ret := mR MIl) (by decide +kernel) rfl ?_
  intro p e s m args below meth c s₁ B hml hv
  obtain ⟨rfl, hsz, hP, hK, hD, hA, hF, hZ⟩ := hv
  have hx := B.exec
  have hb := B.bytes
  have hr := B.returns
  have hts : ∀ w ∈ TB, w.before _ s = true := fun w hw => atoms_spec (ws := Cond.code (mY MIl) (mC MIl) (mN MIl) (mR MIl) :: TB) B.pre w (List.mem_cons_of_mem _ hw)
  have hown : s.vm.findClass (mY MIl).cls = some m.cls := findClass_of_methodNamed B.named
  have hlocks := B.notSynchronized
  have hS : va_S A s.heap s.heap [] := va_S.rf
  have hl := lv_entry ([.ref q]) (n := mN MIl) (Nat.le_of_ble_eq_true rfl)
  rw [lg_entry_eq]
  generalize (lg_sl ([.ref q]) ++ List.replicate (mN MIl - (lg_sl ([.ref q])).length) Slot.unset).toArray = ls at hl ⊢
  have hl : lv_has ls 1 [(0, .ref q)] := hl
  refine va_gets hx hb hZ hS hown (hts _ w_flP) (fun _ h => h) dJ0_isLatin1_aae02_0 ?_
  refine lv_if_eq hx hb dJ0_isLatin1_aae02_3 (tgt := 17) (by decide) (fun h => absurd h (by decide)) (fun _ => ?_)
  refine lv_aload_n hx hb dJ0_isLatin1_aae02_6 rfl (lv_at hl 0 rfl) ?_
  refine vk_getf hx hb (hF.1 0 (by decide)).2.1 hS hown (hts _ w_flC) (fun _ h => h) dJ0_isLatin1_aae02_7 ?_
  refine lv_if_ne hx hb dJ0_isLatin1_aae02_10 (tgt := 17) (by decide) (fun h => absurd rfl h) (fun _ => ?_)
  refine lv_iconst hx hb dJ0_isLatin1_aae02_13 (v := 1) (by decide) ?_
  refine lv_goto hx hb dJ0_isLatin1_aae02_14 (tgt := 18) (by decide) ?_
  exact W.zret hx hb hr rfl (fun t ht _ => ⟨⟨some (.int 1), ws, rfl, ⟨rfl, rfl⟩, by rw [ht]; exact hP, hD⟩, hS.F ht⟩) hS.2.2 dJ0_isLatin1_aae02_18 hlocks
def SF (k j : Nat) : Int32 := if j < k then SB.getD j 0 else 0
theorem SB_ok : ∀ j, j < 133 → vp_nar .char (((SB.getD j 0 &&& 255).toUInt32 % 65536).toInt32) = SB.getD j 0 := by decide +kernel
theorem SF_upd {k : Nat} (hk : k < 133) : upd (SF k) k (SB.getD k 0) = SF (k + 1) := by
  funext j
  rw [upd_eq, SF, SF]
  by_cases h : j = k
  · subst h; simp
  · by_cases h2 : j < k
    · have h3 : j < k + 1 := by omega
      simp [h, h2, h3]
    · have h3 : ¬ j < k + 1 := by omega
      simp [h, h2, h3]
theorem c_inf (l : Launch) (D : va_G) (G : ClassId × ClassId) (A : Nat → Prop) (q v a sz : Nat) (ws : va_W) : Met l (mY MNf) (Cond.code (mY MNf) (mC MNf) (mN MNf) (mR MNf) :: TB) (rmD MNf) (PT D G A q v sz (ws ++ [(a, .inl (G.2, 133, .inl (SF 0)))]) [.ref v, .int (nI 0), .ref a, .int (nI 0), .int (nI 133)]) (QT D A (fun r w => r = none ∧ w = ws ++ [(a, .inl (G.2, 133, .inl (SF 133)))])) 0 0 A := by
  refine Met.ofW (cc := mC MNf) (maxL := mN MNf) (ret := mR MNf) (by decide +kernel) rfl ?_
  intro p e s m args below meth c s₁ B hml hv
  obtain ⟨rfl, hsz, hP, hK, hD, hA, hF, hZ⟩ := hv
  have hx := B.exec
  have hb := B.bytes
  have hr := B.returns
  have hts : ∀ w ∈ TB, w.before _ s = true := fun w hw => atoms_spec (ws := Cond.code (mY MNf) (mC MNf) (mN MNf) (mR MNf) :: TB) B.pre w (List.mem_cons_of_mem _ hw)
  have hown : s.vm.findClass (mY MNf).cls = some m.cls := findClass_of_methodNamed B.named
  have hlocks := B.notSynchronized
  have hS : va_S A s.heap s.heap [] := va_S.rf
  have hl := lv_entry ([.ref v, .int (nI 0), .ref a, .int (nI 0), .int (nI 133)]) (n := mN MNf) (Nat.le_of_ble_eq_true rfl)
  rw [lg_entry_eq]
  generalize (lg_sl ([.ref v, .int (nI 0), .ref a, .int (nI 0), .int (nI 133)]) ++ List.replicate (mN MNf - (lg_sl ([.ref v, .int (nI 0), .ref a, .int (nI 0), .int (nI 133)])).length) Slot.unset).toArray = ls at hl ⊢
  have hl : lv_has ls (mN MNf) ([(0, .ref v), (1, .int (nI 0)), (2, .ref a), (3, .int (nI 0)), (4, .int (nI 133))]) := hl
  have hT : va_T .byte v 133 (fun j => .int (SB.getD j 0)) A s s.heap := (hF.1 0 (by decide)).2.2.2
  have loop : ∀ d k, k + d = 133 → ∀ (ls : Array Slot) (H : Heap) (locs : List Loc), lv_has ls 6 [(0, .ref v), (1, .int (nI k)), (2, .ref a), (3, .int (nI k)), (4, .int (nI 133)), (5, .int (nI k))] → va_P D vwCl (ws ++ [(a, .inl (G.2, 133, .inl (SF k)))]) H → va_D A (ws ++ [(a, .inl (G.2, 133, .inl (SF k)))]) → va_S A s.heap H locs → W p l e (rmD MNf) s m ([.ref v, .int (nI 0), .ref a, .int (nI 0), .int (nI 133)] : List Value).toArray below meth c H locs 0 0 (MQ below (QT D A (fun r w => r = none ∧ w = ws ++ [(a, .inl (G.2, 133, .inl (SF 133)))])) ([.ref v, .int (nI 0), .ref a, .int (nI 0), .int (nI 133)] : List Value).toArray s 0 0 A) (F0 m 3 ls []) := by
    intro d
    induction d with
    | zero =>
      intro k hk ls H locs hl hP hD hS
      have e : k = 133 := by omega
      subst e
      refine lv_iload hx hb dJ1_inflate_03870_3 (lv_at hl 5 rfl) ?_
      refine lv_iload hx hb dJ1_inflate_03870_5 (lv_at hl 4 rfl) ?_
      refine lv_icmp_ge hx hb dJ1_inflate_03870_7 (tgt := 33) (by decide) (fun _ => ?_) (fun h => absurd (by decide) h)
      exact W.vret hx hb hr (fun t ht _ => ⟨⟨none, _, rfl, ⟨rfl, rfl⟩, by rw [ht]; exact hP, hD⟩, hS.F ht⟩) hS.2.2 dJ1_inflate_03870_33 hlocks
    | succ d ih =>
      intro k hk ls H locs hl hP hD hS
      have hk1 : k < 133 := by omega
      refine lv_iload hx hb dJ1_inflate_03870_3 (lv_at hl 5 rfl) ?_
      refine lv_iload hx hb dJ1_inflate_03870_5 (lv_at hl 4 rfl) ?_
      refine lv_icmp_ge hx hb dJ1_inflate_03870_7 (tgt := 33) (by decide) (fun h => absurd ((nI_leI (by decide) (by omega)).mp h) (by omega)) (fun _ => ?_)
      refine lv_aload_n hx hb dJ1_inflate_03870_10 rfl (lv_at hl 2 rfl) ?_
      refine lv_iload_n hx hb dJ1_inflate_03870_11 rfl (lv_at hl 3 rfl) ?_
      refine lv_iinc hx hb dJ1_inflate_03870_12 hl (k := 3) (v := nI (k + 1)) rfl (by rw [show Int32.ofInt 1 = nI 1 from rfl, nI_add]) (by decide) rfl (fun ls2 hl2 => ?_)
      refine lv_aload_n hx hb dJ1_inflate_03870_15 rfl (lv_at hl2 1 rfl) ?_
      refine lv_iload_n hx hb dJ1_inflate_03870_16 rfl (lv_at hl2 2 rfl) ?_
      refine lv_iinc hx hb dJ1_inflate_03870_17 hl2 (k := 2) (v := nI (k + 1)) rfl (by rw [show Int32.ofInt 1 = nI 1 from rfl, nI_add]) (by decide) rfl (fun ls3 hl3 => ?_)
      refine va_tb hx hb hT hS (vp_in_nI hk1 (by decide)) (v := .int (SB.getD k 0)) (by rw [nI_clamp (by omega)]) dJ1_inflate_03870_20 ?_
      refine lv_sipush hx hb dJ1_inflate_03870_21 (v := 255) (by decide) ?_
      refine lv_iand hx hb dJ1_inflate_03870_24 ?_
      refine lv_i2c hx hb dJ1_inflate_03870_25 rfl ?_
      refine va_cast hx hb hK hP hD hS ws.length 1 (by rw [List.getElem?_append_right (Nat.le_refl _), Nat.sub_self]; rfl) rfl (vp_in_nI hk1 (by decide)) dJ1_inflate_03870_26 (fun H1 locs1 hP1 hD1 hS1 => ?_)
      rw [nI_clamp (show k < 2 ^ 31 by omega), SB_ok k hk1, SF_upd hk1, List.set_append_right _ _ (Nat.le_refl _), Nat.sub_self] at hP1 hD1
      refine lv_iinc hx hb dJ1_inflate_03870_27 hl3 (k := 5) (v := nI (k + 1)) rfl (by rw [show Int32.ofInt 1 = nI 1 from rfl, nI_add]) (by decide) rfl (fun ls4 hl4 => ?_)
      refine lv_goto hx hb dJ1_inflate_03870_30 (tgt := 3) (by decide) ?_
      exact ih (k + 1) (by omega) ls4 H1 locs1 (lv_sub hl4 [3, 1, 4, 2, 5, 0] rfl) hP1 hD1 hS1
  refine lv_iconst hx hb dJ1_inflate_03870_0 (v := nI 0) (by decide) ?_
  refine lv_istore hx hb dJ1_inflate_03870_1 hl (by decide) rfl (fun ls2 hl2 => ?_)
  exact loop 133 0 rfl ls2 _ _ (lv_sub hl2 [1, 2, 3, 4, 5, 0] rfl) hP hD hS
theorem pt_blind {D : va_G} {G : ClassId × ClassId} {A : Nat → Prop} {q v sz : Nat} {ws : va_W} {As : List Value} : FrameBlind (PT D G A q v sz ws As) := fun a U g mk z => by
  obtain ⟨q0, q1, q2, q3, q4, q5, q6, q7⟩ := z
  exact ⟨q0, q1, q2, va_K.moved (u := U) (U := U.calling g mk a) (Vm.Alike.refl U.vm) q3, q4, q5, vk_S.moved (u := U) (U := U.calling g mk a) (Vm.Alike.refl U.vm) q6, va_Z.moved (u := U) (U := U.calling g mk a) (Vm.Alike.refl U.vm) q7⟩
theorem StrF.kept {A : Nat → Prop} {q v : Nat} {s U : State} {H : Heap} {locs : List Loc} (h : StrF A q v s) (hS : va_S A s.heap H locs) (hU : U.heap = H) (hW : s.WarmedH U.vm) : StrF A q v U := by
  subst hU
  exact ⟨vk_S.moved hW.alike (vk_S.kept h.1 hS.2.1), va_Z.moved hW.alike (va_Z.kept h.2 hS.2.1)⟩
theorem pt_pre {D : va_G} {G : ClassId × ClassId} {A : Nat → Prop} {q v : Nat} {s : State} {H : Heap} {locs : List Loc} {ws : va_W} {As : List Value} (hP : va_P D vwCl ws H) (hK : va_K D vwCl (tysG G) s) (hD : va_D A ws) (hS : va_S A s.heap H locs) (hA : ∀ k, s.heap.size ≤ k → A k) (hF : StrF A q v s) : ∀ U : State, U.heap = H → s.WarmedH U.vm → PT D G A q v H.size ws As As.toArray U := fun U hU hW =>
  ⟨rfl, by rw [hU], by rw [hU]; exact hP, va_K.moved hW.alike hK, hD, fun k hk => hA k (Nat.le_trans hS.1 hk), hF.kept hS hU hW⟩
theorem c_toC (l : Launch) (D : va_G) (G : ClassId × ClassId) (A : Nat → Prop) (q v sz : Nat) (ws : va_W) : Met l (mY MTs) (Cond.code (mY MTs) (mC MTs) (mN MTs) (mR MTs) :: TB) (rmD MTs) (PT D G A q v sz ws [.ref v]) (QT D A (fun r w => ∃ a, r = some (.ref a) ∧ w = ws ++ [(a, .inl (G.2, 133, .inl (SF 133)))])) 1 133 A := by
  refine Met.ofW (cc := mC MTs) (maxL := mN MTs) (ret := mR MTs) (by decide +kernel) rfl ?_
  intro p e s m args below meth c s₁ B hml hv
  obtain ⟨rfl, hsz, hP, hK, hD, hA, hF, hZ⟩ := hv
  have hx := B.exec
  have hb := B.bytes
  have hr := B.returns
  have hts : ∀ w ∈ TB, w.before _ s = true := fun w hw => atoms_spec (ws := Cond.code (mY MTs) (mC MTs) (mN MTs) (mR MTs) :: TB) B.pre w (List.mem_cons_of_mem _ hw)
  have hown : s.vm.findClass (mY MTs).cls = some m.cls := findClass_of_methodNamed B.named
  have hlocks := B.notSynchronized
  have hS : va_S A s.heap s.heap [] := va_S.rf
  have hl := lv_entry ([.ref v]) (n := mN MTs) (Nat.le_of_ble_eq_true rfl)
  rw [lg_entry_eq]
  generalize (lg_sl ([.ref v]) ++ List.replicate (mN MTs - (lg_sl ([.ref v])).length) Slot.unset).toArray = ls at hl ⊢
  have hl : lv_has ls (mN MTs) ([(0, .ref v)]) := hl
  subst hsz
  have hT : va_T .byte v 133 (fun j => .int (SB.getD j 0)) A s s.heap := (hF.1 0 (by decide)).2.2.2
  refine lv_aload_n hx hb dJ1_toChars_9d188_0 rfl (lv_at hl 0 rfl) ?_
  refine va_tlen hx hb hT hS (v := nI 133) rfl dJ1_toChars_9d188_1 ?_
  refine va_newa hx hb (atype := .char) (ty := .char) (hts _ w_ac) rfl hK hP hD hS hA (a0 := (133, .inl (fun _ => 0))) (fun cA => rfl) (nI_pos (by decide)) (nI_clamp (by decide)) (by simp only [componentBytes]; omega) (by decide) (by decide) dJ1_toChars_9d188_2 (fun a cA H1 hK1 hP1 hD1 hS1 => ?_)
  have h1 : s.vm.findClass ("[" ++ FieldType.char.toString) = some cA := (hK1.2 2 (cA, .char) rfl).2
  have h2 : s.vm.findClass ("[" ++ FieldType.char.toString) = some G.2 := (hK.2 1 (G.2, .char) rfl).2
  have h3 : cA = G.2 := Option.some.inj (h1.symm.trans h2)
  subst h3
  have e0 : (fun _ => 0 : Nat → Int32) = SF 0 := by funext j; simp [SF]
  rw [e0] at hP1 hD1
  refine lv_astore_n hx hb dJ1_toChars_9d188_4 rfl hl (by decide) rfl (fun ls2 hl2 => ?_)
  refine lv_aload_n hx hb dJ1_toChars_9d188_5 rfl (lv_at hl2 1 rfl) ?_
  refine lv_iconst hx hb dJ1_toChars_9d188_6 (v := nI 0) (by decide) ?_
  refine lv_aload_n hx hb dJ1_toChars_9d188_7 rfl (lv_at hl2 0 rfl) ?_
  refine lv_iconst hx hb dJ1_toChars_9d188_8 (v := nI 0) (by decide) ?_
  refine lv_aload_n hx hb dJ1_toChars_9d188_9 rfl (lv_at hl2 1 rfl) ?_
  refine va_tlen hx hb hT hS1 (v := nI 133) rfl dJ1_toChars_9d188_10 ?_
  refine W_callT (va_runS (rest := []) (As := [.ref v, .int (nI 0), .ref a, .int (nI 0), .int (nI 133)]) ⟨hx, hb, hml, hown, hts⟩ (c_inf l D G A q v a H1.size ws) (va_cwS 5 hts (gi_app (gi_of (tb_3 w_mlNf w_stNf w_izL)) (gi_code w_coNf)) rfl rfl rfl ⟨by decide, by decide, by decide +kernel⟩ (cf_room (M := MTs) ⟨by decide, by decide⟩)) ⟨pt_blind, pt_pre hP1 hK hD1 hS1 hA ⟨hF, hZ⟩⟩ rfl rfl (hl2.1.trans rfl) rfl (lv_room (by decide)) dJ1_toChars_9d188_11 ⟨by decide, by decide⟩) hS1 (fun _ h => h) (fun r w H2 locs2 hq hP2 hD2 hS2 => ?_)
  obtain ⟨rfl, rfl⟩ := hq
  refine lv_aload_n hx hb dJ1_toChars_9d188_14 rfl (lv_at hl2 0 rfl) ?_
  exact W.aret hx hb hr (Or.inr ⟨_, rfl⟩) (Or.inr ⟨_, rfl⟩) (fun t ht _ => ⟨⟨_, _, rfl, ⟨a, rfl, rfl⟩, by rw [ht]; exact hP2, hD2⟩, hS2.F ht⟩) hS2.2.2 dJ1_toChars_9d188_15 hlocks
theorem c_tCA (l : Launch) (D : va_G) (G : ClassId × ClassId) (A : Nat → Prop) (q v sz : Nat) (ws : va_W) : Met l (mY MTc) (Cond.code (mY MTc) (mC MTc) (mN MTc) (mR MTc) :: TB) (rmD MTc) (PT D G A q v sz ws [.ref q]) (QT D A (fun r w => ∃ a, r = some (.ref a) ∧ w = ws ++ [(a, .inl (G.2, 133, .inl (SF 133)))])) 1 133 A := by
  refine Met.ofW (cc := mC MTc) (maxL := mN MTc) (ret := mR MTc) (by decide +kernel) rfl ?_
  intro p e s m args below meth c s₁ B hml hv
  obtain ⟨rfl, hsz, hP, hK, hD, hA, hF, hZ⟩ := hv
  have hx := B.exec
  have hb := B.bytes
  have hr := B.returns
  have hts : ∀ w ∈ TB, w.before _ s = true := fun w hw => atoms_spec (ws := Cond.code (mY MTc) (mC MTc) (mN MTc) (mR MTc) :: TB) B.pre w (List.mem_cons_of_mem _ hw)
  have hown : s.vm.findClass (mY MTc).cls = some m.cls := findClass_of_methodNamed B.named
  have hlocks := B.notSynchronized
  have hS : va_S A s.heap s.heap [] := va_S.rf
  have hl := lv_entry ([.ref q]) (n := mN MTc) (Nat.le_of_ble_eq_true rfl)
  rw [lg_entry_eq]
  generalize (lg_sl ([.ref q]) ++ List.replicate (mN MTc - (lg_sl ([.ref q])).length) Slot.unset).toArray = ls at hl ⊢
  have hl : lv_has ls (mN MTc) ([(0, .ref q)]) := hl
  subst hsz
  refine lv_aload_n hx hb dJ0_toCharArray_70df3_0 rfl (lv_at hl 0 rfl) ?_
  refine W_callT (va_runV (rest := []) (As := []) (b := q) ⟨hx, hb, hml, hown, hts⟩ (c_isL l D G A q v s.heap.size ws) (cwV 0 hts (gi_app (gi_of (tb_4 w_mlIl w_imIl w_seIl w_izS)) (gi_code w_coIl)) rfl rfl rfl ⟨rfl, by decide, by decide, by decide +kernel⟩ (cf_room (M := MTc) ⟨by decide, by decide⟩)) ⟨pt_blind, vk_recv hF (i := 0) (by decide) hS, pt_pre hP hK hD hS hA ⟨hF, hZ⟩⟩ rfl rfl (hl.1.trans rfl) rfl (lv_room (by decide)) dJ0_toCharArray_70df3_1 ⟨by decide, by decide⟩) hS (fun _ h => h) (fun r w H2 locs2 hq hP2 hD2 hS2 => ?_)
  obtain ⟨rfl, rfl⟩ := hq
  refine lv_if_eq hx hb dJ0_toCharArray_70df3_4 (tgt := 17) (by decide) (fun h => absurd h (by decide)) (fun _ => ?_)
  refine lv_aload_n hx hb dJ0_toCharArray_70df3_7 rfl (lv_at hl 0 rfl) ?_
  refine vk_getf hx hb (hF.1 0 (by decide)).2.2.1 hS2 hown (hts _ w_flV) (fun _ h => h) dJ0_toCharArray_70df3_8 ?_
  refine W_callT (va_runS (rest := []) (As := [.ref v]) ⟨hx, hb, hml, hown, hts⟩ (c_toC l D G A q v H2.size w) (va_cwS 1 hts (gi_app (gi_of (tb_3 w_mlTs w_stTs w_izL)) (gi_code w_coTs)) rfl rfl rfl ⟨by decide, by decide, by decide +kernel⟩ (cf_room (M := MTc) ⟨by decide, by decide⟩)) ⟨pt_blind, pt_pre hP2 hK hD2 hS2 hA ⟨hF, hZ⟩⟩ rfl rfl (hl.1.trans rfl) rfl (lv_room (by decide)) dJ0_toCharArray_70df3_11 ⟨by decide, by decide⟩) hS2 (fun _ h => h) (fun r w2 H3 locs3 hq hP3 hD3 hS3 => ?_)
  obtain ⟨a, rfl, rfl⟩ := hq
  refine lv_goto hx hb dJ0_toCharArray_70df3_14 (tgt := 24) (by decide) ?_
  exact W.aret hx hb hr (Or.inr ⟨_, rfl⟩) (Or.inr ⟨_, rfl⟩) (fun t ht _ => ⟨⟨_, _, rfl, ⟨a, rfl, rfl⟩, by rw [ht]; exact hP3, hD3⟩, hS3.F ht⟩) hS3.2.2 dJ0_toCharArray_70df3_24 hlocks
