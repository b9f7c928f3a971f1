/-! ===== a text ===== -/
def ltA (tx : Nat → Nat) (n p : Nat) : Option Nat := if p < n then some (tx p) else none
def fgA (tx : Nat → Nat) (n p : Nat) : Option Nat := if p < n ∧ 48 ≤ tx p ∧ tx p ≤ 57 then some (tx p - 48) else none
/-- a number of one or two figures, the letter behind it, the place behind that -/
def nmS (tx : Nat → Nat) (n p : Nat) : Option (Nat × Nat × Nat) := match fgA tx n p with
  | none => none
  | some a => match fgA tx n (p + 1) with
    | none => (ltA tx n (p + 1)).map (fun s => (a, s, p + 2))
    | some b => (ltA tx n (p + 2)).map (fun s => (10 * a + b, s, p + 3))
/-- numbers parted by commas, a semicolon behind the last -/
def rdK (tx : Nat → Nat) (n : Nat) : Nat → Nat → Option (List Nat × Nat)
  | 0, _ => none
  | f + 1, p => match nmS tx n p with
    | none => none
    | some (v, s, q) => if s = 59 then some ([v], q) else if s = 44 then (rdK tx n f q).map (fun r => (v :: r.1, r.2)) else none
def tellIt (s : Nat) (vs : List Nat) (P : Pl) : Option Pl := match vs with
  | [a, b] => if s = 114 then (if okR a b = true then some (tellR P a b) else none) else if s = 110 then (if okN P a b = true then some (tellN P a b) else none) else none
  | [a, b, c] => if s = 116 then (if okT P a b c = true then some (tellT P a b c) else none) else if s = 108 then (if okLf P a b c = true then some (tellL P a b c) else none) else none
  | _ => none
def itemN (tx : Nat → Nat) (n p : Nat) (P : Pl) : Option (Nat × Pl) := match rdK tx n 3 (p + 1) with
  | none => none
  | some (vs, q) => (tellIt (tx p) vs P).map (fun P' => (q, P'))
def prs (tx : Nat → Nat) (n : Nat) : Nat → Nat → Pl → Option Nat × Pl
  | 0, _, P => (none, P)
  | f + 1, p, P => if p < n then (match itemN tx n p P with
    | none => (some p, P)
    | some (q, P') => prs tx n f q P') else (none, P)
theorem fgA_le {tx : Nat → Nat} {n p a : Nat} (h : fgA tx n p = some a) : a ≤ 9 ∧ p < n := by
  unfold fgA at h
  split at h
  · next q => cases h; omega
  · cases h
theorem ltA_lt {tx : Nat → Nat} {n p a : Nat} (h : ltA tx n p = some a) : p < n ∧ a = tx p := by
  unfold ltA at h
  split at h
  · next q => cases h; exact ⟨q, rfl⟩
  · cases h
theorem nmS_le {tx : Nat → Nat} {n p v s q : Nat} (h : nmS tx n p = some (v, s, q)) : v ≤ 99 ∧ p + 2 ≤ q ∧ q ≤ n := by
  unfold nmS at h
  split at h
  · cases h
  · next a ha =>
    have h1 := fgA_le ha
    split at h
    · next hb =>
      rw [Option.map_eq_some_iff] at h
      obtain ⟨t, h2, h3⟩ := h
      have h4 := ltA_lt h2
      cases h3
      omega
    · next b hb =>
      have h5 := fgA_le hb
      rw [Option.map_eq_some_iff] at h
      obtain ⟨t, h2, h3⟩ := h
      have h4 := ltA_lt h2
      cases h3
      omega
theorem rdK_le {tx : Nat → Nat} {n : Nat} : ∀ {f p : Nat} {vs : List Nat} {q : Nat}, rdK tx n f p = some (vs, q) → p + 2 ≤ q ∧ q ≤ n ∧ vs.length ≤ f ∧ 1 ≤ vs.length ∧ ∀ v ∈ vs, v ≤ 99
  | 0, p, vs, q, h => by simp [rdK] at h
  | f + 1, p, vs, q, h => by
    rw [rdK] at h
    split at h
    · cases h
    · next v s q1 hn =>
      have h1 := nmS_le hn
      split at h
      · cases h
        exact ⟨h1.2.1, h1.2.2, by simp, by simp, fun x hx => by simp at hx; omega⟩
      · split at h
        · rw [Option.map_eq_some_iff] at h
          obtain ⟨⟨vs2, q2⟩, h2, h3⟩ := h
          cases h3
          have h4 := rdK_le h2
          refine ⟨by omega, h4.2.1, by simp; omega, by simp, fun x hx => ?_⟩
          rcases List.mem_cons.mp hx with rfl | hx
          · exact h1.1
          · exact h4.2.2.2.2 x hx
        · cases h
theorem tellIt_wf {s : Nat} {vs : List Nat} {P P' : Pl} (hW : WfP P) (h : tellIt s vs P = some P') : WfP P' := by
  unfold tellIt at h
  split at h
  · split at h
    · split at h
      · next q => cases h; exact hW.tellR q
      · cases h
    · split at h
      · split at h
        · next q => cases h; exact hW.tellN q
        · cases h
      · cases h
  · split at h
    · split at h
      · next q => cases h; exact hW.tellT q
      · cases h
    · split at h
      · split at h
        · next q => cases h; exact hW.tellL q
        · cases h
      · cases h
  · cases h
theorem prs_wf {tx : Nat → Nat} {n : Nat} : ∀ {f p : Nat} {P : Pl}, WfP P → WfP (prs tx n f p P).2
  | 0, p, P, h => h
  | f + 1, p, P, h => by
    rw [prs]
    split
    · split
      · exact h
      · next q P' hi =>
        unfold itemN at hi
        split at hi
        · cases hi
        · rw [Option.map_eq_some_iff] at hi
          obtain ⟨P2, h2, h3⟩ := hi
          cases h3
          exact prs_wf (tellIt_wf h h2)
    · exact h
/-- a text stands at the place a: n letters -/
def ChAt (h : SH) (a n : Nat) (tx : Nat → Nat) : Prop := ∃ N f, h[a]? = some (.inl (true, N, f)) ∧ n ≤ N ∧ N ≤ 200 ∧ ∀ j, j < n → f j = nI (tx j) ∧ tx j < 128
theorem ChAt.fr {h h' : SH} {a n lo hi : Nat} {tx : Nat → Nat} (hc : ChAt h a n tx) (hf : Fr lo hi h h') (hj : a < lo ∨ hi < a) : ChAt h' a n tx := by
  obtain ⟨N, f, h1, h2⟩ := hc
  exact ⟨N, f, (hf.2 a hj).trans h1, h2⟩
theorem sp_letter {a n p : Nat} {tx : Nat → Nat} {h : SH} {K : Option Value → SH → Prop} (hc : ChAt h a n tx) (hp : p < 1000) (kk : K (some (.int (oI (ltA tx n p)))) h) : Spc MX4_letter [.ref a, .int (nI n), .int (nI p)] h K := by
  obtain ⟨N, f, hf, hn, hN, ht⟩ := hc
  have hp31 : p < 2 ^ 31 := by omega
  refine Spc.go VX4_letter (by decide +kernel) (fun _ => Nat.le_of_ble_eq_true rfl) (fun _ => false) 120 ?_
  simp only [nX4_letter, kX4_letter_0, kX4_letter_1, kX4_letter_4, kX4_letter_5, kX4_letter_6, kX4_letter_9, kX4_letter_10, kX4_letter_11, kX4_letter_12, kX4_letter_15, kX4_letter_16, kX4_letter_17, kX4_letter_18, kX4_letter_21, kX4_letter_23, ex_1, ex_s, exo_some, xK, xKL, xLdI, xLdA, xLdL, xStI, xStA, xStL, xInc, xBin, xDiv, xBinL, xDivL, xLcmp, xI2l, xL2i, xI2c, xC_eq, xC_ne, xC_lt, xC_ge, xC_gt, xC_le, xZ_eq, xZ_ne, xZ_lt, xZ_ge, xZ_gt, xZ_le, xGo, xTsw, tsw, xDup, xDup2, xPop, xGf, xPfI, xPfR, xiaload, xcaload, xiastore, xcastore, xAlen, xRet, xRetZ, xRetV, xObj, xMmax, xMmin, xCallS, xCallV, xCallI, popN, cs, kont_some, kont_none, noL, not_false_eq_true, Nat.reduceEqDiff, Nat.reduceBEq, Nat.reduceAdd, Nat.reduceLT, Nat.reduceSub, ↓reduceIte, decide_eq_true_eq, Bool.false_eq_true, decide_false, decide_true, or_false, false_or, or_true, true_or, or_self, lsOf_int, lsOf_ref, lsOf_long, lsOf_nil, List.replicate_succ, List.replicate_zero, Nat.add_one_sub_one, List.getElem?_cons_zero, List.getElem?_cons_succ, List.set_cons_zero, List.set_cons_succ, List.length_cons, List.length_nil, cond_true, cond_false, Value.category, List.reverse_nil, List.reverse_cons, List.nil_append, List.cons_append, true_and, and_true, beq_self_eq_true, nI_add, pk_mul, nI_and, nI_or, nI_an, Nat.zero_le, Nat.reduceLeDiff, f_iadd, f_isub, f_imul, f_iand, f_ior, f_ixor, f_ishl, f_ishr, f_iushr, f_idiv, f_irem, f_ladd, f_lmul, f_lrem, hf, nI_n0 hp31, nI_leI (show n < 2 ^ 31 by omega) hp31, nI_leI (show N < 2 ^ 31 by omega) hp31, nI_clamp hp31]
  refine ⟨False.elim, fun _ => ⟨fun q => ?_, fun q => ⟨fun q2 => absurd q2 (by omega), fun q2 => ⟨vp_in_nI (by omega) (by omega), ?_⟩⟩⟩⟩
  · rw [ltA, if_neg (by omega)] at kk
    exact kk
  · rw [ltA, if_pos (by omega)] at kk
    rw [(ht p (by omega)).1]
    exact kk
theorem sp_figure {a n p : Nat} {tx : Nat → Nat} {h : SH} {K : Option Value → SH → Prop} (hc : ChAt h a n tx) (hp : p < 1000) (kk : K (some (.int (oI (fgA tx n p)))) h) : Spc MX4_figure [.ref a, .int (nI n), .int (nI p)] h K := by
  have hc0 := hc
  obtain ⟨N, f, hf, hn, hN, ht⟩ := hc
  refine Spc.go VX4_figure (by decide +kernel) (fun _ => Nat.le_of_ble_eq_true rfl) (fun _ => false) 120 ?_
  simp only [nX4_figure, kX4_figure_0, kX4_figure_1, kX4_figure_2, kX4_figure_3, kX4_figure_6, kX4_figure_7, kX4_figure_8, kX4_figure_10, kX4_figure_13, kX4_figure_14, kX4_figure_16, kX4_figure_19, kX4_figure_20, kX4_figure_22, kX4_figure_23, kX4_figure_26, kX4_figure_28, ex_1, ex_s, exo_some, xK, xKL, xLdI, xLdA, xLdL, xStI, xStA, xStL, xInc, xBin, xDiv, xBinL, xDivL, xLcmp, xI2l, xL2i, xI2c, xC_eq, xC_ne, xC_lt, xC_ge, xC_gt, xC_le, xZ_eq, xZ_ne, xZ_lt, xZ_ge, xZ_gt, xZ_le, xGo, xTsw, tsw, xDup, xDup2, xPop, xGf, xPfI, xPfR, xiaload, xcaload, xiastore, xcastore, xAlen, xRet, xRetZ, xRetV, xObj, xMmax, xMmin, xCallS, xCallV, xCallI, popN, cs, kont_some, kont_none, noL, not_false_eq_true, Nat.reduceEqDiff, Nat.reduceBEq, Nat.reduceAdd, Nat.reduceLT, Nat.reduceSub, ↓reduceIte, decide_eq_true_eq, Bool.false_eq_true, decide_false, decide_true, or_false, false_or, or_true, true_or, or_self, lsOf_int, lsOf_ref, lsOf_long, lsOf_nil, List.replicate_succ, List.replicate_zero, Nat.add_one_sub_one, List.getElem?_cons_zero, List.getElem?_cons_succ, List.set_cons_zero, List.set_cons_succ, List.length_cons, List.length_nil, cond_true, cond_false, Value.category, List.reverse_nil, List.reverse_cons, List.nil_append, List.cons_append, true_and, and_true, beq_self_eq_true, nI_add, pk_mul, nI_and, nI_or, nI_an, Nat.zero_le, Nat.reduceLeDiff, f_iadd, f_isub, f_imul, f_iand, f_ior, f_ixor, f_ishl, f_ishr, f_iushr, f_idiv, f_irem, f_ladd, f_lmul, f_lrem]
  refine sp_letter hc0 hp ?_
  by_cases q : p < n
  · have e : ltA tx n p = some (tx p) := by rw [ltA, if_pos q]
    have hb := (ht p q).2
    rw [e]
    simp only [nX4_figure, kX4_figure_0, kX4_figure_1, kX4_figure_2, kX4_figure_3, kX4_figure_6, kX4_figure_7, kX4_figure_8, kX4_figure_10, kX4_figure_13, kX4_figure_14, kX4_figure_16, kX4_figure_19, kX4_figure_20, kX4_figure_22, kX4_figure_23, kX4_figure_26, kX4_figure_28, ex_1, ex_s, exo_some, xK, xKL, xLdI, xLdA, xLdL, xStI, xStA, xStL, xInc, xBin, xDiv, xBinL, xDivL, xLcmp, xI2l, xL2i, xI2c, xC_eq, xC_ne, xC_lt, xC_ge, xC_gt, xC_le, xZ_eq, xZ_ne, xZ_lt, xZ_ge, xZ_gt, xZ_le, xGo, xTsw, tsw, xDup, xDup2, xPop, xGf, xPfI, xPfR, xiaload, xcaload, xiastore, xcastore, xAlen, xRet, xRetZ, xRetV, xObj, xMmax, xMmin, xCallS, xCallV, xCallI, popN, cs, kont_some, kont_none, noL, not_false_eq_true, Nat.reduceEqDiff, Nat.reduceBEq, Nat.reduceAdd, Nat.reduceLT, Nat.reduceSub, ↓reduceIte, decide_eq_true_eq, Bool.false_eq_true, decide_false, decide_true, or_false, false_or, or_true, true_or, or_self, lsOf_int, lsOf_ref, lsOf_long, lsOf_nil, List.replicate_succ, List.replicate_zero, Nat.add_one_sub_one, List.getElem?_cons_zero, List.getElem?_cons_succ, List.set_cons_zero, List.set_cons_succ, List.length_cons, List.length_nil, cond_true, cond_false, Value.category, List.reverse_nil, List.reverse_cons, List.nil_append, List.cons_append, true_and, and_true, beq_self_eq_true, nI_add, pk_mul, nI_and, nI_or, nI_an, Nat.zero_le, Nat.reduceLeDiff, f_iadd, f_isub, f_imul, f_iand, f_ior, f_ixor, f_ishl, f_ishr, f_iushr, f_idiv, f_irem, f_ladd, f_lmul, f_lrem, oI, nI_ltI (show tx p < 2 ^ 31 by omega) (show 48 < 2 ^ 31 by decide), nI_ltI (show 57 < 2 ^ 31 by decide) (show tx p < 2 ^ 31 by omega)]
    refine ⟨fun z => ?_, fun z => ⟨fun z2 => ?_, fun z2 => ?_⟩⟩
    · rw [fgA, if_neg (by omega)] at kk; exact kk
    · rw [fgA, if_neg (by omega)] at kk; exact kk
    · rw [fgA, if_pos (by omega)] at kk
      rw [pk_sub (by omega)]
      exact kk
  · have e : ltA tx n p = none := by rw [ltA, if_neg q]
    have e2 : fgA tx n p = none := by rw [fgA, if_neg (by omega)]
    have m1 : ((-4 : Int32) < nI 48) = True := eq_true (by decide)
    rw [e]
    rw [e2] at kk
    simp only [nX4_figure, kX4_figure_0, kX4_figure_1, kX4_figure_2, kX4_figure_3, kX4_figure_6, kX4_figure_7, kX4_figure_8, kX4_figure_10, kX4_figure_13, kX4_figure_14, kX4_figure_16, kX4_figure_19, kX4_figure_20, kX4_figure_22, kX4_figure_23, kX4_figure_26, kX4_figure_28, ex_1, ex_s, exo_some, xK, xKL, xLdI, xLdA, xLdL, xStI, xStA, xStL, xInc, xBin, xDiv, xBinL, xDivL, xLcmp, xI2l, xL2i, xI2c, xC_eq, xC_ne, xC_lt, xC_ge, xC_gt, xC_le, xZ_eq, xZ_ne, xZ_lt, xZ_ge, xZ_gt, xZ_le, xGo, xTsw, tsw, xDup, xDup2, xPop, xGf, xPfI, xPfR, xiaload, xcaload, xiastore, xcastore, xAlen, xRet, xRetZ, xRetV, xObj, xMmax, xMmin, xCallS, xCallV, xCallI, popN, cs, kont_some, kont_none, noL, not_false_eq_true, Nat.reduceEqDiff, Nat.reduceBEq, Nat.reduceAdd, Nat.reduceLT, Nat.reduceSub, ↓reduceIte, decide_eq_true_eq, Bool.false_eq_true, decide_false, decide_true, or_false, false_or, or_true, true_or, or_self, lsOf_int, lsOf_ref, lsOf_long, lsOf_nil, List.replicate_succ, List.replicate_zero, Nat.add_one_sub_one, List.getElem?_cons_zero, List.getElem?_cons_succ, List.set_cons_zero, List.set_cons_succ, List.length_cons, List.length_nil, cond_true, cond_false, Value.category, List.reverse_nil, List.reverse_cons, List.nil_append, List.cons_append, true_and, and_true, beq_self_eq_true, nI_add, pk_mul, nI_and, nI_or, nI_an, Nat.zero_le, Nat.reduceLeDiff, f_iadd, f_isub, f_imul, f_iand, f_ior, f_ixor, f_ishl, f_ishr, f_iushr, f_idiv, f_irem, f_ladd, f_lmul, f_lrem, oI, m1]
    exact ⟨fun _ => kk, fun z => absurd trivial z⟩
def ReaderAt (h : SH) (k : Nat) : Prop := ∃ am g, h[k]? = some (.inr (4, [.ref (k + 1), .int am])) ∧ h[k + 1]? = some (.inl (false, 3, g))
/-- the reader holds these numbers -/
def RdOk (h : SH) (k : Nat) (vs : List Nat) : Prop := ∃ g, h[k]? = some (.inr (4, [.ref (k + 1), .int (nI vs.length)])) ∧ h[k + 1]? = some (.inl (false, 3, g)) ∧ ∀ i, i < vs.length → g i = nI (vs.getD i 0)
theorem RdOk.at {h : SH} {k : Nat} {vs : List Nat} (hr : RdOk h k vs) : ReaderAt h k := by
  obtain ⟨g, a, b, -⟩ := hr
  exact ⟨_, g, a, b⟩
theorem ReaderAt.fr {h h' : SH} {lo hi k : Nat} (hr : ReaderAt h k) (hf : Fr lo hi h h') (hj : hi < k ∨ k + 1 < lo) : ReaderAt h' k := by
  obtain ⟨am, g, a, b⟩ := hr
  exact ⟨am, g, (hf.2 _ (by omega)).trans a, (hf.2 _ (by omega)).trans b⟩
theorem oI_none : (oI none = -4) = True := eq_true rfl
theorem m4_eq {x : Nat} (hx : x < 2 ^ 31) : (nI x = (-4)) = False := eq_false (fun q => (nI_m4 hx).mp q)
theorem sp_readNumbers {k a n p : Nat} {tx : Nat → Nat} {h : SH} {K : Option Value → SH → Prop} (hR : ReaderAt h k) (hc : ChAt h a n tx) (ha : a < k ∨ k + 1 < a) (hp : p < 300) (kk : ∀ h', Fr k (k + 1) h h' → ReaderAt h' k → (∀ vs q, rdK tx n 3 p = some (vs, q) → RdOk h' k vs) → K (some (.int (oI ((rdK tx n 3 p).map Prod.snd)))) h') : Spc MX4_readNumbers [.ref k, .ref a, .int (nI n), .int (nI p)] h K := by
  have hn200 : n ≤ 200 := by obtain ⟨N, f, -, h2, h3, -⟩ := hc; omega
  have m44 : ((-4 : Int32) = -4) = True := eq_true rfl
  have m459 : ((-4 : Int32) = nI 59) = False := eq_false (fun q => (nI_m4 (n := 59) (by decide)).mp q.symm)
  have m444 : ((-4 : Int32) = nI 44) = False := eq_false (fun q => (nI_m4 (n := 44) (by decide)).mp q.symm)
  -- behind i numbers
  have loop : ∀ f i, i + f = 3 → ∀ pre : List Nat, pre.length = i → ∀ q, q < 300 + 3 * i → ∀ h', Fr k (k + 1) h h' → ReaderAt h' k → (1 ≤ i → RdOk h' k pre) → (rdK tx n 3 p = (rdK tx n f q).map (fun r => (pre ++ r.1, r.2))) → ∀ o1 o2 o3, SW MX4_readNumbers K 0 0 6 [some (.ref k), some (.ref a), some (.int (nI n)), some (.int (nI p)), some (.int (nI q)), some (.int (nI i)), o1, o2, o3] [] h' := by
    intro f
    induction f with
    | zero =>
      intro i hi pre hpl q hq h' hf hR' hok he o1 o2 o3
      have e3 : i = 3 := by omega
      subst e3
      obtain ⟨am, g, r0, r1⟩ := id hR'
      have he' : rdK tx n 3 p = none := he
      have kk := kk h' hf hR' (fun vs q hz => by rw [he'] at hz; cases hz)
      rw [he'] at kk
      refine SW.go VX4_readNumbers (Nat.zero_le _) (Nat.zero_le _) (fun q => decide (q = 6)) 120 ?_
      simp only [nX4_readNumbers, kX4_readNumbers_0, kX4_readNumbers_1, kX4_readNumbers_3, kX4_readNumbers_4, kX4_readNumbers_6, kX4_readNumbers_8, kX4_readNumbers_9, kX4_readNumbers_12, kX4_readNumbers_13, kX4_readNumbers_16, kX4_readNumbers_17, kX4_readNumbers_18, kX4_readNumbers_20, kX4_readNumbers_23, kX4_readNumbers_25, kX4_readNumbers_27, kX4_readNumbers_29, kX4_readNumbers_32, kX4_readNumbers_34, kX4_readNumbers_35, kX4_readNumbers_38, kX4_readNumbers_39, kX4_readNumbers_40, kX4_readNumbers_42, kX4_readNumbers_45, kX4_readNumbers_47, kX4_readNumbers_49, kX4_readNumbers_51, kX4_readNumbers_54, kX4_readNumbers_56, kX4_readNumbers_58, kX4_readNumbers_59, kX4_readNumbers_61, kX4_readNumbers_62, kX4_readNumbers_64, kX4_readNumbers_67, kX4_readNumbers_68, kX4_readNumbers_71, kX4_readNumbers_73, kX4_readNumbers_75, kX4_readNumbers_78, kX4_readNumbers_79, kX4_readNumbers_81, kX4_readNumbers_82, kX4_readNumbers_83, kX4_readNumbers_86, kX4_readNumbers_87, kX4_readNumbers_88, kX4_readNumbers_90, kX4_readNumbers_93, kX4_readNumbers_95, kX4_readNumbers_98, kX4_readNumbers_100, kX4_readNumbers_102, kX4_readNumbers_105, kX4_readNumbers_107, kX4_readNumbers_108, kX4_readNumbers_110, kX4_readNumbers_112, kX4_readNumbers_115, kX4_readNumbers_117, kX4_readNumbers_118, kX4_readNumbers_121, kX4_readNumbers_124, kX4_readNumbers_126, ex_1, ex_s, exo_some, xK, xKL, xLdI, xLdA, xLdL, xStI, xStA, xStL, xInc, xBin, xDiv, xBinL, xDivL, xLcmp, xI2l, xL2i, xI2c, xC_eq, xC_ne, xC_lt, xC_ge, xC_gt, xC_le, xZ_eq, xZ_ne, xZ_lt, xZ_ge, xZ_gt, xZ_le, xGo, xTsw, tsw, xDup, xDup2, xPop, xGf, xPfI, xPfR, xiaload, xcaload, xiastore, xcastore, xAlen, xRet, xRetZ, xRetV, xObj, xMmax, xMmin, xCallS, xCallV, xCallI, popN, cs, kont_some, kont_none, noL, not_false_eq_true, Nat.reduceEqDiff, Nat.reduceBEq, Nat.reduceAdd, Nat.reduceLT, Nat.reduceSub, ↓reduceIte, decide_eq_true_eq, Bool.false_eq_true, decide_false, decide_true, or_false, false_or, or_true, true_or, or_self, lsOf_int, lsOf_ref, lsOf_long, lsOf_nil, List.replicate_succ, List.replicate_zero, Nat.add_one_sub_one, List.getElem?_cons_zero, List.getElem?_cons_succ, List.set_cons_zero, List.set_cons_succ, List.length_cons, List.length_nil, cond_true, cond_false, Value.category, List.reverse_nil, List.reverse_cons, List.nil_append, List.cons_append, true_and, and_true, beq_self_eq_true, nI_add, pk_mul, nI_and, nI_or, nI_an, Nat.zero_le, Nat.reduceLeDiff, f_iadd, f_isub, f_imul, f_iand, f_ior, f_ixor, f_ishl, f_ishr, f_iushr, f_idiv, f_irem, f_ladd, f_lmul, f_lrem, r0, r1, nI_leI (show 3 < 2 ^ 31 by decide) (show 3 < 2 ^ 31 by decide)]
      exact ⟨fun _ => kk, fun z => absurd trivial z⟩
    | succ f ih =>
      intro i hi pre hpl q hq h' hf hR' hok he o1 o2 o3
      obtain ⟨am, g, r0, r1⟩ := id hR'
      have hc' := hc.fr hf (by omega)
      have none' : rdK tx n (f + 1) q = none → K (some (.int (-4))) h' := fun z => by
        have he' : rdK tx n 3 p = none := by rw [he, z]; rfl
        have kk := kk h' hf hR' (fun vs q hz => by rw [he'] at hz; cases hz)
        rw [he'] at kk
        exact kk
      refine SW.go VX4_readNumbers (Nat.zero_le _) (Nat.zero_le _) (fun z => decide (z = 6 ∨ z = 67 ∨ z = 54)) 120 ?_
      simp only [nX4_readNumbers, kX4_readNumbers_0, kX4_readNumbers_1, kX4_readNumbers_3, kX4_readNumbers_4, kX4_readNumbers_6, kX4_readNumbers_8, kX4_readNumbers_9, kX4_readNumbers_12, kX4_readNumbers_13, kX4_readNumbers_16, kX4_readNumbers_17, kX4_readNumbers_18, kX4_readNumbers_20, kX4_readNumbers_23, kX4_readNumbers_25, kX4_readNumbers_27, kX4_readNumbers_29, kX4_readNumbers_32, kX4_readNumbers_34, kX4_readNumbers_35, kX4_readNumbers_38, kX4_readNumbers_39, kX4_readNumbers_40, kX4_readNumbers_42, kX4_readNumbers_45, kX4_readNumbers_47, kX4_readNumbers_49, kX4_readNumbers_51, kX4_readNumbers_54, kX4_readNumbers_56, kX4_readNumbers_58, kX4_readNumbers_59, kX4_readNumbers_61, kX4_readNumbers_62, kX4_readNumbers_64, kX4_readNumbers_67, kX4_readNumbers_68, kX4_readNumbers_71, kX4_readNumbers_73, kX4_readNumbers_75, kX4_readNumbers_78, kX4_readNumbers_79, kX4_readNumbers_81, kX4_readNumbers_82, kX4_readNumbers_83, kX4_readNumbers_86, kX4_readNumbers_87, kX4_readNumbers_88, kX4_readNumbers_90, kX4_readNumbers_93, kX4_readNumbers_95, kX4_readNumbers_98, kX4_readNumbers_100, kX4_readNumbers_102, kX4_readNumbers_105, kX4_readNumbers_107, kX4_readNumbers_108, kX4_readNumbers_110, kX4_readNumbers_112, kX4_readNumbers_115, kX4_readNumbers_117, kX4_readNumbers_118, kX4_readNumbers_121, kX4_readNumbers_124, kX4_readNumbers_126, ex_1, ex_s, exo_some, xK, xKL, xLdI, xLdA, xLdL, xStI, xStA, xStL, xInc, xBin, xDiv, xBinL, xDivL, xLcmp, xI2l, xL2i, xI2c, xC_eq, xC_ne, xC_lt, xC_ge, xC_gt, xC_le, xZ_eq, xZ_ne, xZ_lt, xZ_ge, xZ_gt, xZ_le, xGo, xTsw, tsw, xDup, xDup2, xPop, xGf, xPfI, xPfR, xiaload, xcaload, xiastore, xcastore, xAlen, xRet, xRetZ, xRetV, xObj, xMmax, xMmin, xCallS, xCallV, xCallI, popN, cs, kont_some, kont_none, noL, not_false_eq_true, Nat.reduceEqDiff, Nat.reduceBEq, Nat.reduceAdd, Nat.reduceLT, Nat.reduceSub, ↓reduceIte, decide_eq_true_eq, Bool.false_eq_true, decide_false, decide_true, or_false, false_or, or_true, true_or, or_self, lsOf_int, lsOf_ref, lsOf_long, lsOf_nil, List.replicate_succ, List.replicate_zero, Nat.add_one_sub_one, List.getElem?_cons_zero, List.getElem?_cons_succ, List.set_cons_zero, List.set_cons_succ, List.length_cons, List.length_nil, cond_true, cond_false, Value.category, List.reverse_nil, List.reverse_cons, List.nil_append, List.cons_append, true_and, and_true, beq_self_eq_true, nI_add, pk_mul, nI_and, nI_or, nI_an, Nat.zero_le, Nat.reduceLeDiff, f_iadd, f_isub, f_imul, f_iand, f_ior, f_ixor, f_ishl, f_ishr, f_iushr, f_idiv, f_irem, f_ladd, f_lmul, f_lrem, r0, r1, nI_leI (show 3 < 2 ^ 31 by decide) (show i < 2 ^ 31 by omega)]
      refine ⟨fun z => absurd z (by omega), fun _ => sp_figure hc' (by omega) ?_⟩
      cases hfg : fgA tx n q with
      | none =>
        have hz : rdK tx n (f + 1) q = none := by rw [rdK]; simp [nmS, hfg]
        have := none' hz
        simp only [nX4_readNumbers, kX4_readNumbers_0, kX4_readNumbers_1, kX4_readNumbers_3, kX4_readNumbers_4, kX4_readNumbers_6, kX4_readNumbers_8, kX4_readNumbers_9, kX4_readNumbers_12, kX4_readNumbers_13, kX4_readNumbers_16, kX4_readNumbers_17, kX4_readNumbers_18, kX4_readNumbers_20, kX4_readNumbers_23, kX4_readNumbers_25, kX4_readNumbers_27, kX4_readNumbers_29, kX4_readNumbers_32, kX4_readNumbers_34, kX4_readNumbers_35, kX4_readNumbers_38, kX4_readNumbers_39, kX4_readNumbers_40, kX4_readNumbers_42, kX4_readNumbers_45, kX4_readNumbers_47, kX4_readNumbers_49, kX4_readNumbers_51, kX4_readNumbers_54, kX4_readNumbers_56, kX4_readNumbers_58, kX4_readNumbers_59, kX4_readNumbers_61, kX4_readNumbers_62, kX4_readNumbers_64, kX4_readNumbers_67, kX4_readNumbers_68, kX4_readNumbers_71, kX4_readNumbers_73, kX4_readNumbers_75, kX4_readNumbers_78, kX4_readNumbers_79, kX4_readNumbers_81, kX4_readNumbers_82, kX4_readNumbers_83, kX4_readNumbers_86, kX4_readNumbers_87, kX4_readNumbers_88, kX4_readNumbers_90, kX4_readNumbers_93, kX4_readNumbers_95, kX4_readNumbers_98, kX4_readNumbers_100, kX4_readNumbers_102, kX4_readNumbers_105, kX4_readNumbers_107, kX4_readNumbers_108, kX4_readNumbers_110, kX4_readNumbers_112, kX4_readNumbers_115, kX4_readNumbers_117, kX4_readNumbers_118, kX4_readNumbers_121, kX4_readNumbers_124, kX4_readNumbers_126, ex_1, ex_s, exo_some, xK, xKL, xLdI, xLdA, xLdL, xStI, xStA, xStL, xInc, xBin, xDiv, xBinL, xDivL, xLcmp, xI2l, xL2i, xI2c, xC_eq, xC_ne, xC_lt, xC_ge, xC_gt, xC_le, xZ_eq, xZ_ne, xZ_lt, xZ_ge, xZ_gt, xZ_le, xGo, xTsw, tsw, xDup, xDup2, xPop, xGf, xPfI, xPfR, xiaload, xcaload, xiastore, xcastore, xAlen, xRet, xRetZ, xRetV, xObj, xMmax, xMmin, xCallS, xCallV, xCallI, popN, cs, kont_some, kont_none, noL, not_false_eq_true, Nat.reduceEqDiff, Nat.reduceBEq, Nat.reduceAdd, Nat.reduceLT, Nat.reduceSub, ↓reduceIte, decide_eq_true_eq, Bool.false_eq_true, decide_false, decide_true, or_false, false_or, or_true, true_or, or_self, lsOf_int, lsOf_ref, lsOf_long, lsOf_nil, List.replicate_succ, List.replicate_zero, Nat.add_one_sub_one, List.getElem?_cons_zero, List.getElem?_cons_succ, List.set_cons_zero, List.set_cons_succ, List.length_cons, List.length_nil, cond_true, cond_false, Value.category, List.reverse_nil, List.reverse_cons, List.nil_append, List.cons_append, true_and, and_true, beq_self_eq_true, nI_add, pk_mul, nI_and, nI_or, nI_an, Nat.zero_le, Nat.reduceLeDiff, f_iadd, f_isub, f_imul, f_iand, f_ior, f_ixor, f_ishl, f_ishr, f_iushr, f_idiv, f_irem, f_ladd, f_lmul, f_lrem, oI]
        exact ⟨fun z => absurd trivial z, fun _ => this⟩
      | some x =>
        have hx := fgA_le hfg
        simp only [nX4_readNumbers, kX4_readNumbers_0, kX4_readNumbers_1, kX4_readNumbers_3, kX4_readNumbers_4, kX4_readNumbers_6, kX4_readNumbers_8, kX4_readNumbers_9, kX4_readNumbers_12, kX4_readNumbers_13, kX4_readNumbers_16, kX4_readNumbers_17, kX4_readNumbers_18, kX4_readNumbers_20, kX4_readNumbers_23, kX4_readNumbers_25, kX4_readNumbers_27, kX4_readNumbers_29, kX4_readNumbers_32, kX4_readNumbers_34, kX4_readNumbers_35, kX4_readNumbers_38, kX4_readNumbers_39, kX4_readNumbers_40, kX4_readNumbers_42, kX4_readNumbers_45, kX4_readNumbers_47, kX4_readNumbers_49, kX4_readNumbers_51, kX4_readNumbers_54, kX4_readNumbers_56, kX4_readNumbers_58, kX4_readNumbers_59, kX4_readNumbers_61, kX4_readNumbers_62, kX4_readNumbers_64, kX4_readNumbers_67, kX4_readNumbers_68, kX4_readNumbers_71, kX4_readNumbers_73, kX4_readNumbers_75, kX4_readNumbers_78, kX4_readNumbers_79, kX4_readNumbers_81, kX4_readNumbers_82, kX4_readNumbers_83, kX4_readNumbers_86, kX4_readNumbers_87, kX4_readNumbers_88, kX4_readNumbers_90, kX4_readNumbers_93, kX4_readNumbers_95, kX4_readNumbers_98, kX4_readNumbers_100, kX4_readNumbers_102, kX4_readNumbers_105, kX4_readNumbers_107, kX4_readNumbers_108, kX4_readNumbers_110, kX4_readNumbers_112, kX4_readNumbers_115, kX4_readNumbers_117, kX4_readNumbers_118, kX4_readNumbers_121, kX4_readNumbers_124, kX4_readNumbers_126, ex_1, ex_s, exo_some, xK, xKL, xLdI, xLdA, xLdL, xStI, xStA, xStL, xInc, xBin, xDiv, xBinL, xDivL, xLcmp, xI2l, xL2i, xI2c, xC_eq, xC_ne, xC_lt, xC_ge, xC_gt, xC_le, xZ_eq, xZ_ne, xZ_lt, xZ_ge, xZ_gt, xZ_le, xGo, xTsw, tsw, xDup, xDup2, xPop, xGf, xPfI, xPfR, xiaload, xcaload, xiastore, xcastore, xAlen, xRet, xRetZ, xRetV, xObj, xMmax, xMmin, xCallS, xCallV, xCallI, popN, cs, kont_some, kont_none, noL, not_false_eq_true, Nat.reduceEqDiff, Nat.reduceBEq, Nat.reduceAdd, Nat.reduceLT, Nat.reduceSub, ↓reduceIte, decide_eq_true_eq, Bool.false_eq_true, decide_false, decide_true, or_false, false_or, or_true, true_or, or_self, lsOf_int, lsOf_ref, lsOf_long, lsOf_nil, List.replicate_succ, List.replicate_zero, Nat.add_one_sub_one, List.getElem?_cons_zero, List.getElem?_cons_succ, List.set_cons_zero, List.set_cons_succ, List.length_cons, List.length_nil, cond_true, cond_false, Value.category, List.reverse_nil, List.reverse_cons, List.nil_append, List.cons_append, true_and, and_true, beq_self_eq_true, nI_add, pk_mul, nI_and, nI_or, nI_an, Nat.zero_le, Nat.reduceLeDiff, f_iadd, f_isub, f_imul, f_iand, f_ior, f_ixor, f_ishl, f_ishr, f_iushr, f_idiv, f_irem, f_ladd, f_lmul, f_lrem, oI, m4_eq (show x < 2 ^ 31 by omega)]
        refine ⟨fun _ => sp_figure hc' (by omega) ?_, False.elim⟩
        -- what comes behind the number v, whose end is e
        have tail : ∀ v e, v ≤ 99 → e ≤ q + 2 → nmS tx n q = (ltA tx n e).map (fun s => (v, s, e + 1)) → ∀ o : Int32, SW MX4_readNumbers K 0 0 67 [some (.ref k), some (.ref a), some (.int (nI n)), some (.int (nI p)), some (.int (nI e)), some (.int (nI i)), some (.int (nI v)), some (.int o), o3] [] h' := by
          intro v e hv hee hnm o
          refine SW.go VX4_readNumbers (Nat.zero_le _) (Nat.zero_le _) (fun z => decide (z = 6)) 120 ?_
          simp only [nX4_readNumbers, kX4_readNumbers_0, kX4_readNumbers_1, kX4_readNumbers_3, kX4_readNumbers_4, kX4_readNumbers_6, kX4_readNumbers_8, kX4_readNumbers_9, kX4_readNumbers_12, kX4_readNumbers_13, kX4_readNumbers_16, kX4_readNumbers_17, kX4_readNumbers_18, kX4_readNumbers_20, kX4_readNumbers_23, kX4_readNumbers_25, kX4_readNumbers_27, kX4_readNumbers_29, kX4_readNumbers_32, kX4_readNumbers_34, kX4_readNumbers_35, kX4_readNumbers_38, kX4_readNumbers_39, kX4_readNumbers_40, kX4_readNumbers_42, kX4_readNumbers_45, kX4_readNumbers_47, kX4_readNumbers_49, kX4_readNumbers_51, kX4_readNumbers_54, kX4_readNumbers_56, kX4_readNumbers_58, kX4_readNumbers_59, kX4_readNumbers_61, kX4_readNumbers_62, kX4_readNumbers_64, kX4_readNumbers_67, kX4_readNumbers_68, kX4_readNumbers_71, kX4_readNumbers_73, kX4_readNumbers_75, kX4_readNumbers_78, kX4_readNumbers_79, kX4_readNumbers_81, kX4_readNumbers_82, kX4_readNumbers_83, kX4_readNumbers_86, kX4_readNumbers_87, kX4_readNumbers_88, kX4_readNumbers_90, kX4_readNumbers_93, kX4_readNumbers_95, kX4_readNumbers_98, kX4_readNumbers_100, kX4_readNumbers_102, kX4_readNumbers_105, kX4_readNumbers_107, kX4_readNumbers_108, kX4_readNumbers_110, kX4_readNumbers_112, kX4_readNumbers_115, kX4_readNumbers_117, kX4_readNumbers_118, kX4_readNumbers_121, kX4_readNumbers_124, kX4_readNumbers_126, ex_1, ex_s, exo_some, xK, xKL, xLdI, xLdA, xLdL, xStI, xStA, xStL, xInc, xBin, xDiv, xBinL, xDivL, xLcmp, xI2l, xL2i, xI2c, xC_eq, xC_ne, xC_lt, xC_ge, xC_gt, xC_le, xZ_eq, xZ_ne, xZ_lt, xZ_ge, xZ_gt, xZ_le, xGo, xTsw, tsw, xDup, xDup2, xPop, xGf, xPfI, xPfR, xiaload, xcaload, xiastore, xcastore, xAlen, xRet, xRetZ, xRetV, xObj, xMmax, xMmin, xCallS, xCallV, xCallI, popN, cs, kont_some, kont_none, noL, not_false_eq_true, Nat.reduceEqDiff, Nat.reduceBEq, Nat.reduceAdd, Nat.reduceLT, Nat.reduceSub, ↓reduceIte, decide_eq_true_eq, Bool.false_eq_true, decide_false, decide_true, or_false, false_or, or_true, true_or, or_self, lsOf_int, lsOf_ref, lsOf_long, lsOf_nil, List.replicate_succ, List.replicate_zero, Nat.add_one_sub_one, List.getElem?_cons_zero, List.getElem?_cons_succ, List.set_cons_zero, List.set_cons_succ, List.length_cons, List.length_nil, cond_true, cond_false, Value.category, List.reverse_nil, List.reverse_cons, List.nil_append, List.cons_append, true_and, and_true, beq_self_eq_true, nI_add, pk_mul, nI_and, nI_or, nI_an, Nat.zero_le, Nat.reduceLeDiff, f_iadd, f_isub, f_imul, f_iand, f_ior, f_ixor, f_ishl, f_ishr, f_iushr, f_idiv, f_irem, f_ladd, f_lmul, f_lrem, r0]
          refine sp_store r1 (show i < 3 by omega) (by decide) ?_
          simp only [nX4_readNumbers, kX4_readNumbers_0, kX4_readNumbers_1, kX4_readNumbers_3, kX4_readNumbers_4, kX4_readNumbers_6, kX4_readNumbers_8, kX4_readNumbers_9, kX4_readNumbers_12, kX4_readNumbers_13, kX4_readNumbers_16, kX4_readNumbers_17, kX4_readNumbers_18, kX4_readNumbers_20, kX4_readNumbers_23, kX4_readNumbers_25, kX4_readNumbers_27, kX4_readNumbers_29, kX4_readNumbers_32, kX4_readNumbers_34, kX4_readNumbers_35, kX4_readNumbers_38, kX4_readNumbers_39, kX4_readNumbers_40, kX4_readNumbers_42, kX4_readNumbers_45, kX4_readNumbers_47, kX4_readNumbers_49, kX4_readNumbers_51, kX4_readNumbers_54, kX4_readNumbers_56, kX4_readNumbers_58, kX4_readNumbers_59, kX4_readNumbers_61, kX4_readNumbers_62, kX4_readNumbers_64, kX4_readNumbers_67, kX4_readNumbers_68, kX4_readNumbers_71, kX4_readNumbers_73, kX4_readNumbers_75, kX4_readNumbers_78, kX4_readNumbers_79, kX4_readNumbers_81, kX4_readNumbers_82, kX4_readNumbers_83, kX4_readNumbers_86, kX4_readNumbers_87, kX4_readNumbers_88, kX4_readNumbers_90, kX4_readNumbers_93, kX4_readNumbers_95, kX4_readNumbers_98, kX4_readNumbers_100, kX4_readNumbers_102, kX4_readNumbers_105, kX4_readNumbers_107, kX4_readNumbers_108, kX4_readNumbers_110, kX4_readNumbers_112, kX4_readNumbers_115, kX4_readNumbers_117, kX4_readNumbers_118, kX4_readNumbers_121, kX4_readNumbers_124, kX4_readNumbers_126, ex_1, ex_s, exo_some, xK, xKL, xLdI, xLdA, xLdL, xStI, xStA, xStL, xInc, xBin, xDiv, xBinL, xDivL, xLcmp, xI2l, xL2i, xI2c, xC_eq, xC_ne, xC_lt, xC_ge, xC_gt, xC_le, xZ_eq, xZ_ne, xZ_lt, xZ_ge, xZ_gt, xZ_le, xGo, xTsw, tsw, xDup, xDup2, xPop, xGf, xPfI, xPfR, xiaload, xcaload, xiastore, xcastore, xAlen, xRet, xRetZ, xRetV, xObj, xMmax, xMmin, xCallS, xCallV, xCallI, popN, cs, kont_some, kont_none, noL, not_false_eq_true, Nat.reduceEqDiff, Nat.reduceBEq, Nat.reduceAdd, Nat.reduceLT, Nat.reduceSub, ↓reduceIte, decide_eq_true_eq, Bool.false_eq_true, decide_false, decide_true, or_false, false_or, or_true, true_or, or_self, lsOf_int, lsOf_ref, lsOf_long, lsOf_nil, List.replicate_succ, List.replicate_zero, Nat.add_one_sub_one, List.getElem?_cons_zero, List.getElem?_cons_succ, List.set_cons_zero, List.set_cons_succ, List.length_cons, List.length_nil, cond_true, cond_false, Value.category, List.reverse_nil, List.reverse_cons, List.nil_append, List.cons_append, true_and, and_true, beq_self_eq_true, nI_add, pk_mul, nI_and, nI_or, nI_an, Nat.zero_le, Nat.reduceLeDiff, f_iadd, f_isub, f_imul, f_iand, f_ior, f_ixor, f_ishl, f_ishr, f_iushr, f_idiv, f_irem, f_ladd, f_lmul, f_lrem, true_implies, false_implies, not_true_eq_false, and_self, ss, Option.isSome_some, List.set_set, sn, sn0, s0n, r0]
          have hf2 : Fr k (k + 1) h ((h'.set (k + 1) (.inl (false, 3, upd g i (nI v)))).set k (.inr (4, [.ref (k + 1), .int (nI (i + 1))]))) := (hf.set ⟨by omega, by omega⟩ _).set ⟨by omega, by omega⟩ _
          have hlen : (pre ++ [v]).length = i + 1 := by simp [hpl]
          have hok2 : RdOk ((h'.set (k + 1) (.inl (false, 3, upd g i (nI v)))).set k (.inr (4, [.ref (k + 1), .int (nI (i + 1))]))) k (pre ++ [v]) := by
            refine ⟨upd g i (nI v), ?_, ?_, fun j hj => ?_⟩
            · rw [hlen]
              exact ss (by rw [sn0 (by decide), r0]; rfl)
            · rw [s0n (by decide)]; exact set_get r1 _
            · rw [hlen] at hj
              rw [upd_eq]
              by_cases z : j = i
              · rw [if_pos z, z, ← hpl]; simp
              · rw [if_neg z]
                obtain ⟨g2, -, b2, c2⟩ := hok (by omega)
                rw [r1] at b2
                cases b2
                rw [c2 j (by omega)]
                simp [List.getD_eq_getElem?_getD, List.getElem?_append_left (show j < pre.length by omega)]
          refine sp_letter (hc.fr hf2 (by omega)) (by omega) ?_
          have none2 : rdK tx n (f + 1) q = none → K (some (.int (-4))) ((h'.set (k + 1) (.inl (false, 3, upd g i (nI v)))).set k (.inr (4, [.ref (k + 1), .int (nI (i + 1))]))) := fun z => by
            have he' : rdK tx n 3 p = none := by rw [he, z]; rfl
            have kk := kk _ hf2 hok2.at (fun vs q hz => by rw [he'] at hz; cases hz)
            rw [he'] at kk
            exact kk
          cases hlt : ltA tx n e with
          | none =>
            have hz : rdK tx n (f + 1) q = none := by rw [rdK, hnm, hlt]; rfl
            have := none2 hz
            simp only [nX4_readNumbers, kX4_readNumbers_0, kX4_readNumbers_1, kX4_readNumbers_3, kX4_readNumbers_4, kX4_readNumbers_6, kX4_readNumbers_8, kX4_readNumbers_9, kX4_readNumbers_12, kX4_readNumbers_13, kX4_readNumbers_16, kX4_readNumbers_17, kX4_readNumbers_18, kX4_readNumbers_20, kX4_readNumbers_23, kX4_readNumbers_25, kX4_readNumbers_27, kX4_readNumbers_29, kX4_readNumbers_32, kX4_readNumbers_34, kX4_readNumbers_35, kX4_readNumbers_38, kX4_readNumbers_39, kX4_readNumbers_40, kX4_readNumbers_42, kX4_readNumbers_45, kX4_readNumbers_47, kX4_readNumbers_49, kX4_readNumbers_51, kX4_readNumbers_54, kX4_readNumbers_56, kX4_readNumbers_58, kX4_readNumbers_59, kX4_readNumbers_61, kX4_readNumbers_62, kX4_readNumbers_64, kX4_readNumbers_67, kX4_readNumbers_68, kX4_readNumbers_71, kX4_readNumbers_73, kX4_readNumbers_75, kX4_readNumbers_78, kX4_readNumbers_79, kX4_readNumbers_81, kX4_readNumbers_82, kX4_readNumbers_83, kX4_readNumbers_86, kX4_readNumbers_87, kX4_readNumbers_88, kX4_readNumbers_90, kX4_readNumbers_93, kX4_readNumbers_95, kX4_readNumbers_98, kX4_readNumbers_100, kX4_readNumbers_102, kX4_readNumbers_105, kX4_readNumbers_107, kX4_readNumbers_108, kX4_readNumbers_110, kX4_readNumbers_112, kX4_readNumbers_115, kX4_readNumbers_117, kX4_readNumbers_118, kX4_readNumbers_121, kX4_readNumbers_124, kX4_readNumbers_126, ex_1, ex_s, exo_some, xK, xKL, xLdI, xLdA, xLdL, xStI, xStA, xStL, xInc, xBin, xDiv, xBinL, xDivL, xLcmp, xI2l, xL2i, xI2c, xC_eq, xC_ne, xC_lt, xC_ge, xC_gt, xC_le, xZ_eq, xZ_ne, xZ_lt, xZ_ge, xZ_gt, xZ_le, xGo, xTsw, tsw, xDup, xDup2, xPop, xGf, xPfI, xPfR, xiaload, xcaload, xiastore, xcastore, xAlen, xRet, xRetZ, xRetV, xObj, xMmax, xMmin, xCallS, xCallV, xCallI, popN, cs, kont_some, kont_none, noL, not_false_eq_true, Nat.reduceEqDiff, Nat.reduceBEq, Nat.reduceAdd, Nat.reduceLT, Nat.reduceSub, ↓reduceIte, decide_eq_true_eq, Bool.false_eq_true, decide_false, decide_true, or_false, false_or, or_true, true_or, or_self, lsOf_int, lsOf_ref, lsOf_long, lsOf_nil, List.replicate_succ, List.replicate_zero, Nat.add_one_sub_one, List.getElem?_cons_zero, List.getElem?_cons_succ, List.set_cons_zero, List.set_cons_succ, List.length_cons, List.length_nil, cond_true, cond_false, Value.category, List.reverse_nil, List.reverse_cons, List.nil_append, List.cons_append, true_and, and_true, beq_self_eq_true, nI_add, pk_mul, nI_and, nI_or, nI_an, Nat.zero_le, Nat.reduceLeDiff, f_iadd, f_isub, f_imul, f_iand, f_ior, f_ixor, f_ishl, f_ishr, f_iushr, f_idiv, f_irem, f_ladd, f_lmul, f_lrem, oI, m459, m444]
            exact ⟨fun _ => ⟨False.elim, fun _ => this⟩, False.elim⟩
          | some s =>
            have hs := ltA_lt hlt
            have hs128 : s < 128 := by
              obtain ⟨N, f0, -, -, -, ht⟩ := hc
              rw [hs.2]; exact (ht e hs.1).2
            have hstep : rdK tx n (f + 1) q = if s = 59 then some ([v], e + 1) else if s = 44 then (rdK tx n f (e + 1)).map (fun r => (v :: r.1, r.2)) else none := by rw [rdK, hnm, hlt]; rfl
            simp only [nX4_readNumbers, kX4_readNumbers_0, kX4_readNumbers_1, kX4_readNumbers_3, kX4_readNumbers_4, kX4_readNumbers_6, kX4_readNumbers_8, kX4_readNumbers_9, kX4_readNumbers_12, kX4_readNumbers_13, kX4_readNumbers_16, kX4_readNumbers_17, kX4_readNumbers_18, kX4_readNumbers_20, kX4_readNumbers_23, kX4_readNumbers_25, kX4_readNumbers_27, kX4_readNumbers_29, kX4_readNumbers_32, kX4_readNumbers_34, kX4_readNumbers_35, kX4_readNumbers_38, kX4_readNumbers_39, kX4_readNumbers_40, kX4_readNumbers_42, kX4_readNumbers_45, kX4_readNumbers_47, kX4_readNumbers_49, kX4_readNumbers_51, kX4_readNumbers_54, kX4_readNumbers_56, kX4_readNumbers_58, kX4_readNumbers_59, kX4_readNumbers_61, kX4_readNumbers_62, kX4_readNumbers_64, kX4_readNumbers_67, kX4_readNumbers_68, kX4_readNumbers_71, kX4_readNumbers_73, kX4_readNumbers_75, kX4_readNumbers_78, kX4_readNumbers_79, kX4_readNumbers_81, kX4_readNumbers_82, kX4_readNumbers_83, kX4_readNumbers_86, kX4_readNumbers_87, kX4_readNumbers_88, kX4_readNumbers_90, kX4_readNumbers_93, kX4_readNumbers_95, kX4_readNumbers_98, kX4_readNumbers_100, kX4_readNumbers_102, kX4_readNumbers_105, kX4_readNumbers_107, kX4_readNumbers_108, kX4_readNumbers_110, kX4_readNumbers_112, kX4_readNumbers_115, kX4_readNumbers_117, kX4_readNumbers_118, kX4_readNumbers_121, kX4_readNumbers_124, kX4_readNumbers_126, ex_1, ex_s, exo_some, xK, xKL, xLdI, xLdA, xLdL, xStI, xStA, xStL, xInc, xBin, xDiv, xBinL, xDivL, xLcmp, xI2l, xL2i, xI2c, xC_eq, xC_ne, xC_lt, xC_ge, xC_gt, xC_le, xZ_eq, xZ_ne, xZ_lt, xZ_ge, xZ_gt, xZ_le, xGo, xTsw, tsw, xDup, xDup2, xPop, xGf, xPfI, xPfR, xiaload, xcaload, xiastore, xcastore, xAlen, xRet, xRetZ, xRetV, xObj, xMmax, xMmin, xCallS, xCallV, xCallI, popN, cs, kont_some, kont_none, noL, not_false_eq_true, Nat.reduceEqDiff, Nat.reduceBEq, Nat.reduceAdd, Nat.reduceLT, Nat.reduceSub, ↓reduceIte, decide_eq_true_eq, Bool.false_eq_true, decide_false, decide_true, or_false, false_or, or_true, true_or, or_self, lsOf_int, lsOf_ref, lsOf_long, lsOf_nil, List.replicate_succ, List.replicate_zero, Nat.add_one_sub_one, List.getElem?_cons_zero, List.getElem?_cons_succ, List.set_cons_zero, List.set_cons_succ, List.length_cons, List.length_nil, cond_true, cond_false, Value.category, List.reverse_nil, List.reverse_cons, List.nil_append, List.cons_append, true_and, and_true, beq_self_eq_true, nI_add, pk_mul, nI_and, nI_or, nI_an, Nat.zero_le, Nat.reduceLeDiff, f_iadd, f_isub, f_imul, f_iand, f_ior, f_ixor, f_ishl, f_ishr, f_iushr, f_idiv, f_irem, f_ladd, f_lmul, f_lrem, oI, nI_eq (show s < 2 ^ 31 by omega) (show 59 < 2 ^ 31 by decide), nI_eq (show s < 2 ^ 31 by omega) (show 44 < 2 ^ 31 by decide)]
            refine ⟨fun z => ⟨fun z2 => ?_, fun z2 => ?_⟩, fun z => ?_⟩
            · -- a comma
              refine ih (i + 1) (by omega) (pre ++ [v]) (by simp [hpl]) (e + 1) (by omega) _ hf2 hok2.at (fun _ => hok2) ?_ _ _ _
              rw [he, hstep, if_neg z, if_pos z2]
              cases rdK tx n f (e + 1) <;> simp
            · exact none2 (by rw [hstep, if_neg z, if_neg z2])
            · have he' : rdK tx n 3 p = some (pre ++ [v], e + 1) := by rw [he, hstep, if_pos z]; rfl
              have kk := kk _ hf2 hok2.at (fun vs q hz => by rw [he'] at hz; cases hz; exact hok2)
              rw [he'] at kk
              exact kk
        cases hfg2 : fgA tx n (q + 1) with
        | none =>
          simp only [nX4_readNumbers, kX4_readNumbers_0, kX4_readNumbers_1, kX4_readNumbers_3, kX4_readNumbers_4, kX4_readNumbers_6, kX4_readNumbers_8, kX4_readNumbers_9, kX4_readNumbers_12, kX4_readNumbers_13, kX4_readNumbers_16, kX4_readNumbers_17, kX4_readNumbers_18, kX4_readNumbers_20, kX4_readNumbers_23, kX4_readNumbers_25, kX4_readNumbers_27, kX4_readNumbers_29, kX4_readNumbers_32, kX4_readNumbers_34, kX4_readNumbers_35, kX4_readNumbers_38, kX4_readNumbers_39, kX4_readNumbers_40, kX4_readNumbers_42, kX4_readNumbers_45, kX4_readNumbers_47, kX4_readNumbers_49, kX4_readNumbers_51, kX4_readNumbers_54, kX4_readNumbers_56, kX4_readNumbers_58, kX4_readNumbers_59, kX4_readNumbers_61, kX4_readNumbers_62, kX4_readNumbers_64, kX4_readNumbers_67, kX4_readNumbers_68, kX4_readNumbers_71, kX4_readNumbers_73, kX4_readNumbers_75, kX4_readNumbers_78, kX4_readNumbers_79, kX4_readNumbers_81, kX4_readNumbers_82, kX4_readNumbers_83, kX4_readNumbers_86, kX4_readNumbers_87, kX4_readNumbers_88, kX4_readNumbers_90, kX4_readNumbers_93, kX4_readNumbers_95, kX4_readNumbers_98, kX4_readNumbers_100, kX4_readNumbers_102, kX4_readNumbers_105, kX4_readNumbers_107, kX4_readNumbers_108, kX4_readNumbers_110, kX4_readNumbers_112, kX4_readNumbers_115, kX4_readNumbers_117, kX4_readNumbers_118, kX4_readNumbers_121, kX4_readNumbers_124, kX4_readNumbers_126, ex_1, ex_s, exo_some, xK, xKL, xLdI, xLdA, xLdL, xStI, xStA, xStL, xInc, xBin, xDiv, xBinL, xDivL, xLcmp, xI2l, xL2i, xI2c, xC_eq, xC_ne, xC_lt, xC_ge, xC_gt, xC_le, xZ_eq, xZ_ne, xZ_lt, xZ_ge, xZ_gt, xZ_le, xGo, xTsw, tsw, xDup, xDup2, xPop, xGf, xPfI, xPfR, xiaload, xcaload, xiastore, xcastore, xAlen, xRet, xRetZ, xRetV, xObj, xMmax, xMmin, xCallS, xCallV, xCallI, popN, cs, kont_some, kont_none, noL, not_false_eq_true, Nat.reduceEqDiff, Nat.reduceBEq, Nat.reduceAdd, Nat.reduceLT, Nat.reduceSub, ↓reduceIte, decide_eq_true_eq, Bool.false_eq_true, decide_false, decide_true, or_false, false_or, or_true, true_or, or_self, lsOf_int, lsOf_ref, lsOf_long, lsOf_nil, List.replicate_succ, List.replicate_zero, Nat.add_one_sub_one, List.getElem?_cons_zero, List.getElem?_cons_succ, List.set_cons_zero, List.set_cons_succ, List.length_cons, List.length_nil, cond_true, cond_false, Value.category, List.reverse_nil, List.reverse_cons, List.nil_append, List.cons_append, true_and, and_true, beq_self_eq_true, nI_add, pk_mul, nI_and, nI_or, nI_an, Nat.zero_le, Nat.reduceLeDiff, f_iadd, f_isub, f_imul, f_iand, f_ior, f_ixor, f_ishl, f_ishr, f_iushr, f_idiv, f_irem, f_ladd, f_lmul, f_lrem, oI_none]
          refine ⟨fun _ => tail x (q + 1) (by omega) (by omega) (by rw [nmS, hfg]; simp only [hfg2]) _, fun z => absurd trivial z⟩
        | some y =>
          have hy := fgA_le hfg2
          simp only [nX4_readNumbers, kX4_readNumbers_0, kX4_readNumbers_1, kX4_readNumbers_3, kX4_readNumbers_4, kX4_readNumbers_6, kX4_readNumbers_8, kX4_readNumbers_9, kX4_readNumbers_12, kX4_readNumbers_13, kX4_readNumbers_16, kX4_readNumbers_17, kX4_readNumbers_18, kX4_readNumbers_20, kX4_readNumbers_23, kX4_readNumbers_25, kX4_readNumbers_27, kX4_readNumbers_29, kX4_readNumbers_32, kX4_readNumbers_34, kX4_readNumbers_35, kX4_readNumbers_38, kX4_readNumbers_39, kX4_readNumbers_40, kX4_readNumbers_42, kX4_readNumbers_45, kX4_readNumbers_47, kX4_readNumbers_49, kX4_readNumbers_51, kX4_readNumbers_54, kX4_readNumbers_56, kX4_readNumbers_58, kX4_readNumbers_59, kX4_readNumbers_61, kX4_readNumbers_62, kX4_readNumbers_64, kX4_readNumbers_67, kX4_readNumbers_68, kX4_readNumbers_71, kX4_readNumbers_73, kX4_readNumbers_75, kX4_readNumbers_78, kX4_readNumbers_79, kX4_readNumbers_81, kX4_readNumbers_82, kX4_readNumbers_83, kX4_readNumbers_86, kX4_readNumbers_87, kX4_readNumbers_88, kX4_readNumbers_90, kX4_readNumbers_93, kX4_readNumbers_95, kX4_readNumbers_98, kX4_readNumbers_100, kX4_readNumbers_102, kX4_readNumbers_105, kX4_readNumbers_107, kX4_readNumbers_108, kX4_readNumbers_110, kX4_readNumbers_112, kX4_readNumbers_115, kX4_readNumbers_117, kX4_readNumbers_118, kX4_readNumbers_121, kX4_readNumbers_124, kX4_readNumbers_126, ex_1, ex_s, exo_some, xK, xKL, xLdI, xLdA, xLdL, xStI, xStA, xStL, xInc, xBin, xDiv, xBinL, xDivL, xLcmp, xI2l, xL2i, xI2c, xC_eq, xC_ne, xC_lt, xC_ge, xC_gt, xC_le, xZ_eq, xZ_ne, xZ_lt, xZ_ge, xZ_gt, xZ_le, xGo, xTsw, tsw, xDup, xDup2, xPop, xGf, xPfI, xPfR, xiaload, xcaload, xiastore, xcastore, xAlen, xRet, xRetZ, xRetV, xObj, xMmax, xMmin, xCallS, xCallV, xCallI, popN, cs, kont_some, kont_none, noL, not_false_eq_true, Nat.reduceEqDiff, Nat.reduceBEq, Nat.reduceAdd, Nat.reduceLT, Nat.reduceSub, ↓reduceIte, decide_eq_true_eq, Bool.false_eq_true, decide_false, decide_true, or_false, false_or, or_true, true_or, or_self, lsOf_int, lsOf_ref, lsOf_long, lsOf_nil, List.replicate_succ, List.replicate_zero, Nat.add_one_sub_one, List.getElem?_cons_zero, List.getElem?_cons_succ, List.set_cons_zero, List.set_cons_succ, List.length_cons, List.length_nil, cond_true, cond_false, Value.category, List.reverse_nil, List.reverse_cons, List.nil_append, List.cons_append, true_and, and_true, beq_self_eq_true, nI_add, pk_mul, nI_and, nI_or, nI_an, Nat.zero_le, Nat.reduceLeDiff, f_iadd, f_isub, f_imul, f_iand, f_ior, f_ixor, f_ishl, f_ishr, f_iushr, f_idiv, f_irem, f_ladd, f_lmul, f_lrem, oI, m4_eq (show y < 2 ^ 31 by omega)]
          refine ⟨False.elim, fun _ => ?_⟩
          refine SW.go VX4_readNumbers (Nat.zero_le _) (Nat.zero_le _) (fun z => decide (z = 67)) 120 ?_
          simp only [nX4_readNumbers, kX4_readNumbers_0, kX4_readNumbers_1, kX4_readNumbers_3, kX4_readNumbers_4, kX4_readNumbers_6, kX4_readNumbers_8, kX4_readNumbers_9, kX4_readNumbers_12, kX4_readNumbers_13, kX4_readNumbers_16, kX4_readNumbers_17, kX4_readNumbers_18, kX4_readNumbers_20, kX4_readNumbers_23, kX4_readNumbers_25, kX4_readNumbers_27, kX4_readNumbers_29, kX4_readNumbers_32, kX4_readNumbers_34, kX4_readNumbers_35, kX4_readNumbers_38, kX4_readNumbers_39, kX4_readNumbers_40, kX4_readNumbers_42, kX4_readNumbers_45, kX4_readNumbers_47, kX4_readNumbers_49, kX4_readNumbers_51, kX4_readNumbers_54, kX4_readNumbers_56, kX4_readNumbers_58, kX4_readNumbers_59, kX4_readNumbers_61, kX4_readNumbers_62, kX4_readNumbers_64, kX4_readNumbers_67, kX4_readNumbers_68, kX4_readNumbers_71, kX4_readNumbers_73, kX4_readNumbers_75, kX4_readNumbers_78, kX4_readNumbers_79, kX4_readNumbers_81, kX4_readNumbers_82, kX4_readNumbers_83, kX4_readNumbers_86, kX4_readNumbers_87, kX4_readNumbers_88, kX4_readNumbers_90, kX4_readNumbers_93, kX4_readNumbers_95, kX4_readNumbers_98, kX4_readNumbers_100, kX4_readNumbers_102, kX4_readNumbers_105, kX4_readNumbers_107, kX4_readNumbers_108, kX4_readNumbers_110, kX4_readNumbers_112, kX4_readNumbers_115, kX4_readNumbers_117, kX4_readNumbers_118, kX4_readNumbers_121, kX4_readNumbers_124, kX4_readNumbers_126, ex_1, ex_s, exo_some, xK, xKL, xLdI, xLdA, xLdL, xStI, xStA, xStL, xInc, xBin, xDiv, xBinL, xDivL, xLcmp, xI2l, xL2i, xI2c, xC_eq, xC_ne, xC_lt, xC_ge, xC_gt, xC_le, xZ_eq, xZ_ne, xZ_lt, xZ_ge, xZ_gt, xZ_le, xGo, xTsw, tsw, xDup, xDup2, xPop, xGf, xPfI, xPfR, xiaload, xcaload, xiastore, xcastore, xAlen, xRet, xRetZ, xRetV, xObj, xMmax, xMmin, xCallS, xCallV, xCallI, popN, cs, kont_some, kont_none, noL, not_false_eq_true, Nat.reduceEqDiff, Nat.reduceBEq, Nat.reduceAdd, Nat.reduceLT, Nat.reduceSub, ↓reduceIte, decide_eq_true_eq, Bool.false_eq_true, decide_false, decide_true, or_false, false_or, or_true, true_or, or_self, lsOf_int, lsOf_ref, lsOf_long, lsOf_nil, List.replicate_succ, List.replicate_zero, Nat.add_one_sub_one, List.getElem?_cons_zero, List.getElem?_cons_succ, List.set_cons_zero, List.set_cons_succ, List.length_cons, List.length_nil, cond_true, cond_false, Value.category, List.reverse_nil, List.reverse_cons, List.nil_append, List.cons_append, true_and, and_true, beq_self_eq_true, nI_add, pk_mul, nI_and, nI_or, nI_an, Nat.zero_le, Nat.reduceLeDiff, f_iadd, f_isub, f_imul, f_iand, f_ior, f_ixor, f_ishl, f_ishr, f_iushr, f_idiv, f_irem, f_ladd, f_lmul, f_lrem]
          exact tail (10 * x + y) (q + 1 + 1) (by omega) (by omega) (by rw [nmS, hfg]; simp only [hfg2]) _
  refine Spc.go VX4_readNumbers (by decide +kernel) (fun _ => Nat.le_of_ble_eq_true rfl) (fun q => decide (q = 6)) 120 ?_
  simp only [nX4_readNumbers, kX4_readNumbers_0, kX4_readNumbers_1, kX4_readNumbers_3, kX4_readNumbers_4, kX4_readNumbers_6, kX4_readNumbers_8, kX4_readNumbers_9, kX4_readNumbers_12, kX4_readNumbers_13, kX4_readNumbers_16, kX4_readNumbers_17, kX4_readNumbers_18, kX4_readNumbers_20, kX4_readNumbers_23, kX4_readNumbers_25, kX4_readNumbers_27, kX4_readNumbers_29, kX4_readNumbers_32, kX4_readNumbers_34, kX4_readNumbers_35, kX4_readNumbers_38, kX4_readNumbers_39, kX4_readNumbers_40, kX4_readNumbers_42, kX4_readNumbers_45, kX4_readNumbers_47, kX4_readNumbers_49, kX4_readNumbers_51, kX4_readNumbers_54, kX4_readNumbers_56, kX4_readNumbers_58, kX4_readNumbers_59, kX4_readNumbers_61, kX4_readNumbers_62, kX4_readNumbers_64, kX4_readNumbers_67, kX4_readNumbers_68, kX4_readNumbers_71, kX4_readNumbers_73, kX4_readNumbers_75, kX4_readNumbers_78, kX4_readNumbers_79, kX4_readNumbers_81, kX4_readNumbers_82, kX4_readNumbers_83, kX4_readNumbers_86, kX4_readNumbers_87, kX4_readNumbers_88, kX4_readNumbers_90, kX4_readNumbers_93, kX4_readNumbers_95, kX4_readNumbers_98, kX4_readNumbers_100, kX4_readNumbers_102, kX4_readNumbers_105, kX4_readNumbers_107, kX4_readNumbers_108, kX4_readNumbers_110, kX4_readNumbers_112, kX4_readNumbers_115, kX4_readNumbers_117, kX4_readNumbers_118, kX4_readNumbers_121, kX4_readNumbers_124, kX4_readNumbers_126, ex_1, ex_s, exo_some, xK, xKL, xLdI, xLdA, xLdL, xStI, xStA, xStL, xInc, xBin, xDiv, xBinL, xDivL, xLcmp, xI2l, xL2i, xI2c, xC_eq, xC_ne, xC_lt, xC_ge, xC_gt, xC_le, xZ_eq, xZ_ne, xZ_lt, xZ_ge, xZ_gt, xZ_le, xGo, xTsw, tsw, xDup, xDup2, xPop, xGf, xPfI, xPfR, xiaload, xcaload, xiastore, xcastore, xAlen, xRet, xRetZ, xRetV, xObj, xMmax, xMmin, xCallS, xCallV, xCallI, popN, cs, kont_some, kont_none, noL, not_false_eq_true, Nat.reduceEqDiff, Nat.reduceBEq, Nat.reduceAdd, Nat.reduceLT, Nat.reduceSub, ↓reduceIte, decide_eq_true_eq, Bool.false_eq_true, decide_false, decide_true, or_false, false_or, or_true, true_or, or_self, lsOf_int, lsOf_ref, lsOf_long, lsOf_nil, List.replicate_succ, List.replicate_zero, Nat.add_one_sub_one, List.getElem?_cons_zero, List.getElem?_cons_succ, List.set_cons_zero, List.set_cons_succ, List.length_cons, List.length_nil, cond_true, cond_false, Value.category, List.reverse_nil, List.reverse_cons, List.nil_append, List.cons_append, true_and, and_true, beq_self_eq_true, nI_add, pk_mul, nI_and, nI_or, nI_an, Nat.zero_le, Nat.reduceLeDiff, f_iadd, f_isub, f_imul, f_iand, f_ior, f_ixor, f_ishl, f_ishr, f_iushr, f_idiv, f_irem, f_ladd, f_lmul, f_lrem]
  exact loop 3 0 rfl [] rfl p (by omega) h Fr.rf hR (fun z => absurd z (by decide)) (by cases rdK tx n 3 p <;> simp) _ _ _
