/-! ===== the longest row of lives ===== -/
def CounselAt (h : SH) (k : Nat) : Prop := h[k]? = some (.inr (0, [.ref (k + 1), .ref (k + 2)])) ∧ (∃ a, h[k + 1]? = some (.inl (false, 64, a))) ∧ ∃ b, h[k + 2]? = some (.inl (false, 64, b))
theorem CounselAt.fr {h h' : SH} {lo hi k : Nat} (hC : CounselAt h k) (hf : Fr lo hi h h') (hj : hi < k ∨ k + 2 < lo) : CounselAt h' k := by
  obtain ⟨a, ⟨b, hb⟩, c, hc⟩ := hC
  exact ⟨by rw [hf.2 _ (by omega)]; exact a, ⟨b, by rw [hf.2 _ (by omega)]; exact hb⟩, c, by rw [hf.2 _ (by omega)]; exact hc⟩
/-- a life can follow, when those of the set S are lived -/
def follow (P : Pl) (r : Hr) (S l : Nat) : Bool := !(S ||| lv r).testBit l && canN P l (an (dr r) (linN P S))
def maxU (f : Nat → Nat) : Nat → Nat
  | 0 => 0
  | n + 1 => max (maxU f n) (f n)
theorem maxU_le {f : Nat → Nat} {c : Nat} : ∀ n, (∀ i, i < n → f i ≤ c) → maxU f n ≤ c
  | 0, _ => Nat.zero_le _
  | n + 1, h => Nat.max_le.mpr ⟨maxU_le n (fun i hi => h i (by omega)), h n (by omega)⟩
theorem le_maxU {f : Nat → Nat} : ∀ {n i : Nat}, i < n → f i ≤ maxU f n
  | n + 1, i, h => by
    rw [maxU]
    rcases Nat.lt_or_ge i n with z | z
    · exact Nat.le_trans (le_maxU z) (Nat.le_max_left _ _)
    · have e : i = n := by omega
      subst e; exact Nat.le_max_right _ _
theorem maxU_cong {f g : Nat → Nat} : ∀ {n : Nat}, (∀ i, i < n → f i = g i) → maxU f n = maxU g n
  | 0, _ => rfl
  | n + 1, h => by rw [maxU, maxU, maxU_cong (fun i hi => h i (by omega)), h n (by omega)]
theorem maxU_at {f : Nat → Nat} : ∀ {n : Nat}, 0 < maxU f n → ∃ i, i < n ∧ f i = maxU f n
  | 0, h => by simp [maxU] at h
  | n + 1, h => by
    rw [maxU] at h ⊢
    by_cases z : maxU f n ≤ f n
    · exact ⟨n, by omega, by rw [Nat.max_eq_right z]⟩
    · have e : max (maxU f n) (f n) = maxU f n := Nat.max_eq_left (by omega)
      rw [e] at h ⊢
      obtain ⟨i, h1, h2⟩ := maxU_at h
      exact ⟨i, by omega, h2⟩
def lgF (P : Pl) (r : Hr) : Nat → Nat → Nat
  | 0, _ => 0
  | f + 1, S => maxU (fun l => if follow P r S l = true then 1 + lgF P r f (S ||| 2 ^ l) else 0) (pL P)
/-- the longest row from S on -/
def Lg (P : Pl) (r : Hr) (S : Nat) : Nat := lgF P r 6 S
def freeN (S : Nat) : Nat := fb_ct (fun l => !S.testBit l) 6
theorem freeN_or {S l : Nat} (hl : l < 6) (h : S.testBit l = false) : freeN (S ||| 2 ^ l) + 1 = freeN S := by
  have h1 := fb_ct_upd (fun k => !S.testBit k) false hl
  simp only [h, Bool.not_false, if_true, Bool.false_eq_true, if_false] at h1
  rw [freeN, freeN]
  have e : fb_ct (fun k => !(S ||| 2 ^ l).testBit k) 6 = fb_ct (fun k => if k = l then false else !S.testBit k) 6 := fb_ct_cong (fun k _ => by
    rw [Nat.testBit_or, Nat.testBit_two_pow]
    by_cases z : k = l
    · subst z; simp
    · have : ¬ l = k := fun q => z q.symm
      simp [z, this])
  rw [e]
  omega
theorem follow_not {P : Pl} {r : Hr} {S l : Nat} (h : follow P r S l = true) : S.testBit l = false := by
  simp only [follow, Nat.testBit_or, Bool.and_eq_true, Bool.not_eq_true', Bool.or_eq_false_iff] at h
  exact h.1.1
theorem lgF_st {P : Pl} {r : Hr} (hL : pL P ≤ 6) : ∀ f S, freeN S ≤ f → lgF P r (f + 1) S = lgF P r f S
  | 0, S, h => by
    show maxU _ _ = 0
    refine Nat.le_zero.mp (maxU_le _ (fun l hl => ?_))
    split
    · next q =>
      have h1 := freeN_or (show l < 6 by omega) (follow_not q)
      omega
    · exact Nat.le_refl _
  | f + 1, S, h => by
    rw [lgF, lgF]
    refine maxU_cong (fun l hl => ?_)
    split
    · next q =>
      have h1 := freeN_or (show l < 6 by omega) (follow_not q)
      rw [lgF_st hL f _ (by omega)]
    · rfl
theorem Lg_eq {P : Pl} {r : Hr} (hL : pL P ≤ 6) (S : Nat) : Lg P r S = maxU (fun l => if follow P r S l = true then 1 + Lg P r (S ||| 2 ^ l) else 0) (pL P) := by
  have h : freeN S ≤ 6 := fb_ct_le _ _
  have h1 := lgF_st (P := P) (r := r) hL 6 S h
  rw [Lg, ← h1]
  rfl
theorem Lg_free {P : Pl} {r : Hr} (hL : pL P ≤ 6) : ∀ n S, freeN S ≤ n → Lg P r S ≤ freeN S
  | n, S, h => by
    rw [Lg_eq hL]
    refine maxU_le _ (fun l hl => ?_)
    split
    · next q =>
      have h1 := freeN_or (show l < 6 by omega) (follow_not q)
      match n, h with
      | 0, h => omega
      | n + 1, h =>
        have h2 := Lg_free hL (r := r) n (S ||| 2 ^ l) (by omega)
        omega
    · exact Nat.zero_le _
theorem Lg_le {P : Pl} {r : Hr} (hL : pL P ≤ 6) (S : Nat) : Lg P r S ≤ 6 := Nat.le_trans (Lg_free hL _ S (Nat.le_refl _)) (fb_ct_le _ _)
theorem sp_canFollow {kp k S l : Nat} {P : Pl} {r : Hr} {h : SH} {K : Option Value → SH → Prop} (hP : PlanAt h kp P) (hW : WfP P) (hr : h[k]? = some (hrC r)) (hH : WfH P r) (hl : l < pL P) (hS : S < 2 ^ pL P) (kk : K (some (.int (nI (follow P r S l).toNat))) h) : Spc MX0_canFollow [.ref kp, .ref k, .int (nI S), .int (nI l)] h K := by
  refine Spc.to ?_ kk
  have hr' : h[k]? = some (.inr (1, [.int (nI (dr r)), .int (nI (lv r)), .int (nI (cn r)), .int (nI (yr r))])) := hr
  have hd := lt256 hH.1 hW.2.2.1
  have hL6 := hW.2.2.2.1
  have hS64 := lt64 hS hL6
  have hSv : S ||| lv r < 2 ^ pL P := Nat.or_lt_two_pow hS hH.2.1
  have hSv64 := lt64 hSv hL6
  have hPo := hP
  obtain ⟨f1, f2, f3, f4, f5, f6, f7, h0, -⟩ := hPo
  refine Spc.go VX0_canFollow (by decide +kernel) (fun _ => Nat.le_of_ble_eq_true rfl) (fun _ => false) 120 ?_
  simp only [nX0_canFollow, kX0_canFollow_0, kX0_canFollow_1, kX0_canFollow_2, kX0_canFollow_5, kX0_canFollow_6, kX0_canFollow_7, kX0_canFollow_10, kX0_canFollow_13, kX0_canFollow_14, kX0_canFollow_15, kX0_canFollow_16, kX0_canFollow_19, kX0_canFollow_20, kX0_canFollow_21, kX0_canFollow_24, kX0_canFollow_25, kX0_canFollow_26, kX0_canFollow_27, kX0_canFollow_30, kX0_canFollow_33, kX0_canFollow_34, kX0_canFollow_37, kX0_canFollow_38, ex_1, ex_s, exo_some, xK, xKL, xLdI, xLdA, xLdL, xStI, xStA, xStL, xInc, xBin, xDiv, xBinL, xDivL, xLcmp, xI2l, xL2i, xI2c, xC_eq, xC_ne, xC_lt, xC_ge, xC_gt, xC_le, xZ_eq, xZ_ne, xZ_lt, xZ_ge, xZ_gt, xZ_le, xGo, xTsw, tsw, xDup, xDup2, xPop, xGf, xPfI, xPfR, xiaload, xcaload, xiastore, xcastore, xAlen, xRet, xRetZ, xRetV, xObj, xMmax, xMmin, xCallS, xCallV, xCallI, popN, cs, kont_some, kont_none, noL, not_false_eq_true, Nat.reduceEqDiff, Nat.reduceBEq, Nat.reduceAdd, Nat.reduceLT, Nat.reduceSub, ↓reduceIte, decide_eq_true_eq, Bool.false_eq_true, decide_false, decide_true, or_false, false_or, or_true, true_or, or_self, lsOf_int, lsOf_ref, lsOf_long, lsOf_nil, List.replicate_succ, List.replicate_zero, Nat.add_one_sub_one, List.getElem?_cons_zero, List.getElem?_cons_succ, List.set_cons_zero, List.set_cons_succ, List.length_cons, List.length_nil, cond_true, cond_false, Value.category, List.reverse_nil, List.reverse_cons, List.nil_append, List.cons_append, true_and, and_true, beq_self_eq_true, nI_add, pk_mul, nI_and, nI_or, nI_an, Nat.zero_le, Nat.reduceLeDiff, f_iadd, f_isub, f_imul, f_iand, f_ior, f_ixor, f_ishl, f_ishr, f_iushr, f_idiv, f_irem, f_ladd, f_lmul, f_lrem, hr']
  refine sp_has (by omega) (by omega) ?_
  simp only [nX0_canFollow, kX0_canFollow_0, kX0_canFollow_1, kX0_canFollow_2, kX0_canFollow_5, kX0_canFollow_6, kX0_canFollow_7, kX0_canFollow_10, kX0_canFollow_13, kX0_canFollow_14, kX0_canFollow_15, kX0_canFollow_16, kX0_canFollow_19, kX0_canFollow_20, kX0_canFollow_21, kX0_canFollow_24, kX0_canFollow_25, kX0_canFollow_26, kX0_canFollow_27, kX0_canFollow_30, kX0_canFollow_33, kX0_canFollow_34, kX0_canFollow_37, kX0_canFollow_38, ex_1, ex_s, exo_some, xK, xKL, xLdI, xLdA, xLdL, xStI, xStA, xStL, xInc, xBin, xDiv, xBinL, xDivL, xLcmp, xI2l, xL2i, xI2c, xC_eq, xC_ne, xC_lt, xC_ge, xC_gt, xC_le, xZ_eq, xZ_ne, xZ_lt, xZ_ge, xZ_gt, xZ_le, xGo, xTsw, tsw, xDup, xDup2, xPop, xGf, xPfI, xPfR, xiaload, xcaload, xiastore, xcastore, xAlen, xRet, xRetZ, xRetV, xObj, xMmax, xMmin, xCallS, xCallV, xCallI, popN, cs, kont_some, kont_none, noL, not_false_eq_true, Nat.reduceEqDiff, Nat.reduceBEq, Nat.reduceAdd, Nat.reduceLT, Nat.reduceSub, ↓reduceIte, decide_eq_true_eq, Bool.false_eq_true, decide_false, decide_true, or_false, false_or, or_true, true_or, or_self, lsOf_int, lsOf_ref, lsOf_long, lsOf_nil, List.replicate_succ, List.replicate_zero, Nat.add_one_sub_one, List.getElem?_cons_zero, List.getElem?_cons_succ, List.set_cons_zero, List.set_cons_succ, List.length_cons, List.length_nil, cond_true, cond_false, Value.category, List.reverse_nil, List.reverse_cons, List.nil_append, List.cons_append, true_and, and_true, beq_self_eq_true, nI_add, pk_mul, nI_and, nI_or, nI_an, Nat.zero_le, Nat.reduceLeDiff, f_iadd, f_isub, f_imul, f_iand, f_ior, f_ixor, f_ishl, f_ishr, f_iushr, f_idiv, f_irem, f_ladd, f_lmul, f_lrem, nI_b0, hr', h0]
  refine ⟨fun q => ⟨Or.inl rfl, ?_⟩, fun q => sp_linenOf hP hW (by omega) ?_⟩
  · have q := nf_t q
    simp [follow, q]
  · simp only [nX0_canFollow, kX0_canFollow_0, kX0_canFollow_1, kX0_canFollow_2, kX0_canFollow_5, kX0_canFollow_6, kX0_canFollow_7, kX0_canFollow_10, kX0_canFollow_13, kX0_canFollow_14, kX0_canFollow_15, kX0_canFollow_16, kX0_canFollow_19, kX0_canFollow_20, kX0_canFollow_21, kX0_canFollow_24, kX0_canFollow_25, kX0_canFollow_26, kX0_canFollow_27, kX0_canFollow_30, kX0_canFollow_33, kX0_canFollow_34, kX0_canFollow_37, kX0_canFollow_38, ex_1, ex_s, exo_some, xK, xKL, xLdI, xLdA, xLdL, xStI, xStA, xStL, xInc, xBin, xDiv, xBinL, xDivL, xLcmp, xI2l, xL2i, xI2c, xC_eq, xC_ne, xC_lt, xC_ge, xC_gt, xC_le, xZ_eq, xZ_ne, xZ_lt, xZ_ge, xZ_gt, xZ_le, xGo, xTsw, tsw, xDup, xDup2, xPop, xGf, xPfI, xPfR, xiaload, xcaload, xiastore, xcastore, xAlen, xRet, xRetZ, xRetV, xObj, xMmax, xMmin, xCallS, xCallV, xCallI, popN, cs, kont_some, kont_none, noL, not_false_eq_true, Nat.reduceEqDiff, Nat.reduceBEq, Nat.reduceAdd, Nat.reduceLT, Nat.reduceSub, ↓reduceIte, decide_eq_true_eq, Bool.false_eq_true, decide_false, decide_true, or_false, false_or, or_true, true_or, or_self, lsOf_int, lsOf_ref, lsOf_long, lsOf_nil, List.replicate_succ, List.replicate_zero, Nat.add_one_sub_one, List.getElem?_cons_zero, List.getElem?_cons_succ, List.set_cons_zero, List.set_cons_succ, List.length_cons, List.length_nil, cond_true, cond_false, Value.category, List.reverse_nil, List.reverse_cons, List.nil_append, List.cons_append, true_and, and_true, beq_self_eq_true, nI_add, pk_mul, nI_and, nI_or, nI_an, Nat.zero_le, Nat.reduceLeDiff, f_iadd, f_isub, f_imul, f_iand, f_ior, f_ixor, f_ishl, f_ishr, f_iushr, f_idiv, f_irem, f_ladd, f_lmul, f_lrem, hr', h0]
    refine sp_canBe hP hW hl (an256 hd) ?_
    simp only [nX0_canFollow, kX0_canFollow_0, kX0_canFollow_1, kX0_canFollow_2, kX0_canFollow_5, kX0_canFollow_6, kX0_canFollow_7, kX0_canFollow_10, kX0_canFollow_13, kX0_canFollow_14, kX0_canFollow_15, kX0_canFollow_16, kX0_canFollow_19, kX0_canFollow_20, kX0_canFollow_21, kX0_canFollow_24, kX0_canFollow_25, kX0_canFollow_26, kX0_canFollow_27, kX0_canFollow_30, kX0_canFollow_33, kX0_canFollow_34, kX0_canFollow_37, kX0_canFollow_38, ex_1, ex_s, exo_some, xK, xKL, xLdI, xLdA, xLdL, xStI, xStA, xStL, xInc, xBin, xDiv, xBinL, xDivL, xLcmp, xI2l, xL2i, xI2c, xC_eq, xC_ne, xC_lt, xC_ge, xC_gt, xC_le, xZ_eq, xZ_ne, xZ_lt, xZ_ge, xZ_gt, xZ_le, xGo, xTsw, tsw, xDup, xDup2, xPop, xGf, xPfI, xPfR, xiaload, xcaload, xiastore, xcastore, xAlen, xRet, xRetZ, xRetV, xObj, xMmax, xMmin, xCallS, xCallV, xCallI, popN, cs, kont_some, kont_none, noL, not_false_eq_true, Nat.reduceEqDiff, Nat.reduceBEq, Nat.reduceAdd, Nat.reduceLT, Nat.reduceSub, ↓reduceIte, decide_eq_true_eq, Bool.false_eq_true, decide_false, decide_true, or_false, false_or, or_true, true_or, or_self, lsOf_int, lsOf_ref, lsOf_long, lsOf_nil, List.replicate_succ, List.replicate_zero, Nat.add_one_sub_one, List.getElem?_cons_zero, List.getElem?_cons_succ, List.set_cons_zero, List.set_cons_succ, List.length_cons, List.length_nil, cond_true, cond_false, Value.category, List.reverse_nil, List.reverse_cons, List.nil_append, List.cons_append, true_and, and_true, beq_self_eq_true, nI_add, pk_mul, nI_and, nI_or, nI_an, Nat.zero_le, Nat.reduceLeDiff, f_iadd, f_isub, f_imul, f_iand, f_ior, f_ixor, f_ishl, f_ishr, f_iushr, f_idiv, f_irem, f_ladd, f_lmul, f_lrem, nI_b0]
    refine ⟨fun q2 => ⟨Or.inl rfl, ?_⟩, fun q2 => ⟨Or.inr rfl, ?_⟩⟩
    · simp [follow, q2]
    · have q2 := nf_t q2
      simp [follow, q, q2]
theorem nI_max {a b : Nat} (ha : a < 2 ^ 31) (hb : b < 2 ^ 31) : (if nI a < nI b then nI b else nI a) = nI (max a b) := by
  by_cases q : a < b
  · rw [if_pos ((nI_ltI ha hb).mpr q), Nat.max_eq_right (by omega)]
  · rw [if_neg (fun z => q ((nI_ltI ha hb).mp z)), Nat.max_eq_left (by omega)]
/-- the row of the longest is told for the sets from m on -/
def LgAt (P : Pl) (r : Hr) (h : SH) (k m : Nat) : Prop := ∃ a : Nat → Int32, h[k + 1]? = some (.inl (false, 64, a)) ∧ ∀ S, m ≤ S → S < 2 ^ pL P → a S = nI (Lg P r S)
theorem sp_findLongest {kc kp k : Nat} {P : Pl} {r : Hr} {h : SH} {K : Option Value → SH → Prop} (hC : CounselAt h kc) (hP : PlanAt h kp P) (hW : WfP P) (hr : h[k]? = some (hrC r)) (hH : WfH P r) (hk : k < kc ∨ kc + 2 < k) (hkp : kp + 7 < kc ∨ kc + 2 < kp) (kk : ∀ h', CounselAt h' kc → LgAt P r h' kc 0 → Fr kc (kc + 2) h h' → K none h') : Spc MX0_findLongest [.ref kc, .ref kp, .ref k] h K := by
  have hL6 := hW.2.2.2.1
  have hL : pL P < 2 ^ 31 := by omega
  have hp6 := pow6 hL6
  have hp1 := Nat.one_le_two_pow (n := pL P)
  have hlow : (nI 0 + (-1 : Int32) < 0) = True := eq_true (by decide)
  have outer : ∀ m, m ≤ 2 ^ pL P → ∀ h', CounselAt h' kc → LgAt P r h' kc m → Fr kc (kc + 2) h h' → ∀ o1 o2, SW MX0_findLongest K 0 0 5 [some (.ref kc), some (.ref kp), some (.ref k), some (.int (nI m + (-1))), o1, o2] [] h' := by
    intro m
    induction m with
    | zero =>
      intro _ h' hC' hA hf o1 o2
      refine SW.go VX0_findLongest (Nat.zero_le _) (Nat.zero_le _) (fun q => decide (q = 5 ∨ q = 15)) 120 ?_
      simp only [nX0_findLongest, kX0_findLongest_0, kX0_findLongest_1, kX0_findLongest_4, kX0_findLongest_5, kX0_findLongest_6, kX0_findLongest_9, kX0_findLongest_10, kX0_findLongest_12, kX0_findLongest_13, kX0_findLongest_15, kX0_findLongest_17, kX0_findLongest_18, kX0_findLongest_21, kX0_findLongest_24, kX0_findLongest_25, kX0_findLongest_26, kX0_findLongest_27, kX0_findLongest_29, kX0_findLongest_32, kX0_findLongest_35, kX0_findLongest_37, kX0_findLongest_38, kX0_findLongest_39, kX0_findLongest_42, kX0_findLongest_43, kX0_findLongest_44, kX0_findLongest_46, kX0_findLongest_47, kX0_findLongest_48, kX0_findLongest_51, kX0_findLongest_52, kX0_findLongest_55, kX0_findLongest_57, kX0_findLongest_60, kX0_findLongest_63, kX0_findLongest_64, kX0_findLongest_67, kX0_findLongest_68, kX0_findLongest_70, kX0_findLongest_73, kX0_findLongest_76, kX0_findLongest_79, ex_1, ex_s, exo_some, xK, xKL, xLdI, xLdA, xLdL, xStI, xStA, xStL, xInc, xBin, xDiv, xBinL, xDivL, xLcmp, xI2l, xL2i, xI2c, xC_eq, xC_ne, xC_lt, xC_ge, xC_gt, xC_le, xZ_eq, xZ_ne, xZ_lt, xZ_ge, xZ_gt, xZ_le, xGo, xTsw, tsw, xDup, xDup2, xPop, xGf, xPfI, xPfR, xiaload, xcaload, xiastore, xcastore, xAlen, xRet, xRetZ, xRetV, xObj, xMmax, xMmin, xCallS, xCallV, xCallI, popN, cs, kont_some, kont_none, noL, not_false_eq_true, Nat.reduceEqDiff, Nat.reduceBEq, Nat.reduceAdd, Nat.reduceLT, Nat.reduceSub, ↓reduceIte, decide_eq_true_eq, Bool.false_eq_true, decide_false, decide_true, or_false, false_or, or_true, true_or, or_self, lsOf_int, lsOf_ref, lsOf_long, lsOf_nil, List.replicate_succ, List.replicate_zero, Nat.add_one_sub_one, List.getElem?_cons_zero, List.getElem?_cons_succ, List.set_cons_zero, List.set_cons_succ, List.length_cons, List.length_nil, cond_true, cond_false, Value.category, List.reverse_nil, List.reverse_cons, List.nil_append, List.cons_append, true_and, and_true, beq_self_eq_true, nI_add, pk_mul, nI_and, nI_or, nI_an, Nat.zero_le, Nat.reduceLeDiff, f_iadd, f_isub, f_imul, f_iand, f_ior, f_ixor, f_ishl, f_ishr, f_iushr, f_idiv, f_irem, f_ladd, f_lmul, f_lrem, hlow]
      exact ⟨fun _ => kk h' hC' hA hf, fun q => absurd trivial q⟩
    | succ S ih =>
      intro hm h' hC' hA hf o1 o2
      have hS : S < 2 ^ pL P := by omega
      have hS64 : S < 64 := by omega
      have hS31 : S < 2 ^ 31 := by omega
      have hP' := hP.fr hf (by omega)
      have hr' : h'[k]? = some (hrC r) := (hf.2 _ (by omega)).trans hr
      obtain ⟨f1, f2, f3, f4, f5, f6, f7, h0, -⟩ := id hP'
      obtain ⟨c0, -, b, hb⟩ := hC'
      obtain ⟨a, ha, hav⟩ := hA
      have inner := loopN (P := fun l => SW MX0_findLongest K 0 0 15 [some (.ref kc), some (.ref kp), some (.ref k), some (.int (nI S)), some (.int (nI (maxU (fun l => if follow P r S l = true then 1 + Lg P r (S ||| 2 ^ l) else 0) l))), some (.int (nI l))] [] h') (pL P) (by
          refine SW.go VX0_findLongest (Nat.zero_le _) (Nat.zero_le _) (fun q => decide (q = 5 ∨ q = 15)) 120 ?_
          simp only [nX0_findLongest, kX0_findLongest_0, kX0_findLongest_1, kX0_findLongest_4, kX0_findLongest_5, kX0_findLongest_6, kX0_findLongest_9, kX0_findLongest_10, kX0_findLongest_12, kX0_findLongest_13, kX0_findLongest_15, kX0_findLongest_17, kX0_findLongest_18, kX0_findLongest_21, kX0_findLongest_24, kX0_findLongest_25, kX0_findLongest_26, kX0_findLongest_27, kX0_findLongest_29, kX0_findLongest_32, kX0_findLongest_35, kX0_findLongest_37, kX0_findLongest_38, kX0_findLongest_39, kX0_findLongest_42, kX0_findLongest_43, kX0_findLongest_44, kX0_findLongest_46, kX0_findLongest_47, kX0_findLongest_48, kX0_findLongest_51, kX0_findLongest_52, kX0_findLongest_55, kX0_findLongest_57, kX0_findLongest_60, kX0_findLongest_63, kX0_findLongest_64, kX0_findLongest_67, kX0_findLongest_68, kX0_findLongest_70, kX0_findLongest_73, kX0_findLongest_76, kX0_findLongest_79, ex_1, ex_s, exo_some, xK, xKL, xLdI, xLdA, xLdL, xStI, xStA, xStL, xInc, xBin, xDiv, xBinL, xDivL, xLcmp, xI2l, xL2i, xI2c, xC_eq, xC_ne, xC_lt, xC_ge, xC_gt, xC_le, xZ_eq, xZ_ne, xZ_lt, xZ_ge, xZ_gt, xZ_le, xGo, xTsw, tsw, xDup, xDup2, xPop, xGf, xPfI, xPfR, xiaload, xcaload, xiastore, xcastore, xAlen, xRet, xRetZ, xRetV, xObj, xMmax, xMmin, xCallS, xCallV, xCallI, popN, cs, kont_some, kont_none, noL, not_false_eq_true, Nat.reduceEqDiff, Nat.reduceBEq, Nat.reduceAdd, Nat.reduceLT, Nat.reduceSub, ↓reduceIte, decide_eq_true_eq, Bool.false_eq_true, decide_false, decide_true, or_false, false_or, or_true, true_or, or_self, lsOf_int, lsOf_ref, lsOf_long, lsOf_nil, List.replicate_succ, List.replicate_zero, Nat.add_one_sub_one, List.getElem?_cons_zero, List.getElem?_cons_succ, List.set_cons_zero, List.set_cons_succ, List.length_cons, List.length_nil, cond_true, cond_false, Value.category, List.reverse_nil, List.reverse_cons, List.nil_append, List.cons_append, true_and, and_true, beq_self_eq_true, nI_add, pk_mul, nI_and, nI_or, nI_an, Nat.zero_le, Nat.reduceLeDiff, f_iadd, f_isub, f_imul, f_iand, f_ior, f_ixor, f_ishl, f_ishr, f_iushr, f_idiv, f_irem, f_ladd, f_lmul, f_lrem, h0, c0, nI_leI hL hL]
          refine ⟨fun _ => sp_store ha hS64 (by decide) ?_, fun q => absurd (Nat.le_refl _) q⟩
          simp only [nX0_findLongest, kX0_findLongest_0, kX0_findLongest_1, kX0_findLongest_4, kX0_findLongest_5, kX0_findLongest_6, kX0_findLongest_9, kX0_findLongest_10, kX0_findLongest_12, kX0_findLongest_13, kX0_findLongest_15, kX0_findLongest_17, kX0_findLongest_18, kX0_findLongest_21, kX0_findLongest_24, kX0_findLongest_25, kX0_findLongest_26, kX0_findLongest_27, kX0_findLongest_29, kX0_findLongest_32, kX0_findLongest_35, kX0_findLongest_37, kX0_findLongest_38, kX0_findLongest_39, kX0_findLongest_42, kX0_findLongest_43, kX0_findLongest_44, kX0_findLongest_46, kX0_findLongest_47, kX0_findLongest_48, kX0_findLongest_51, kX0_findLongest_52, kX0_findLongest_55, kX0_findLongest_57, kX0_findLongest_60, kX0_findLongest_63, kX0_findLongest_64, kX0_findLongest_67, kX0_findLongest_68, kX0_findLongest_70, kX0_findLongest_73, kX0_findLongest_76, kX0_findLongest_79, ex_1, ex_s, exo_some, xK, xKL, xLdI, xLdA, xLdL, xStI, xStA, xStL, xInc, xBin, xDiv, xBinL, xDivL, xLcmp, xI2l, xL2i, xI2c, xC_eq, xC_ne, xC_lt, xC_ge, xC_gt, xC_le, xZ_eq, xZ_ne, xZ_lt, xZ_ge, xZ_gt, xZ_le, xGo, xTsw, tsw, xDup, xDup2, xPop, xGf, xPfI, xPfR, xiaload, xcaload, xiastore, xcastore, xAlen, xRet, xRetZ, xRetV, xObj, xMmax, xMmin, xCallS, xCallV, xCallI, popN, cs, kont_some, kont_none, noL, not_false_eq_true, Nat.reduceEqDiff, Nat.reduceBEq, Nat.reduceAdd, Nat.reduceLT, Nat.reduceSub, ↓reduceIte, decide_eq_true_eq, Bool.false_eq_true, decide_false, decide_true, or_false, false_or, or_true, true_or, or_self, lsOf_int, lsOf_ref, lsOf_long, lsOf_nil, List.replicate_succ, List.replicate_zero, Nat.add_one_sub_one, List.getElem?_cons_zero, List.getElem?_cons_succ, List.set_cons_zero, List.set_cons_succ, List.length_cons, List.length_nil, cond_true, cond_false, Value.category, List.reverse_nil, List.reverse_cons, List.nil_append, List.cons_append, true_and, and_true, beq_self_eq_true, nI_add, pk_mul, nI_and, nI_or, nI_an, Nat.zero_le, Nat.reduceLeDiff, f_iadd, f_isub, f_imul, f_iand, f_ior, f_ixor, f_ishl, f_ishr, f_iushr, f_idiv, f_irem, f_ladd, f_lmul, f_lrem]
          refine ih (by omega) _ ⟨(sn0 (by decide)).trans c0, ⟨_, set_get ha _⟩, b, (sn (by decide)).trans hb⟩ ⟨_, set_get ha _, fun T hT hT2 => ?_⟩ (hf.set ⟨by omega, by omega⟩ _) _ _
          simp only [upd_eq]
          by_cases z : T = S
          · rw [if_pos z, z, ← Lg_eq hL6]
          · rw [if_neg z]
            exact hav T (by omega) hT2) (fun l hl ihl => by
          have hl2 : l < 2 ^ 31 := by omega
          have hor := lt64 (orT hS hl) hL6
          have hlg := Lg_le (r := r) hL6 (S ||| 2 ^ l)
          have hmx : maxU (fun l => if follow P r S l = true then 1 + Lg P r (S ||| 2 ^ l) else 0) l ≤ 7 := maxU_le _ (fun i _ => by
            have := Lg_le (r := r) hL6 (S ||| 2 ^ i)
            split <;> omega)
          rw [maxU] at ihl
          generalize hM : maxU (fun l => if follow P r S l = true then 1 + Lg P r (S ||| 2 ^ l) else 0) l = M at hmx ihl ⊢
          refine SW.go VX0_findLongest (Nat.zero_le _) (Nat.zero_le _) (fun q => decide (q = 5 ∨ q = 15)) 120 ?_
          simp only [nX0_findLongest, kX0_findLongest_0, kX0_findLongest_1, kX0_findLongest_4, kX0_findLongest_5, kX0_findLongest_6, kX0_findLongest_9, kX0_findLongest_10, kX0_findLongest_12, kX0_findLongest_13, kX0_findLongest_15, kX0_findLongest_17, kX0_findLongest_18, kX0_findLongest_21, kX0_findLongest_24, kX0_findLongest_25, kX0_findLongest_26, kX0_findLongest_27, kX0_findLongest_29, kX0_findLongest_32, kX0_findLongest_35, kX0_findLongest_37, kX0_findLongest_38, kX0_findLongest_39, kX0_findLongest_42, kX0_findLongest_43, kX0_findLongest_44, kX0_findLongest_46, kX0_findLongest_47, kX0_findLongest_48, kX0_findLongest_51, kX0_findLongest_52, kX0_findLongest_55, kX0_findLongest_57, kX0_findLongest_60, kX0_findLongest_63, kX0_findLongest_64, kX0_findLongest_67, kX0_findLongest_68, kX0_findLongest_70, kX0_findLongest_73, kX0_findLongest_76, kX0_findLongest_79, ex_1, ex_s, exo_some, xK, xKL, xLdI, xLdA, xLdL, xStI, xStA, xStL, xInc, xBin, xDiv, xBinL, xDivL, xLcmp, xI2l, xL2i, xI2c, xC_eq, xC_ne, xC_lt, xC_ge, xC_gt, xC_le, xZ_eq, xZ_ne, xZ_lt, xZ_ge, xZ_gt, xZ_le, xGo, xTsw, tsw, xDup, xDup2, xPop, xGf, xPfI, xPfR, xiaload, xcaload, xiastore, xcastore, xAlen, xRet, xRetZ, xRetV, xObj, xMmax, xMmin, xCallS, xCallV, xCallI, popN, cs, kont_some, kont_none, noL, not_false_eq_true, Nat.reduceEqDiff, Nat.reduceBEq, Nat.reduceAdd, Nat.reduceLT, Nat.reduceSub, ↓reduceIte, decide_eq_true_eq, Bool.false_eq_true, decide_false, decide_true, or_false, false_or, or_true, true_or, or_self, lsOf_int, lsOf_ref, lsOf_long, lsOf_nil, List.replicate_succ, List.replicate_zero, Nat.add_one_sub_one, List.getElem?_cons_zero, List.getElem?_cons_succ, List.set_cons_zero, List.set_cons_succ, List.length_cons, List.length_nil, cond_true, cond_false, Value.category, List.reverse_nil, List.reverse_cons, List.nil_append, List.cons_append, true_and, and_true, beq_self_eq_true, nI_add, pk_mul, nI_and, nI_or, nI_an, Nat.zero_le, Nat.reduceLeDiff, f_iadd, f_isub, f_imul, f_iand, f_ior, f_ixor, f_ishl, f_ishr, f_iushr, f_idiv, f_irem, f_ladd, f_lmul, f_lrem, h0, nI_leI hL hl2]
          refine ⟨fun q => absurd q (by omega), fun _ => sp_canFollow hP' hW hr' hH hl hS ?_⟩
          simp only [nX0_findLongest, kX0_findLongest_0, kX0_findLongest_1, kX0_findLongest_4, kX0_findLongest_5, kX0_findLongest_6, kX0_findLongest_9, kX0_findLongest_10, kX0_findLongest_12, kX0_findLongest_13, kX0_findLongest_15, kX0_findLongest_17, kX0_findLongest_18, kX0_findLongest_21, kX0_findLongest_24, kX0_findLongest_25, kX0_findLongest_26, kX0_findLongest_27, kX0_findLongest_29, kX0_findLongest_32, kX0_findLongest_35, kX0_findLongest_37, kX0_findLongest_38, kX0_findLongest_39, kX0_findLongest_42, kX0_findLongest_43, kX0_findLongest_44, kX0_findLongest_46, kX0_findLongest_47, kX0_findLongest_48, kX0_findLongest_51, kX0_findLongest_52, kX0_findLongest_55, kX0_findLongest_57, kX0_findLongest_60, kX0_findLongest_63, kX0_findLongest_64, kX0_findLongest_67, kX0_findLongest_68, kX0_findLongest_70, kX0_findLongest_73, kX0_findLongest_76, kX0_findLongest_79, ex_1, ex_s, exo_some, xK, xKL, xLdI, xLdA, xLdL, xStI, xStA, xStL, xInc, xBin, xDiv, xBinL, xDivL, xLcmp, xI2l, xL2i, xI2c, xC_eq, xC_ne, xC_lt, xC_ge, xC_gt, xC_le, xZ_eq, xZ_ne, xZ_lt, xZ_ge, xZ_gt, xZ_le, xGo, xTsw, tsw, xDup, xDup2, xPop, xGf, xPfI, xPfR, xiaload, xcaload, xiastore, xcastore, xAlen, xRet, xRetZ, xRetV, xObj, xMmax, xMmin, xCallS, xCallV, xCallI, popN, cs, kont_some, kont_none, noL, not_false_eq_true, Nat.reduceEqDiff, Nat.reduceBEq, Nat.reduceAdd, Nat.reduceLT, Nat.reduceSub, ↓reduceIte, decide_eq_true_eq, Bool.false_eq_true, decide_false, decide_true, or_false, false_or, or_true, true_or, or_self, lsOf_int, lsOf_ref, lsOf_long, lsOf_nil, List.replicate_succ, List.replicate_zero, Nat.add_one_sub_one, List.getElem?_cons_zero, List.getElem?_cons_succ, List.set_cons_zero, List.set_cons_succ, List.length_cons, List.length_nil, cond_true, cond_false, Value.category, List.reverse_nil, List.reverse_cons, List.nil_append, List.cons_append, true_and, and_true, beq_self_eq_true, nI_add, pk_mul, nI_and, nI_or, nI_an, Nat.zero_le, Nat.reduceLeDiff, f_iadd, f_isub, f_imul, f_iand, f_ior, f_ixor, f_ishl, f_ishr, f_iushr, f_idiv, f_irem, f_ladd, f_lmul, f_lrem, nI_b0, c0, nI_shl1 (show l < 31 by omega)]
          refine ⟨fun q => ?_, fun q => sp_at ha hor (by decide) ?_⟩
          · rw [if_neg (by rw [q]; decide), Nat.max_eq_left (Nat.zero_le _)] at ihl
            exact ihl
          · have q := nf_t q
            rw [if_pos q] at ihl
            have hgt : S < S ||| 2 ^ l := by
              have e1 : S ≤ S ||| 2 ^ l := Nat.left_le_or
              have e2 : S ≠ S ||| 2 ^ l := fun z => by
                have h2 := congrArg (fun n => n.testBit l) z
                simp only [Nat.testBit_or, Nat.testBit_two_pow_self, Bool.or_true, follow_not q] at h2
                cases h2
              omega
            simp only [nX0_findLongest, kX0_findLongest_0, kX0_findLongest_1, kX0_findLongest_4, kX0_findLongest_5, kX0_findLongest_6, kX0_findLongest_9, kX0_findLongest_10, kX0_findLongest_12, kX0_findLongest_13, kX0_findLongest_15, kX0_findLongest_17, kX0_findLongest_18, kX0_findLongest_21, kX0_findLongest_24, kX0_findLongest_25, kX0_findLongest_26, kX0_findLongest_27, kX0_findLongest_29, kX0_findLongest_32, kX0_findLongest_35, kX0_findLongest_37, kX0_findLongest_38, kX0_findLongest_39, kX0_findLongest_42, kX0_findLongest_43, kX0_findLongest_44, kX0_findLongest_46, kX0_findLongest_47, kX0_findLongest_48, kX0_findLongest_51, kX0_findLongest_52, kX0_findLongest_55, kX0_findLongest_57, kX0_findLongest_60, kX0_findLongest_63, kX0_findLongest_64, kX0_findLongest_67, kX0_findLongest_68, kX0_findLongest_70, kX0_findLongest_73, kX0_findLongest_76, kX0_findLongest_79, ex_1, ex_s, exo_some, xK, xKL, xLdI, xLdA, xLdL, xStI, xStA, xStL, xInc, xBin, xDiv, xBinL, xDivL, xLcmp, xI2l, xL2i, xI2c, xC_eq, xC_ne, xC_lt, xC_ge, xC_gt, xC_le, xZ_eq, xZ_ne, xZ_lt, xZ_ge, xZ_gt, xZ_le, xGo, xTsw, tsw, xDup, xDup2, xPop, xGf, xPfI, xPfR, xiaload, xcaload, xiastore, xcastore, xAlen, xRet, xRetZ, xRetV, xObj, xMmax, xMmin, xCallS, xCallV, xCallI, popN, cs, kont_some, kont_none, noL, not_false_eq_true, Nat.reduceEqDiff, Nat.reduceBEq, Nat.reduceAdd, Nat.reduceLT, Nat.reduceSub, ↓reduceIte, decide_eq_true_eq, Bool.false_eq_true, decide_false, decide_true, or_false, false_or, or_true, true_or, or_self, lsOf_int, lsOf_ref, lsOf_long, lsOf_nil, List.replicate_succ, List.replicate_zero, Nat.add_one_sub_one, List.getElem?_cons_zero, List.getElem?_cons_succ, List.set_cons_zero, List.set_cons_succ, List.length_cons, List.length_nil, cond_true, cond_false, Value.category, List.reverse_nil, List.reverse_cons, List.nil_append, List.cons_append, true_and, and_true, beq_self_eq_true, nI_add, pk_mul, nI_and, nI_or, nI_an, Nat.zero_le, Nat.reduceLeDiff, f_iadd, f_isub, f_imul, f_iand, f_ior, f_ixor, f_ishl, f_ishr, f_iushr, f_idiv, f_irem, f_ladd, f_lmul, f_lrem, hav _ (show S + 1 ≤ S ||| 2 ^ l by omega) (orT hS hl), nI_max (show M < 2 ^ 31 by omega) (show 1 + Lg P r (S ||| 2 ^ l) < 2 ^ 31 by omega)]
            exact ihl)
      refine SW.go VX0_findLongest (Nat.zero_le _) (Nat.zero_le _) (fun q => decide (q = 5 ∨ q = 15)) 120 ?_
      simp only [nX0_findLongest, kX0_findLongest_0, kX0_findLongest_1, kX0_findLongest_4, kX0_findLongest_5, kX0_findLongest_6, kX0_findLongest_9, kX0_findLongest_10, kX0_findLongest_12, kX0_findLongest_13, kX0_findLongest_15, kX0_findLongest_17, kX0_findLongest_18, kX0_findLongest_21, kX0_findLongest_24, kX0_findLongest_25, kX0_findLongest_26, kX0_findLongest_27, kX0_findLongest_29, kX0_findLongest_32, kX0_findLongest_35, kX0_findLongest_37, kX0_findLongest_38, kX0_findLongest_39, kX0_findLongest_42, kX0_findLongest_43, kX0_findLongest_44, kX0_findLongest_46, kX0_findLongest_47, kX0_findLongest_48, kX0_findLongest_51, kX0_findLongest_52, kX0_findLongest_55, kX0_findLongest_57, kX0_findLongest_60, kX0_findLongest_63, kX0_findLongest_64, kX0_findLongest_67, kX0_findLongest_68, kX0_findLongest_70, kX0_findLongest_73, kX0_findLongest_76, kX0_findLongest_79, ex_1, ex_s, exo_some, xK, xKL, xLdI, xLdA, xLdL, xStI, xStA, xStL, xInc, xBin, xDiv, xBinL, xDivL, xLcmp, xI2l, xL2i, xI2c, xC_eq, xC_ne, xC_lt, xC_ge, xC_gt, xC_le, xZ_eq, xZ_ne, xZ_lt, xZ_ge, xZ_gt, xZ_le, xGo, xTsw, tsw, xDup, xDup2, xPop, xGf, xPfI, xPfR, xiaload, xcaload, xiastore, xcastore, xAlen, xRet, xRetZ, xRetV, xObj, xMmax, xMmin, xCallS, xCallV, xCallI, popN, cs, kont_some, kont_none, noL, not_false_eq_true, Nat.reduceEqDiff, Nat.reduceBEq, Nat.reduceAdd, Nat.reduceLT, Nat.reduceSub, ↓reduceIte, decide_eq_true_eq, Bool.false_eq_true, decide_false, decide_true, or_false, false_or, or_true, true_or, or_self, lsOf_int, lsOf_ref, lsOf_long, lsOf_nil, List.replicate_succ, List.replicate_zero, Nat.add_one_sub_one, List.getElem?_cons_zero, List.getElem?_cons_succ, List.set_cons_zero, List.set_cons_succ, List.length_cons, List.length_nil, cond_true, cond_false, Value.category, List.reverse_nil, List.reverse_cons, List.nil_append, List.cons_append, true_and, and_true, beq_self_eq_true, nI_add, pk_mul, nI_and, nI_or, nI_an, Nat.zero_le, Nat.reduceLeDiff, f_iadd, f_isub, f_imul, f_iand, f_ior, f_ixor, f_ishl, f_ishr, f_iushr, f_idiv, f_irem, f_ladd, f_lmul, f_lrem, pk_m1, nI_n0 hS31]
      exact ⟨False.elim, fun _ => inner 0 (Nat.zero_le _)⟩
  obtain ⟨f1, f2, f3, f4, f5, f6, f7, h0, -⟩ := id hP
  obtain ⟨c0, ⟨a, ha⟩, b, hb⟩ := id hC
  have e : nI (2 ^ pL P - 1) = nI (2 ^ pL P) + (-1) := by
    obtain ⟨n, hn⟩ : ∃ n, 2 ^ pL P = n + 1 := ⟨2 ^ pL P - 1, by omega⟩
    rw [hn, pk_m1]; rfl
  refine Spc.go VX0_findLongest (by decide +kernel) (fun _ => Nat.le_of_ble_eq_true rfl) (fun q => decide (q = 5 ∨ q = 15)) 120 ?_
  simp only [nX0_findLongest, kX0_findLongest_0, kX0_findLongest_1, kX0_findLongest_4, kX0_findLongest_5, kX0_findLongest_6, kX0_findLongest_9, kX0_findLongest_10, kX0_findLongest_12, kX0_findLongest_13, kX0_findLongest_15, kX0_findLongest_17, kX0_findLongest_18, kX0_findLongest_21, kX0_findLongest_24, kX0_findLongest_25, kX0_findLongest_26, kX0_findLongest_27, kX0_findLongest_29, kX0_findLongest_32, kX0_findLongest_35, kX0_findLongest_37, kX0_findLongest_38, kX0_findLongest_39, kX0_findLongest_42, kX0_findLongest_43, kX0_findLongest_44, kX0_findLongest_46, kX0_findLongest_47, kX0_findLongest_48, kX0_findLongest_51, kX0_findLongest_52, kX0_findLongest_55, kX0_findLongest_57, kX0_findLongest_60, kX0_findLongest_63, kX0_findLongest_64, kX0_findLongest_67, kX0_findLongest_68, kX0_findLongest_70, kX0_findLongest_73, kX0_findLongest_76, kX0_findLongest_79, ex_1, ex_s, exo_some, xK, xKL, xLdI, xLdA, xLdL, xStI, xStA, xStL, xInc, xBin, xDiv, xBinL, xDivL, xLcmp, xI2l, xL2i, xI2c, xC_eq, xC_ne, xC_lt, xC_ge, xC_gt, xC_le, xZ_eq, xZ_ne, xZ_lt, xZ_ge, xZ_gt, xZ_le, xGo, xTsw, tsw, xDup, xDup2, xPop, xGf, xPfI, xPfR, xiaload, xcaload, xiastore, xcastore, xAlen, xRet, xRetZ, xRetV, xObj, xMmax, xMmin, xCallS, xCallV, xCallI, popN, cs, kont_some, kont_none, noL, not_false_eq_true, Nat.reduceEqDiff, Nat.reduceBEq, Nat.reduceAdd, Nat.reduceLT, Nat.reduceSub, ↓reduceIte, decide_eq_true_eq, Bool.false_eq_true, decide_false, decide_true, or_false, false_or, or_true, true_or, or_self, lsOf_int, lsOf_ref, lsOf_long, lsOf_nil, List.replicate_succ, List.replicate_zero, Nat.add_one_sub_one, List.getElem?_cons_zero, List.getElem?_cons_succ, List.set_cons_zero, List.set_cons_succ, List.length_cons, List.length_nil, cond_true, cond_false, Value.category, List.reverse_nil, List.reverse_cons, List.nil_append, List.cons_append, true_and, and_true, beq_self_eq_true, nI_add, pk_mul, nI_and, nI_or, nI_an, Nat.zero_le, Nat.reduceLeDiff, f_iadd, f_isub, f_imul, f_iand, f_ior, f_ixor, f_ishl, f_ishr, f_iushr, f_idiv, f_irem, f_ladd, f_lmul, f_lrem, h0]
  refine sp_allLives hP hW ?_
  simp only [nX0_findLongest, kX0_findLongest_0, kX0_findLongest_1, kX0_findLongest_4, kX0_findLongest_5, kX0_findLongest_6, kX0_findLongest_9, kX0_findLongest_10, kX0_findLongest_12, kX0_findLongest_13, kX0_findLongest_15, kX0_findLongest_17, kX0_findLongest_18, kX0_findLongest_21, kX0_findLongest_24, kX0_findLongest_25, kX0_findLongest_26, kX0_findLongest_27, kX0_findLongest_29, kX0_findLongest_32, kX0_findLongest_35, kX0_findLongest_37, kX0_findLongest_38, kX0_findLongest_39, kX0_findLongest_42, kX0_findLongest_43, kX0_findLongest_44, kX0_findLongest_46, kX0_findLongest_47, kX0_findLongest_48, kX0_findLongest_51, kX0_findLongest_52, kX0_findLongest_55, kX0_findLongest_57, kX0_findLongest_60, kX0_findLongest_63, kX0_findLongest_64, kX0_findLongest_67, kX0_findLongest_68, kX0_findLongest_70, kX0_findLongest_73, kX0_findLongest_76, kX0_findLongest_79, ex_1, ex_s, exo_some, xK, xKL, xLdI, xLdA, xLdL, xStI, xStA, xStL, xInc, xBin, xDiv, xBinL, xDivL, xLcmp, xI2l, xL2i, xI2c, xC_eq, xC_ne, xC_lt, xC_ge, xC_gt, xC_le, xZ_eq, xZ_ne, xZ_lt, xZ_ge, xZ_gt, xZ_le, xGo, xTsw, tsw, xDup, xDup2, xPop, xGf, xPfI, xPfR, xiaload, xcaload, xiastore, xcastore, xAlen, xRet, xRetZ, xRetV, xObj, xMmax, xMmin, xCallS, xCallV, xCallI, popN, cs, kont_some, kont_none, noL, not_false_eq_true, Nat.reduceEqDiff, Nat.reduceBEq, Nat.reduceAdd, Nat.reduceLT, Nat.reduceSub, ↓reduceIte, decide_eq_true_eq, Bool.false_eq_true, decide_false, decide_true, or_false, false_or, or_true, true_or, or_self, lsOf_int, lsOf_ref, lsOf_long, lsOf_nil, List.replicate_succ, List.replicate_zero, Nat.add_one_sub_one, List.getElem?_cons_zero, List.getElem?_cons_succ, List.set_cons_zero, List.set_cons_succ, List.length_cons, List.length_nil, cond_true, cond_false, Value.category, List.reverse_nil, List.reverse_cons, List.nil_append, List.cons_append, true_and, and_true, beq_self_eq_true, nI_add, pk_mul, nI_and, nI_or, nI_an, Nat.zero_le, Nat.reduceLeDiff, f_iadd, f_isub, f_imul, f_iand, f_ior, f_ixor, f_ishl, f_ishr, f_iushr, f_idiv, f_irem, f_ladd, f_lmul, f_lrem]
  rw [e]
  exact outer _ (Nat.le_refl _) h hC ⟨a, ha, fun S h1 h2 => absurd h2 (by omega)⟩ Fr.rf _ _
