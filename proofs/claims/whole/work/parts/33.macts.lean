/-! ===== the model's acts ===== -/
theorem MAt.up {h h' : SH} {s s' : St} (hC : MAt h s) (hf : ∀ j, j ≠ 0 → j ≠ 1 → h'[j]? = h[j]?) (hP : s'.1 = s.1) (hT : sTn s' ≤ sTn s ∧ ∀ j, j < sTn s' → sTf s' j = sTf s j) (m : ∃ pl nu rs ry rt rl, h'[0]? = some (mC6 (sUn s') (sKn s') (sP s') (sSb s') (sSx s') (sSn s') (sTn s') pl nu rs ry rt rl))
    (hw : ∃ w', WAt h' w' ∧ HrAt w' 0 (sH s') ∧ (∀ i, i < sUn s' → HrAt w' (16 + 4 * i) (sUf s' i)) ∧ ∀ i, i < sKn s' → HrAt w' (8 + 4 * i) (sKf s' i)) : MAt h' s' := by
  obtain ⟨pl, nu, rs, ry, rt, rl, w, f9, m0, ⟨f1, f2, f3, f4, f5, f6, f7, ⟨p1, p2, p3, p4, p5, p6, p7⟩, e1, e2⟩, -, -, -, -, p9, hx9, ⟨⟨a1, r1⟩, ⟨a2, r2⟩, ⟨a3, r3⟩, ⟨a4, r4⟩, ⟨a5, r5⟩, ⟨a6, r6⟩, a7, r7⟩⟩ := hC
  obtain ⟨pl', nu', rs', ry', rt', rl', m'⟩ := m
  obtain ⟨w', x1, x2, x3, x4⟩ := hw
  have eP : sP s' = sP s := hP
  refine ⟨pl', nu', rs', ry', rt', rl', w', f9, m', ⟨f1, f2, f3, f4, f5, f6, f7, ⟨?_, ?_, ?_, ?_, ?_, ?_, ?_⟩, by rw [eP]; exact e1, by rw [eP]; exact e2⟩, x1, x2, x3, x4, ?_, fun j hj => by rw [hT.2 j hj]; exact hx9 j (by have := hT.1; omega), ⟨a1, ?_⟩, ⟨a2, ?_⟩, ⟨a3, ?_⟩, ⟨a4, ?_⟩, ⟨a5, ?_⟩, ⟨a6, ?_⟩, a7, ?_⟩ <;> (rw [hf _ (by decide) (by decide)]; assumption)
theorem HrAt.cong {w w' : Nat → Int32} {b : Nat} {r : Hr} (h : HrAt w b r) (e : ∀ i, i < 4 → w' (b + i) = w (b + i)) : HrAt w' b r := ⟨(e 0 (by decide)).trans h.1, (e 1 (by decide)).trans h.2.1, (e 2 (by decide)).trans h.2.2.1, (e 3 (by decide)).trans h.2.2.2⟩
theorem HrAt.move {w w' : Nat → Int32} {b c : Nat} {r : Hr} (h : HrAt w b r) (e : ∀ i, i < 4 → w' (c + i) = w (b + i)) : HrAt w' c r := ⟨(e 0 (by decide)).trans h.1, (e 1 (by decide)).trans h.2.1, (e 2 (by decide)).trans h.2.2.1, (e 3 (by decide)).trans h.2.2.2⟩
theorem MAt.view {h : SH} {s : St} (hC : MAt h s) : ∃ w, MPl h (sP s) ∧ WAt h w ∧ HrAt w 0 (sH s) ∧ (∀ i, i < sUn s → HrAt w (16 + 4 * i) (sUf s i)) ∧ (∀ i, i < sKn s → HrAt w (8 + 4 * i) (sKf s i)) ∧ ∃ pl nu rs ry rt rl, h[0]? = some (mC6 (sUn s) (sKn s) (sP s) (sSb s) (sSx s) (sSn s) (sTn s) pl nu rs ry rt rl) := by
  obtain ⟨pl, nu, rs, ry, rt, rl, w, f9, m0, ⟨f1, f2, f3, f4, f5, f6, f7, pa, e1, e2⟩, hw, hw0, hwU, hwK, p9, hx9, hR⟩ := id hC
  exact ⟨w, ⟨f1, f2, f3, f4, f5, f6, f7, ⟨_, _, _, _, _, _, _, _, _, _, _, _, m0⟩, pa, e1, e2⟩, hw, hw0, hwU, hwK, _, _, _, _, _, _, m0⟩
/-- only what w holds is changed -/
theorem MAt.w {h : SH} {s s' : St} {w : Nat → Int32} (hC : MAt h s) (hw : WAt h w) (w' : Nat → Int32) (hs : s'.1 = s.1 ∧ sUn s' = sUn s ∧ sKn s' = sKn s ∧ s'.2.2.2.2 = s.2.2.2.2) (h0 : HrAt w' 0 (sH s')) (hU : ∀ i, i < sUn s → HrAt w' (16 + 4 * i) (sUf s' i)) (hK : ∀ i, i < sKn s → HrAt w' (8 + 4 * i) (sKf s' i)) : MAt (h.set 1 (.inl (false, 76, w'))) s' := by
  obtain ⟨pl, nu, rs, ry, rt, rl, -, -, m0, -⟩ := id hC
  obtain ⟨a1, a2, a3, a4⟩ := hs
  have b1 : sP s' = sP s := a1
  have b2 : sTn s' = sTn s := congrArg (fun x => x.1.1) a4
  have b3 : sTf s' = sTf s := congrArg (fun x => x.1.2) a4
  have b4 : sSn s' = sSn s := congrArg (fun x => x.2.1) a4
  have b5 : sSb s' = sSb s := congrArg (fun x => x.2.2.1) a4
  have b6 : sSx s' = sSx s := congrArg (fun x => x.2.2.2) a4
  refine MAt.up hC (fun j _ y => List.getElem?_set_ne (fun z => y z.symm)) a1 ⟨by rw [b2]; exact Nat.le_refl _, fun j _ => by rw [b3]⟩ ⟨pl, nu, rs, ry, rt, rl, ?_⟩ ⟨w', set_get hw _, h0, by rw [a2]; exact hU, by rw [a3]; exact hK⟩
  rw [a2, a3, b1, b2, b4, b5, b6]
  exact (List.getElem?_set_ne (by decide)).trans m0
/-- only the hour is changed -/
theorem MAt.hour {h : SH} {s : St} {w : Nat → Int32} {r : Hr} (hC : MAt h s) (hw : WAt h w) (hU : ∀ i, i < sUn s → HrAt w (16 + 4 * i) (sUf s i)) (hK : ∀ i, i < sKn s → HrAt w (8 + 4 * i) (sKf s i)) (w' : Nat → Int32) (e : ∀ j, j < 0 ∨ 0 + 3 < j → w' j = w j) (h0 : HrAt w' 0 r) : MAt (h.set 1 (.inl (false, 76, w'))) (wH s r) :=
  MAt.w hC hw w' ⟨rfl, rfl, rfl, rfl⟩ h0 (fun i hi => (hU i hi).cong (fun k hk => e _ (by omega))) (fun i hi => (hK i hi).cong (fun k hk => e _ (by omega)))
section
variable {s : St} {h : SH} {K : Option Value → SH → Prop}
theorem mo_forget (hC : MAt h s) (hW : WfS s) (kk : ∀ h', MAt h' (forgetN s) → K (some (.int (forgetA s))) h') : Spc MX6_forget [.ref 0] h K := by
  obtain ⟨pl, nu, rs, ry, rt, rl, w, f9, m0, ⟨f1, f2, f3, f4, f5, f6, f7, pa, e1, e2⟩, hw, hw0, hwU, hwK, p9, hx9, hR⟩ := id hC
  have hM : MPl h (sP s) := ⟨f1, f2, f3, f4, f5, f6, f7, ⟨_, _, _, _, _, _, _, _, _, _, _, _, m0⟩, pa, e1, e2⟩
  obtain ⟨p1, p2, p3, p4, p5, p6, p7⟩ := id pa
  obtain ⟨wP, wT, wL, yH, yU, yK, wX, wSn, wSb, wSx⟩ := id hW
  have m0' : h[0]? = some (.inr (6, [.ref 1, .int (nI (sUn s)), .int (nI (sKn s)), .int (nI (pR (sP s))), .int (nI (pA (sP s))), .int (nI (pT (sP s))), .ref 2, .ref 3, .ref 4, .int (nI (pL (sP s))), .ref 5, .ref 6, .ref 7, .ref 8, .int (nI (sSb s)), .int (nI (sSx s)), .int (nI (sSn s)), .ref 9, .int (nI (sTn s)), .int pl, .int nu, .int rs, .int ry, .int rt, .ref 10, .int rl, .ref 11, .ref 12, .ref 13, .ref 14, .ref 15, .ref 16])) := m0
  have hT8 := wP.2.2.1
  have hL6 := wP.2.2.2.1
  have hT31 : pT (sP s) < 2 ^ 31 := by omega
  have hL31 : pL (sP s) < 2 ^ 31 := by omega
  have hd := lt256 yH.1 hT8
  have hlv := lt64 yH.2.1 hL6
  have hw' : h[1]? = some (.inl (false, 76, w)) := hw
  have w0 : w 0 = nI (yr (sH s)) := hw0.1
  have w1 : w 1 = nI (cn (sH s)) := hw0.2.1
  have w2 : w 2 = nI (dr (sH s)) := hw0.2.2.1
  have w3 : w 3 = nI (lv (sH s)) := hw0.2.2.2
  have hs0 : ∀ c, (h.set 0 c)[0]? = some c := set_get m0
  have hs1 := set_get hw'
  have h10 : ∀ c, (h.set 1 c)[0]? = h[0]? := fun c => List.getElem?_set_ne (by decide)
  refine Spc.go VX6_forget (by decide +kernel) (fun _ => Nat.le_of_ble_eq_true rfl) (fun _ => false) 120 ?_
  simp only [nX6_forget, kX6_forget_0, kX6_forget_1, kX6_forget_4, kX6_forget_5, kX6_forget_6, kX6_forget_7, kX6_forget_10, kX6_forget_11, kX6_forget_12, kX6_forget_15, kX6_forget_16, kX6_forget_17, kX6_forget_20, kX6_forget_21, ex_1, ex_s, exo_some, xK, xKL, xLdI, xLdA, xLdL, xStI, xStA, xStL, xInc, xBin, xDiv, xBinL, xDivL, xLcmp, xI2l, xL2i, xI2c, xC_eq, xC_ne, xC_lt, xC_ge, xC_gt, xC_le, xZ_eq, xZ_ne, xZ_lt, xZ_ge, xZ_gt, xZ_le, xGo, xTsw, tsw, xDup, xDup2, xPop, xGf, xPfI, xPfR, xiaload, xcaload, xiastore, xcastore, xAlen, xRet, xRetZ, xRetV, xObj, xMmax, xMmin, xCallS, xCallV, xCallI, popN, cs, kont_some, kont_none, noL, not_false_eq_true, Nat.reduceEqDiff, Nat.reduceBEq, Nat.reduceAdd, Nat.reduceLT, Nat.reduceSub, ↓reduceIte, decide_eq_true_eq, Bool.false_eq_true, decide_false, decide_true, or_false, false_or, or_true, true_or, or_self, lsOf_int, lsOf_ref, lsOf_long, lsOf_nil, List.replicate_succ, List.replicate_zero, Nat.add_one_sub_one, List.getElem?_cons_zero, List.getElem?_cons_succ, List.set_cons_zero, List.set_cons_succ, List.length_cons, List.length_nil, cond_true, cond_false, Value.category, List.reverse_nil, List.reverse_cons, List.nil_append, List.cons_append, true_and, and_true, beq_self_eq_true, nI_add, pk_mul, nI_and, nI_or, nI_an, Nat.zero_le, Nat.reduceLeDiff, f_iadd, f_isub, f_imul, f_iand, f_ior, f_ixor, f_ishl, f_ishr, f_iushr, f_idiv, f_irem, f_ladd, f_lmul, f_lrem, true_implies, false_implies, not_true_eq_false, and_self, ss, Option.isSome_some, List.set_set, sn, sn0, s0n, m0', hs0]
  exact kk _ (MAt.up hC (fun j h1 _ => List.getElem?_set_ne (fun z => h1 z.symm)) rfl ⟨Nat.le_refl _, fun _ _ => rfl⟩ ⟨_, _, _, _, _, _, hs0 _⟩ ⟨w, (List.getElem?_set_ne (by decide)).trans hw, hw0, hwU, hwK⟩)
theorem mo_wipe (hC : MAt h s) (hW : WfS s) (kk : ∀ h', MAt h' (wipeN s) → K (some (.int (wipeA s))) h') : Spc MX6_wipe [.ref 0] h K := by
  obtain ⟨pl, nu, rs, ry, rt, rl, w, f9, m0, ⟨f1, f2, f3, f4, f5, f6, f7, pa, e1, e2⟩, hw, hw0, hwU, hwK, p9, hx9, hR⟩ := id hC
  have hM : MPl h (sP s) := ⟨f1, f2, f3, f4, f5, f6, f7, ⟨_, _, _, _, _, _, _, _, _, _, _, _, m0⟩, pa, e1, e2⟩
  obtain ⟨p1, p2, p3, p4, p5, p6, p7⟩ := id pa
  obtain ⟨wP, wT, wL, yH, yU, yK, wX, wSn, wSb, wSx⟩ := id hW
  have m0' : h[0]? = some (.inr (6, [.ref 1, .int (nI (sUn s)), .int (nI (sKn s)), .int (nI (pR (sP s))), .int (nI (pA (sP s))), .int (nI (pT (sP s))), .ref 2, .ref 3, .ref 4, .int (nI (pL (sP s))), .ref 5, .ref 6, .ref 7, .ref 8, .int (nI (sSb s)), .int (nI (sSx s)), .int (nI (sSn s)), .ref 9, .int (nI (sTn s)), .int pl, .int nu, .int rs, .int ry, .int rt, .ref 10, .int rl, .ref 11, .ref 12, .ref 13, .ref 14, .ref 15, .ref 16])) := m0
  have hT8 := wP.2.2.1
  have hL6 := wP.2.2.2.1
  have hT31 : pT (sP s) < 2 ^ 31 := by omega
  have hL31 : pL (sP s) < 2 ^ 31 := by omega
  have hd := lt256 yH.1 hT8
  have hlv := lt64 yH.2.1 hL6
  have hw' : h[1]? = some (.inl (false, 76, w)) := hw
  have w0 : w 0 = nI (yr (sH s)) := hw0.1
  have w1 : w 1 = nI (cn (sH s)) := hw0.2.1
  have w2 : w 2 = nI (dr (sH s)) := hw0.2.2.1
  have w3 : w 3 = nI (lv (sH s)) := hw0.2.2.2
  have hs0 : ∀ c, (h.set 0 c)[0]? = some c := set_get m0
  have hs1 := set_get hw'
  have h10 : ∀ c, (h.set 1 c)[0]? = h[0]? := fun c => List.getElem?_set_ne (by decide)
  refine Spc.go VX6_wipe (by decide +kernel) (fun _ => Nat.le_of_ble_eq_true rfl) (fun _ => false) 120 ?_
  simp only [nX6_wipe, kX6_wipe_0, kX6_wipe_1, kX6_wipe_4, kX6_wipe_5, kX6_wipe_6, kX6_wipe_7, kX6_wipe_10, kX6_wipe_11, ex_1, ex_s, exo_some, xK, xKL, xLdI, xLdA, xLdL, xStI, xStA, xStL, xInc, xBin, xDiv, xBinL, xDivL, xLcmp, xI2l, xL2i, xI2c, xC_eq, xC_ne, xC_lt, xC_ge, xC_gt, xC_le, xZ_eq, xZ_ne, xZ_lt, xZ_ge, xZ_gt, xZ_le, xGo, xTsw, tsw, xDup, xDup2, xPop, xGf, xPfI, xPfR, xiaload, xcaload, xiastore, xcastore, xAlen, xRet, xRetZ, xRetV, xObj, xMmax, xMmin, xCallS, xCallV, xCallI, popN, cs, kont_some, kont_none, noL, not_false_eq_true, Nat.reduceEqDiff, Nat.reduceBEq, Nat.reduceAdd, Nat.reduceLT, Nat.reduceSub, ↓reduceIte, decide_eq_true_eq, Bool.false_eq_true, decide_false, decide_true, or_false, false_or, or_true, true_or, or_self, lsOf_int, lsOf_ref, lsOf_long, lsOf_nil, List.replicate_succ, List.replicate_zero, Nat.add_one_sub_one, List.getElem?_cons_zero, List.getElem?_cons_succ, List.set_cons_zero, List.set_cons_succ, List.length_cons, List.length_nil, cond_true, cond_false, Value.category, List.reverse_nil, List.reverse_cons, List.nil_append, List.cons_append, true_and, and_true, beq_self_eq_true, nI_add, pk_mul, nI_and, nI_or, nI_an, Nat.zero_le, Nat.reduceLeDiff, f_iadd, f_isub, f_imul, f_iand, f_ior, f_ixor, f_ishl, f_ishr, f_iushr, f_idiv, f_irem, f_ladd, f_lmul, f_lrem, true_implies, false_implies, not_true_eq_false, and_self, ss, Option.isSome_some, List.set_set, sn, sn0, s0n, m0', hs0]
  exact kk _ (MAt.up hC (fun j h1 _ => List.getElem?_set_ne (fun z => h1 z.symm)) rfl ⟨Nat.zero_le _, fun _ _ => rfl⟩ ⟨_, _, _, _, _, _, hs0 _⟩ ⟨w, (List.getElem?_set_ne (by decide)).trans hw, hw0, hwU, hwK⟩)
theorem mo_see {t : Int32} {b : Bool} (hC : MAt h s) (hW : WfS s) (kk : ∀ h', MAt h' (seeN s t b) → K (some (.int (seeA s t b))) h') : Spc MX6_see [.ref 0, .int t, .int (nI b.toNat)] h K := by
  obtain ⟨pl, nu, rs, ry, rt, rl, w, f9, m0, ⟨f1, f2, f3, f4, f5, f6, f7, pa, e1, e2⟩, hw, hw0, hwU, hwK, p9, hx9, hR⟩ := id hC
  have hM : MPl h (sP s) := ⟨f1, f2, f3, f4, f5, f6, f7, ⟨_, _, _, _, _, _, _, _, _, _, _, _, m0⟩, pa, e1, e2⟩
  obtain ⟨p1, p2, p3, p4, p5, p6, p7⟩ := id pa
  obtain ⟨wP, wT, wL, yH, yU, yK, wX, wSn, wSb, wSx⟩ := id hW
  have m0' : h[0]? = some (.inr (6, [.ref 1, .int (nI (sUn s)), .int (nI (sKn s)), .int (nI (pR (sP s))), .int (nI (pA (sP s))), .int (nI (pT (sP s))), .ref 2, .ref 3, .ref 4, .int (nI (pL (sP s))), .ref 5, .ref 6, .ref 7, .ref 8, .int (nI (sSb s)), .int (nI (sSx s)), .int (nI (sSn s)), .ref 9, .int (nI (sTn s)), .int pl, .int nu, .int rs, .int ry, .int rt, .ref 10, .int rl, .ref 11, .ref 12, .ref 13, .ref 14, .ref 15, .ref 16])) := m0
  have hT8 := wP.2.2.1
  have hL6 := wP.2.2.2.1
  have hT31 : pT (sP s) < 2 ^ 31 := by omega
  have hL31 : pL (sP s) < 2 ^ 31 := by omega
  have hd := lt256 yH.1 hT8
  have hlv := lt64 yH.2.1 hL6
  have hw' : h[1]? = some (.inl (false, 76, w)) := hw
  have w0 : w 0 = nI (yr (sH s)) := hw0.1
  have w1 : w 1 = nI (cn (sH s)) := hw0.2.1
  have w2 : w 2 = nI (dr (sH s)) := hw0.2.2.1
  have w3 : w 3 = nI (lv (sH s)) := hw0.2.2.2
  have hs0 : ∀ c, (h.set 0 c)[0]? = some c := set_get m0
  have hs1 := set_get hw'
  have h10 : ∀ c, (h.set 1 c)[0]? = h[0]? := fun c => List.getElem?_set_ne (by decide)
  refine Spc.go VX6_see (by decide +kernel) (fun _ => Nat.le_of_ble_eq_true rfl) (fun _ => false) 120 ?_
  simp only [nX6_see, kX6_see_0, kX6_see_1, kX6_see_2, kX6_see_5, kX6_see_8, kX6_see_9, kX6_see_10, kX6_see_11, kX6_see_14, kX6_see_16, kX6_see_19, kX6_see_21, kX6_see_22, kX6_see_23, kX6_see_24, kX6_see_27, kX6_see_28, kX6_see_31, kX6_see_32, kX6_see_33, kX6_see_34, kX6_see_37, kX6_see_38, kX6_see_39, kX6_see_42, kX6_see_43, kX6_see_44, kX6_see_47, kX6_see_48, kX6_see_51, kX6_see_52, kX6_see_55, kX6_see_56, kX6_see_57, kX6_see_58, kX6_see_59, kX6_see_62, kX6_see_63, kX6_see_64, kX6_see_67, kX6_see_68, kX6_see_69, kX6_see_72, kX6_see_73, kX6_see_76, ex_1, ex_s, exo_some, xK, xKL, xLdI, xLdA, xLdL, xStI, xStA, xStL, xInc, xBin, xDiv, xBinL, xDivL, xLcmp, xI2l, xL2i, xI2c, xC_eq, xC_ne, xC_lt, xC_ge, xC_gt, xC_le, xZ_eq, xZ_ne, xZ_lt, xZ_ge, xZ_gt, xZ_le, xGo, xTsw, tsw, xDup, xDup2, xPop, xGf, xPfI, xPfR, xiaload, xcaload, xiastore, xcastore, xAlen, xRet, xRetZ, xRetV, xObj, xMmax, xMmin, xCallS, xCallV, xCallI, popN, cs, kont_some, kont_none, noL, not_false_eq_true, Nat.reduceEqDiff, Nat.reduceBEq, Nat.reduceAdd, Nat.reduceLT, Nat.reduceSub, ↓reduceIte, decide_eq_true_eq, Bool.false_eq_true, decide_false, decide_true, or_false, false_or, or_true, true_or, or_self, lsOf_int, lsOf_ref, lsOf_long, lsOf_nil, List.replicate_succ, List.replicate_zero, Nat.add_one_sub_one, List.getElem?_cons_zero, List.getElem?_cons_succ, List.set_cons_zero, List.set_cons_succ, List.length_cons, List.length_nil, cond_true, cond_false, Value.category, List.reverse_nil, List.reverse_cons, List.nil_append, List.cons_append, true_and, and_true, beq_self_eq_true, nI_add, pk_mul, nI_and, nI_or, nI_an, Nat.zero_le, Nat.reduceLeDiff, f_iadd, f_isub, f_imul, f_iand, f_ior, f_ixor, f_ishl, f_ishr, f_iushr, f_idiv, f_irem, f_ladd, f_lmul, f_lrem, true_implies, false_implies, not_true_eq_false, and_self, ss, Option.isSome_some, List.set_set, sn, sn0, s0n, m0']
  refine sp_mThing hM wP wT ?_
  simp only [nX6_see, kX6_see_0, kX6_see_1, kX6_see_2, kX6_see_5, kX6_see_8, kX6_see_9, kX6_see_10, kX6_see_11, kX6_see_14, kX6_see_16, kX6_see_19, kX6_see_21, kX6_see_22, kX6_see_23, kX6_see_24, kX6_see_27, kX6_see_28, kX6_see_31, kX6_see_32, kX6_see_33, kX6_see_34, kX6_see_37, kX6_see_38, kX6_see_39, kX6_see_42, kX6_see_43, kX6_see_44, kX6_see_47, kX6_see_48, kX6_see_51, kX6_see_52, kX6_see_55, kX6_see_56, kX6_see_57, kX6_see_58, kX6_see_59, kX6_see_62, kX6_see_63, kX6_see_64, kX6_see_67, kX6_see_68, kX6_see_69, kX6_see_72, kX6_see_73, kX6_see_76, ex_1, ex_s, exo_some, xK, xKL, xLdI, xLdA, xLdL, xStI, xStA, xStL, xInc, xBin, xDiv, xBinL, xDivL, xLcmp, xI2l, xL2i, xI2c, xC_eq, xC_ne, xC_lt, xC_ge, xC_gt, xC_le, xZ_eq, xZ_ne, xZ_lt, xZ_ge, xZ_gt, xZ_le, xGo, xTsw, tsw, xDup, xDup2, xPop, xGf, xPfI, xPfR, xiaload, xcaload, xiastore, xcastore, xAlen, xRet, xRetZ, xRetV, xObj, xMmax, xMmin, xCallS, xCallV, xCallI, popN, cs, kont_some, kont_none, noL, not_false_eq_true, Nat.reduceEqDiff, Nat.reduceBEq, Nat.reduceAdd, Nat.reduceLT, Nat.reduceSub, ↓reduceIte, decide_eq_true_eq, Bool.false_eq_true, decide_false, decide_true, or_false, false_or, or_true, true_or, or_self, lsOf_int, lsOf_ref, lsOf_long, lsOf_nil, List.replicate_succ, List.replicate_zero, Nat.add_one_sub_one, List.getElem?_cons_zero, List.getElem?_cons_succ, List.set_cons_zero, List.set_cons_succ, List.length_cons, List.length_nil, cond_true, cond_false, Value.category, List.reverse_nil, List.reverse_cons, List.nil_append, List.cons_append, true_and, and_true, beq_self_eq_true, nI_add, pk_mul, nI_and, nI_or, nI_an, Nat.zero_le, Nat.reduceLeDiff, f_iadd, f_isub, f_imul, f_iand, f_ior, f_ixor, f_ishl, f_ishr, f_iushr, f_idiv, f_irem, f_ladd, f_lmul, f_lrem, true_implies, false_implies, not_true_eq_false, and_self, ss, Option.isSome_some, List.set_set, sn, sn0, s0n, nI_b0, m0', nI_eq (show sSn s < 2 ^ 31 by omega) (show 8 < 2 ^ 31 by decide)]
  cases hr : decide (0 ≤ t ∧ t < nI (pT (sP s))) with
  | false =>
    simp only [seeN, seeA, argN_none hr] at kk
    exact ⟨fun z => absurd rfl z, fun _ => kk h hC⟩
  | true =>
    obtain ⟨j, hj, rfl, hq⟩ := argN_some hT31 hr
    simp only [seeN, seeA, hq] at kk
    refine ⟨fun _ => ⟨fun z => ?_, fun z => ?_⟩, fun z => absurd z (by decide)⟩
    rotate_left
    · simp only [if_pos z] at kk
      exact kk h hC
    · simp only [if_neg z] at kk
      simp only [nX6_see, kX6_see_0, kX6_see_1, kX6_see_2, kX6_see_5, kX6_see_8, kX6_see_9, kX6_see_10, kX6_see_11, kX6_see_14, kX6_see_16, kX6_see_19, kX6_see_21, kX6_see_22, kX6_see_23, kX6_see_24, kX6_see_27, kX6_see_28, kX6_see_31, kX6_see_32, kX6_see_33, kX6_see_34, kX6_see_37, kX6_see_38, kX6_see_39, kX6_see_42, kX6_see_43, kX6_see_44, kX6_see_47, kX6_see_48, kX6_see_51, kX6_see_52, kX6_see_55, kX6_see_56, kX6_see_57, kX6_see_58, kX6_see_59, kX6_see_62, kX6_see_63, kX6_see_64, kX6_see_67, kX6_see_68, kX6_see_69, kX6_see_72, kX6_see_73, kX6_see_76, ex_1, ex_s, exo_some, xK, xKL, xLdI, xLdA, xLdL, xStI, xStA, xStL, xInc, xBin, xDiv, xBinL, xDivL, xLcmp, xI2l, xL2i, xI2c, xC_eq, xC_ne, xC_lt, xC_ge, xC_gt, xC_le, xZ_eq, xZ_ne, xZ_lt, xZ_ge, xZ_gt, xZ_le, xGo, xTsw, tsw, xDup, xDup2, xPop, xGf, xPfI, xPfR, xiaload, xcaload, xiastore, xcastore, xAlen, xRet, xRetZ, xRetV, xObj, xMmax, xMmin, xCallS, xCallV, xCallI, popN, cs, kont_some, kont_none, noL, not_false_eq_true, Nat.reduceEqDiff, Nat.reduceBEq, Nat.reduceAdd, Nat.reduceLT, Nat.reduceSub, ↓reduceIte, decide_eq_true_eq, Bool.false_eq_true, decide_false, decide_true, or_false, false_or, or_true, true_or, or_self, lsOf_int, lsOf_ref, lsOf_long, lsOf_nil, List.replicate_succ, List.replicate_zero, Nat.add_one_sub_one, List.getElem?_cons_zero, List.getElem?_cons_succ, List.set_cons_zero, List.set_cons_succ, List.length_cons, List.length_nil, cond_true, cond_false, Value.category, List.reverse_nil, List.reverse_cons, List.nil_append, List.cons_append, true_and, and_true, beq_self_eq_true, nI_add, pk_mul, nI_and, nI_or, nI_an, Nat.zero_le, Nat.reduceLeDiff, f_iadd, f_isub, f_imul, f_iand, f_ior, f_ixor, f_ishl, f_ishr, f_iushr, f_idiv, f_irem, f_ladd, f_lmul, f_lrem, true_implies, false_implies, not_true_eq_false, and_self, ss, Option.isSome_some, List.set_set, sn, sn0, s0n, m0', hs0, nI_shl1 (show j < 31 by omega), nI_b0, Nat.or_zero]
      cases b with
      | true =>
        simp only [if_true] at kk
        exact ⟨fun q => absurd q (by decide), fun _ => ⟨fun q => absurd q (by decide), fun _ => kk _ (MAt.up hC (fun j h1 _ => List.getElem?_set_ne (fun z => h1 z.symm)) rfl ⟨Nat.le_refl _, fun _ _ => rfl⟩ ⟨_, _, _, _, _, _, hs0 _⟩ ⟨w, (List.getElem?_set_ne (by decide)).trans hw, hw0, hwU, hwK⟩)⟩⟩
      | false =>
        simp only [Bool.false_eq_true, if_false] at kk
        exact ⟨fun _ => ⟨fun _ => kk _ (MAt.up hC (fun j h1 _ => List.getElem?_set_ne (fun z => h1 z.symm)) rfl ⟨Nat.le_refl _, fun _ _ => rfl⟩ ⟨_, _, _, _, _, _, hs0 _⟩ ⟨w, (List.getElem?_set_ne (by decide)).trans hw, hw0, hwU, hwK⟩), fun q => absurd rfl q⟩, fun q => absurd rfl q⟩
theorem mo_minds53 (hC : MAt h s) (hU : sUn s < 8) (hKn : sKn s ≤ 2) (o : Option Value) (kk : ∀ h', MAt h' (wU s (sUn s + 1) (fun i => if i = sUn s then sH s else sUf s i)) → K none h') : SW MX6_minds K 0 0 53 [some (.ref 0), o] [] h := by
  obtain ⟨pl, nu, rs, ry, rt, rl, w, f9, m0, -, hw, hw0, hwU, hwK, -⟩ := id hC
  have m0' : h[0]? = some (.inr (6, [.ref 1, .int (nI (sUn s)), .int (nI (sKn s)), .int (nI (pR (sP s))), .int (nI (pA (sP s))), .int (nI (pT (sP s))), .ref 2, .ref 3, .ref 4, .int (nI (pL (sP s))), .ref 5, .ref 6, .ref 7, .ref 8, .int (nI (sSb s)), .int (nI (sSx s)), .int (nI (sSn s)), .ref 9, .int (nI (sTn s)), .int pl, .int nu, .int rs, .int ry, .int rt, .ref 10, .int rl, .ref 11, .ref 12, .ref 13, .ref 14, .ref 15, .ref 16])) := m0
  refine SW.go VX6_minds (Nat.zero_le _) (Nat.zero_le _) (fun q => decide (q = 11 ∨ q = 53)) 120 ?_
  simp only [nX6_minds, kX6_minds_0, kX6_minds_1, kX6_minds_4, kX6_minds_6, kX6_minds_9, kX6_minds_10, kX6_minds_11, kX6_minds_12, kX6_minds_14, kX6_minds_17, kX6_minds_18, kX6_minds_21, kX6_minds_23, kX6_minds_24, kX6_minds_25, kX6_minds_26, kX6_minds_29, kX6_minds_31, kX6_minds_32, kX6_minds_33, kX6_minds_34, kX6_minds_35, kX6_minds_36, kX6_minds_37, kX6_minds_40, kX6_minds_43, kX6_minds_44, kX6_minds_45, kX6_minds_48, kX6_minds_49, kX6_minds_50, kX6_minds_53, kX6_minds_54, kX6_minds_55, kX6_minds_57, kX6_minds_58, kX6_minds_59, kX6_minds_62, kX6_minds_63, kX6_minds_64, kX6_minds_67, kX6_minds_68, kX6_minds_69, kX6_minds_72, kX6_minds_73, kX6_minds_74, kX6_minds_77, ex_1, ex_s, exo_some, xK, xKL, xLdI, xLdA, xLdL, xStI, xStA, xStL, xInc, xBin, xDiv, xBinL, xDivL, xLcmp, xI2l, xL2i, xI2c, xC_eq, xC_ne, xC_lt, xC_ge, xC_gt, xC_le, xZ_eq, xZ_ne, xZ_lt, xZ_ge, xZ_gt, xZ_le, xGo, xTsw, tsw, xDup, xDup2, xPop, xGf, xPfI, xPfR, xiaload, xcaload, xiastore, xcastore, xAlen, xRet, xRetZ, xRetV, xObj, xMmax, xMmin, xCallS, xCallV, xCallI, popN, cs, kont_some, kont_none, noL, not_false_eq_true, Nat.reduceEqDiff, Nat.reduceBEq, Nat.reduceAdd, Nat.reduceLT, Nat.reduceSub, ↓reduceIte, decide_eq_true_eq, Bool.false_eq_true, decide_false, decide_true, or_false, false_or, or_true, true_or, or_self, lsOf_int, lsOf_ref, lsOf_long, lsOf_nil, List.replicate_succ, List.replicate_zero, Nat.add_one_sub_one, List.getElem?_cons_zero, List.getElem?_cons_succ, List.set_cons_zero, List.set_cons_succ, List.length_cons, List.length_nil, cond_true, cond_false, Value.category, List.reverse_nil, List.reverse_cons, List.nil_append, List.cons_append, true_and, and_true, beq_self_eq_true, nI_add, pk_mul, nI_and, nI_or, nI_an, Nat.zero_le, Nat.reduceLeDiff, f_iadd, f_isub, f_imul, f_iand, f_ior, f_ixor, f_ishl, f_ishr, f_iushr, f_idiv, f_irem, f_ladd, f_lmul, f_lrem, true_implies, false_implies, not_true_eq_false, and_self, ss, Option.isSome_some, List.set_set, sn, sn0, s0n, m0']
  refine sp_mcopy ⟨_, _, _, _, _, _, _, _, _, _, _, _, m0⟩ hw (by decide) (by omega) (by omega) (fun w' h1 h2 => ?_)
  have m1 : (h.set 1 (.inl (false, 76, w')))[0]? = _ := (List.getElem?_set_ne (by decide)).trans m0'
  have hs01 := set_get m1
  simp only [nX6_minds, kX6_minds_0, kX6_minds_1, kX6_minds_4, kX6_minds_6, kX6_minds_9, kX6_minds_10, kX6_minds_11, kX6_minds_12, kX6_minds_14, kX6_minds_17, kX6_minds_18, kX6_minds_21, kX6_minds_23, kX6_minds_24, kX6_minds_25, kX6_minds_26, kX6_minds_29, kX6_minds_31, kX6_minds_32, kX6_minds_33, kX6_minds_34, kX6_minds_35, kX6_minds_36, kX6_minds_37, kX6_minds_40, kX6_minds_43, kX6_minds_44, kX6_minds_45, kX6_minds_48, kX6_minds_49, kX6_minds_50, kX6_minds_53, kX6_minds_54, kX6_minds_55, kX6_minds_57, kX6_minds_58, kX6_minds_59, kX6_minds_62, kX6_minds_63, kX6_minds_64, kX6_minds_67, kX6_minds_68, kX6_minds_69, kX6_minds_72, kX6_minds_73, kX6_minds_74, kX6_minds_77, ex_1, ex_s, exo_some, xK, xKL, xLdI, xLdA, xLdL, xStI, xStA, xStL, xInc, xBin, xDiv, xBinL, xDivL, xLcmp, xI2l, xL2i, xI2c, xC_eq, xC_ne, xC_lt, xC_ge, xC_gt, xC_le, xZ_eq, xZ_ne, xZ_lt, xZ_ge, xZ_gt, xZ_le, xGo, xTsw, tsw, xDup, xDup2, xPop, xGf, xPfI, xPfR, xiaload, xcaload, xiastore, xcastore, xAlen, xRet, xRetZ, xRetV, xObj, xMmax, xMmin, xCallS, xCallV, xCallI, popN, cs, kont_some, kont_none, noL, not_false_eq_true, Nat.reduceEqDiff, Nat.reduceBEq, Nat.reduceAdd, Nat.reduceLT, Nat.reduceSub, ↓reduceIte, decide_eq_true_eq, Bool.false_eq_true, decide_false, decide_true, or_false, false_or, or_true, true_or, or_self, lsOf_int, lsOf_ref, lsOf_long, lsOf_nil, List.replicate_succ, List.replicate_zero, Nat.add_one_sub_one, List.getElem?_cons_zero, List.getElem?_cons_succ, List.set_cons_zero, List.set_cons_succ, List.length_cons, List.length_nil, cond_true, cond_false, Value.category, List.reverse_nil, List.reverse_cons, List.nil_append, List.cons_append, true_and, and_true, beq_self_eq_true, nI_add, pk_mul, nI_and, nI_or, nI_an, Nat.zero_le, Nat.reduceLeDiff, f_iadd, f_isub, f_imul, f_iand, f_ior, f_ixor, f_ishl, f_ishr, f_iushr, f_idiv, f_irem, f_ladd, f_lmul, f_lrem, true_implies, false_implies, not_true_eq_false, and_self, ss, Option.isSome_some, List.set_set, sn, sn0, s0n, m1, hs01]
  refine kk _ (MAt.up hC (fun j x y => (List.getElem?_set_ne (fun z => x z.symm)).trans (List.getElem?_set_ne (fun z => y z.symm))) rfl ⟨Nat.le_refl _, fun _ _ => rfl⟩ ⟨_, _, _, _, _, _, hs01 _⟩ ⟨w', (List.getElem?_set_ne (by decide)).trans (set_get hw _), hw0.cong (fun i hi => h1 _ (by omega)), fun i hi => ?_, fun i hi => (hwK i hi).cong (fun k hk => h1 _ (by have : i < sKn s := hi; omega))⟩)
  have hi2 : i < sUn s + 1 := hi
  show HrAt w' (16 + 4 * i) (if i = sUn s then sH s else sUf s i)
  by_cases e : i = sUn s
  · subst e
    rw [if_pos rfl]
    exact hw0.move (fun k hk => h2 k hk)
  · rw [if_neg e]
    exact (hwU i (by omega)).cong (fun k hk => h1 _ (by omega))
theorem mo_minds (hC : MAt h s) (hW : WfS s) (kk : ∀ h', MAt h' (mindU s) → K none h') : Spc MX6_minds [.ref 0] h K := by
  obtain ⟨pl, nu, rs, ry, rt, rl, w, f9, m0, ⟨f1, f2, f3, f4, f5, f6, f7, pa, e1, e2⟩, hw, hw0, hwU, hwK, p9, hx9, hR⟩ := id hC
  have hM : MPl h (sP s) := ⟨f1, f2, f3, f4, f5, f6, f7, ⟨_, _, _, _, _, _, _, _, _, _, _, _, m0⟩, pa, e1, e2⟩
  obtain ⟨p1, p2, p3, p4, p5, p6, p7⟩ := id pa
  obtain ⟨wP, wT, wL, yH, yU, yK, wX, wSn, wSb, wSx⟩ := id hW
  have m0' : h[0]? = some (.inr (6, [.ref 1, .int (nI (sUn s)), .int (nI (sKn s)), .int (nI (pR (sP s))), .int (nI (pA (sP s))), .int (nI (pT (sP s))), .ref 2, .ref 3, .ref 4, .int (nI (pL (sP s))), .ref 5, .ref 6, .ref 7, .ref 8, .int (nI (sSb s)), .int (nI (sSx s)), .int (nI (sSn s)), .ref 9, .int (nI (sTn s)), .int pl, .int nu, .int rs, .int ry, .int rt, .ref 10, .int rl, .ref 11, .ref 12, .ref 13, .ref 14, .ref 15, .ref 16])) := m0
  have hT8 := wP.2.2.1
  have hL6 := wP.2.2.2.1
  have hT31 : pT (sP s) < 2 ^ 31 := by omega
  have hL31 : pL (sP s) < 2 ^ 31 := by omega
  have hd := lt256 yH.1 hT8
  have hlv := lt64 yH.2.1 hL6
  have hw' : h[1]? = some (.inl (false, 76, w)) := hw
  have w0 : w 0 = nI (yr (sH s)) := hw0.1
  have w1 : w 1 = nI (cn (sH s)) := hw0.2.1
  have w2 : w 2 = nI (dr (sH s)) := hw0.2.2.1
  have w3 : w 3 = nI (lv (sH s)) := hw0.2.2.2
  have hs0 : ∀ c, (h.set 0 c)[0]? = some c := set_get m0
  have hs1 := set_get hw'
  have h10 : ∀ c, (h.set 1 c)[0]? = h[0]? := fun c => List.getElem?_set_ne (by decide)
  have hu := yU.1
  refine Spc.go VX6_minds (by decide +kernel) (fun _ => Nat.le_of_ble_eq_true rfl) (fun q => decide (q = 11 ∨ q = 53)) 120 ?_
  simp only [nX6_minds, kX6_minds_0, kX6_minds_1, kX6_minds_4, kX6_minds_6, kX6_minds_9, kX6_minds_10, kX6_minds_11, kX6_minds_12, kX6_minds_14, kX6_minds_17, kX6_minds_18, kX6_minds_21, kX6_minds_23, kX6_minds_24, kX6_minds_25, kX6_minds_26, kX6_minds_29, kX6_minds_31, kX6_minds_32, kX6_minds_33, kX6_minds_34, kX6_minds_35, kX6_minds_36, kX6_minds_37, kX6_minds_40, kX6_minds_43, kX6_minds_44, kX6_minds_45, kX6_minds_48, kX6_minds_49, kX6_minds_50, kX6_minds_53, kX6_minds_54, kX6_minds_55, kX6_minds_57, kX6_minds_58, kX6_minds_59, kX6_minds_62, kX6_minds_63, kX6_minds_64, kX6_minds_67, kX6_minds_68, kX6_minds_69, kX6_minds_72, kX6_minds_73, kX6_minds_74, kX6_minds_77, ex_1, ex_s, exo_some, xK, xKL, xLdI, xLdA, xLdL, xStI, xStA, xStL, xInc, xBin, xDiv, xBinL, xDivL, xLcmp, xI2l, xL2i, xI2c, xC_eq, xC_ne, xC_lt, xC_ge, xC_gt, xC_le, xZ_eq, xZ_ne, xZ_lt, xZ_ge, xZ_gt, xZ_le, xGo, xTsw, tsw, xDup, xDup2, xPop, xGf, xPfI, xPfR, xiaload, xcaload, xiastore, xcastore, xAlen, xRet, xRetZ, xRetV, xObj, xMmax, xMmin, xCallS, xCallV, xCallI, popN, cs, kont_some, kont_none, noL, not_false_eq_true, Nat.reduceEqDiff, Nat.reduceBEq, Nat.reduceAdd, Nat.reduceLT, Nat.reduceSub, ↓reduceIte, decide_eq_true_eq, Bool.false_eq_true, decide_false, decide_true, or_false, false_or, or_true, true_or, or_self, lsOf_int, lsOf_ref, lsOf_long, lsOf_nil, List.replicate_succ, List.replicate_zero, Nat.add_one_sub_one, List.getElem?_cons_zero, List.getElem?_cons_succ, List.set_cons_zero, List.set_cons_succ, List.length_cons, List.length_nil, cond_true, cond_false, Value.category, List.reverse_nil, List.reverse_cons, List.nil_append, List.cons_append, true_and, and_true, beq_self_eq_true, nI_add, pk_mul, nI_and, nI_or, nI_an, Nat.zero_le, Nat.reduceLeDiff, f_iadd, f_isub, f_imul, f_iand, f_ior, f_ixor, f_ishl, f_ishr, f_iushr, f_idiv, f_irem, f_ladd, f_lmul, f_lrem, true_implies, false_implies, not_true_eq_false, and_self, ss, Option.isSome_some, List.set_set, sn, sn0, s0n, m0', nI_eq (show sUn s < 2 ^ 31 by omega) (show 8 < 2 ^ 31 by decide)]
  refine ⟨fun q => ?_, fun q => ?_⟩
  · refine mo_minds53 hC (by omega) yK.1 _ (fun h' z => kk h' ?_)
    have e : mindU s = wU s (sUn s + 1) (fun i => if i = sUn s then sH s else sUf s i) := by
      have e2 : pushI 8 (sUn s) (sUf s) (sH s) = fun i => if i = sUn s then sH s else sUf s i := by
        funext i
        simp only [pushI, if_pos (show sUn s < 8 by omega)]
      rw [mindU, e2, pushN, if_pos (show sUn s < 8 by omega)]
    rw [e]
    exact z
  · have key := loopN (P := fun k => ∀ w', (∀ j, j < 16 ∨ 16 + k ≤ j → w' j = w j) → (∀ j, j < k → w' (16 + j) = w (20 + j)) → SW MX6_minds K 0 0 11 [some (.ref 0), some (.int (nI k))] [] (h.set 1 (.inl (false, 76, w')))) 28 (by
      intro w' h1 h2
      have m1 : (h.set 1 (.inl (false, 76, w')))[0]? = _ := (List.getElem?_set_ne (by decide)).trans m0'
      have hs01 := set_get m1
      refine SW.go VX6_minds (Nat.zero_le _) (Nat.zero_le _) (fun q => decide (q = 11 ∨ q = 53)) 120 ?_
      simp only [nX6_minds, kX6_minds_0, kX6_minds_1, kX6_minds_4, kX6_minds_6, kX6_minds_9, kX6_minds_10, kX6_minds_11, kX6_minds_12, kX6_minds_14, kX6_minds_17, kX6_minds_18, kX6_minds_21, kX6_minds_23, kX6_minds_24, kX6_minds_25, kX6_minds_26, kX6_minds_29, kX6_minds_31, kX6_minds_32, kX6_minds_33, kX6_minds_34, kX6_minds_35, kX6_minds_36, kX6_minds_37, kX6_minds_40, kX6_minds_43, kX6_minds_44, kX6_minds_45, kX6_minds_48, kX6_minds_49, kX6_minds_50, kX6_minds_53, kX6_minds_54, kX6_minds_55, kX6_minds_57, kX6_minds_58, kX6_minds_59, kX6_minds_62, kX6_minds_63, kX6_minds_64, kX6_minds_67, kX6_minds_68, kX6_minds_69, kX6_minds_72, kX6_minds_73, kX6_minds_74, kX6_minds_77, ex_1, ex_s, exo_some, xK, xKL, xLdI, xLdA, xLdL, xStI, xStA, xStL, xInc, xBin, xDiv, xBinL, xDivL, xLcmp, xI2l, xL2i, xI2c, xC_eq, xC_ne, xC_lt, xC_ge, xC_gt, xC_le, xZ_eq, xZ_ne, xZ_lt, xZ_ge, xZ_gt, xZ_le, xGo, xTsw, tsw, xDup, xDup2, xPop, xGf, xPfI, xPfR, xiaload, xcaload, xiastore, xcastore, xAlen, xRet, xRetZ, xRetV, xObj, xMmax, xMmin, xCallS, xCallV, xCallI, popN, cs, kont_some, kont_none, noL, not_false_eq_true, Nat.reduceEqDiff, Nat.reduceBEq, Nat.reduceAdd, Nat.reduceLT, Nat.reduceSub, ↓reduceIte, decide_eq_true_eq, Bool.false_eq_true, decide_false, decide_true, or_false, false_or, or_true, true_or, or_self, lsOf_int, lsOf_ref, lsOf_long, lsOf_nil, List.replicate_succ, List.replicate_zero, Nat.add_one_sub_one, List.getElem?_cons_zero, List.getElem?_cons_succ, List.set_cons_zero, List.set_cons_succ, List.length_cons, List.length_nil, cond_true, cond_false, Value.category, List.reverse_nil, List.reverse_cons, List.nil_append, List.cons_append, true_and, and_true, beq_self_eq_true, nI_add, pk_mul, nI_and, nI_or, nI_an, Nat.zero_le, Nat.reduceLeDiff, f_iadd, f_isub, f_imul, f_iand, f_ior, f_ixor, f_ishl, f_ishr, f_iushr, f_idiv, f_irem, f_ladd, f_lmul, f_lrem, true_implies, false_implies, not_true_eq_false, and_self, ss, Option.isSome_some, List.set_set, sn, sn0, s0n, m1, hs01, nI_leI (show 28 < 2 ^ 31 by decide) (show 28 < 2 ^ 31 by decide)]
      rw [pk_sub (show 1 ≤ sUn s by omega)]
      refine mo_minds53 (s := wU s (sUn s - 1) (fun i => sUf s (i + 1))) (MAt.up hC (fun j x y => (List.getElem?_set_ne (fun z => x z.symm)).trans (List.getElem?_set_ne (fun z => y z.symm))) rfl ⟨Nat.le_refl _, fun _ _ => rfl⟩ ⟨_, _, _, _, _, _, hs01 _⟩ ⟨w', (List.getElem?_set_ne (by decide)).trans (set_get hw _), hw0.cong (fun i hi => h1 _ (by omega)), fun i hi => ?_, fun i hi => (hwK i hi).cong (fun k hk => h1 _ (by have : i < sKn s := hi; have := yK.1; omega))⟩) (show sUn s - 1 < 8 by omega) yK.1 _ (fun h' z => kk h' ?_)
      · have hi : i < sUn s - 1 := hi
        refine (hwU (i + 1) (by omega)).move (fun k hk => ?_)
        have := h2 (4 * i + k) (by omega)
        rw [show 16 + 4 * i + k = 16 + (4 * i + k) by omega, this]
        congr 1
        omega
      · have e : mindU s = wU (wU s (sUn s - 1) (fun i => sUf s (i + 1))) (sUn s - 1 + 1) (fun i => if i = sUn s - 1 then sH s else sUf s (i + 1)) := by
          have e2 : pushI 8 (sUn s) (sUf s) (sH s) = fun i => if i = sUn s - 1 then sH s else sUf s (i + 1) := by
            funext i
            simp only [pushI, if_neg (show ¬ sUn s < 8 by omega)]
          rw [mindU, e2, pushN, if_neg (show ¬ sUn s < 8 by omega), show sUn s - 1 + 1 = sUn s by omega]
          rfl
        rw [e]
        exact z) (fun k hk ih => by
      intro w' h1 h2
      have m1 : (h.set 1 (.inl (false, 76, w')))[0]? = _ := (List.getElem?_set_ne (by decide)).trans m0'
      have va : vp_in (nI (16 + k + 4)) 76 := vp_in_nI (by omega) (by decide)
      have vb : vp_in (nI (16 + k)) 76 := vp_in_nI (by omega) (by decide)
      have ca : (nI (16 + k + 4)).toNatClampNeg = 16 + k + 4 := nI_clamp (by omega)
      have cb : (nI (16 + k)).toNatClampNeg = 16 + k := nI_clamp (by omega)
      refine SW.go VX6_minds (Nat.zero_le _) (Nat.zero_le _) (fun q => decide (q = 11 ∨ q = 53)) 120 ?_
      simp only [nX6_minds, kX6_minds_0, kX6_minds_1, kX6_minds_4, kX6_minds_6, kX6_minds_9, kX6_minds_10, kX6_minds_11, kX6_minds_12, kX6_minds_14, kX6_minds_17, kX6_minds_18, kX6_minds_21, kX6_minds_23, kX6_minds_24, kX6_minds_25, kX6_minds_26, kX6_minds_29, kX6_minds_31, kX6_minds_32, kX6_minds_33, kX6_minds_34, kX6_minds_35, kX6_minds_36, kX6_minds_37, kX6_minds_40, kX6_minds_43, kX6_minds_44, kX6_minds_45, kX6_minds_48, kX6_minds_49, kX6_minds_50, kX6_minds_53, kX6_minds_54, kX6_minds_55, kX6_minds_57, kX6_minds_58, kX6_minds_59, kX6_minds_62, kX6_minds_63, kX6_minds_64, kX6_minds_67, kX6_minds_68, kX6_minds_69, kX6_minds_72, kX6_minds_73, kX6_minds_74, kX6_minds_77, ex_1, ex_s, exo_some, xK, xKL, xLdI, xLdA, xLdL, xStI, xStA, xStL, xInc, xBin, xDiv, xBinL, xDivL, xLcmp, xI2l, xL2i, xI2c, xC_eq, xC_ne, xC_lt, xC_ge, xC_gt, xC_le, xZ_eq, xZ_ne, xZ_lt, xZ_ge, xZ_gt, xZ_le, xGo, xTsw, tsw, xDup, xDup2, xPop, xGf, xPfI, xPfR, xiaload, xcaload, xiastore, xcastore, xAlen, xRet, xRetZ, xRetV, xObj, xMmax, xMmin, xCallS, xCallV, xCallI, popN, cs, kont_some, kont_none, noL, not_false_eq_true, Nat.reduceEqDiff, Nat.reduceBEq, Nat.reduceAdd, Nat.reduceLT, Nat.reduceSub, ↓reduceIte, decide_eq_true_eq, Bool.false_eq_true, decide_false, decide_true, or_false, false_or, or_true, true_or, or_self, lsOf_int, lsOf_ref, lsOf_long, lsOf_nil, List.replicate_succ, List.replicate_zero, Nat.add_one_sub_one, List.getElem?_cons_zero, List.getElem?_cons_succ, List.set_cons_zero, List.set_cons_succ, List.length_cons, List.length_nil, cond_true, cond_false, Value.category, List.reverse_nil, List.reverse_cons, List.nil_append, List.cons_append, true_and, and_true, beq_self_eq_true, nI_add, pk_mul, nI_and, nI_or, nI_an, Nat.zero_le, Nat.reduceLeDiff, f_iadd, f_isub, f_imul, f_iand, f_ior, f_ixor, f_ishl, f_ishr, f_iushr, f_idiv, f_irem, f_ladd, f_lmul, f_lrem, true_implies, false_implies, not_true_eq_false, and_self, ss, Option.isSome_some, List.set_set, sn, sn0, s0n, m1, hs1, va, vb, ca, cb, nI_leI (show 28 < 2 ^ 31 by decide) (show k < 2 ^ 31 by omega)]
      refine ⟨fun q => absurd q (by omega), fun _ => ih _ (fun j hj => ?_) (fun j hj => ?_)⟩
      · rw [upd_eq, if_neg (by omega)]
        exact h1 j (by omega)
      · rw [upd_eq]
        by_cases e : j = k
        · subst e
          rw [if_pos rfl, h1 _ (by omega)]
          congr 1
          omega
        · rw [if_neg (by omega)]
          exact h2 j (by omega))
    have := key 0 (Nat.zero_le _) w (fun _ _ => rfl) (fun i hi => absurd hi (Nat.not_lt_zero _))
    rw [set_self hw'] at this
    exact this
theorem mo_put {t : Int32} (hC : MAt h s) (hW : WfS s) (kk : ∀ h', MAt h' (putN s t) → K (some (.int (putA s t))) h') : Spc MX6_put [.ref 0, .int t] h K := by
  obtain ⟨pl, nu, rs, ry, rt, rl, w, f9, m0, ⟨f1, f2, f3, f4, f5, f6, f7, pa, e1, e2⟩, hw, hw0, hwU, hwK, p9, hx9, hR⟩ := id hC
  have hM : MPl h (sP s) := ⟨f1, f2, f3, f4, f5, f6, f7, ⟨_, _, _, _, _, _, _, _, _, _, _, _, m0⟩, pa, e1, e2⟩
  obtain ⟨p1, p2, p3, p4, p5, p6, p7⟩ := id pa
  obtain ⟨wP, wT, wL, yH, yU, yK, wX, wSn, wSb, wSx⟩ := id hW
  have m0' : h[0]? = some (.inr (6, [.ref 1, .int (nI (sUn s)), .int (nI (sKn s)), .int (nI (pR (sP s))), .int (nI (pA (sP s))), .int (nI (pT (sP s))), .ref 2, .ref 3, .ref 4, .int (nI (pL (sP s))), .ref 5, .ref 6, .ref 7, .ref 8, .int (nI (sSb s)), .int (nI (sSx s)), .int (nI (sSn s)), .ref 9, .int (nI (sTn s)), .int pl, .int nu, .int rs, .int ry, .int rt, .ref 10, .int rl, .ref 11, .ref 12, .ref 13, .ref 14, .ref 15, .ref 16])) := m0
  have hT8 := wP.2.2.1
  have hL6 := wP.2.2.2.1
  have hT31 : pT (sP s) < 2 ^ 31 := by omega
  have hL31 : pL (sP s) < 2 ^ 31 := by omega
  have hd := lt256 yH.1 hT8
  have hlv := lt64 yH.2.1 hL6
  have hw' : h[1]? = some (.inl (false, 76, w)) := hw
  have w0 : w 0 = nI (yr (sH s)) := hw0.1
  have w1 : w 1 = nI (cn (sH s)) := hw0.2.1
  have w2 : w 2 = nI (dr (sH s)) := hw0.2.2.1
  have w3 : w 3 = nI (lv (sH s)) := hw0.2.2.2
  have hs0 : ∀ c, (h.set 0 c)[0]? = some c := set_get m0
  have hs1 := set_get hw'
  have h10 : ∀ c, (h.set 1 c)[0]? = h[0]? := fun c => List.getElem?_set_ne (by decide)
  refine Spc.go VX6_put (by decide +kernel) (fun _ => Nat.le_of_ble_eq_true rfl) (fun _ => false) 120 ?_
  simp only [nX6_put, kX6_put_0, kX6_put_1, kX6_put_2, kX6_put_5, kX6_put_8, kX6_put_9, kX6_put_10, kX6_put_11, kX6_put_12, kX6_put_13, kX6_put_16, kX6_put_19, kX6_put_21, kX6_put_22, kX6_put_23, kX6_put_26, kX6_put_27, kX6_put_28, kX6_put_29, kX6_put_32, kX6_put_33, kX6_put_36, kX6_put_37, kX6_put_38, kX6_put_41, kX6_put_42, kX6_put_43, kX6_put_46, kX6_put_47, ex_1, ex_s, exo_some, xK, xKL, xLdI, xLdA, xLdL, xStI, xStA, xStL, xInc, xBin, xDiv, xBinL, xDivL, xLcmp, xI2l, xL2i, xI2c, xC_eq, xC_ne, xC_lt, xC_ge, xC_gt, xC_le, xZ_eq, xZ_ne, xZ_lt, xZ_ge, xZ_gt, xZ_le, xGo, xTsw, tsw, xDup, xDup2, xPop, xGf, xPfI, xPfR, xiaload, xcaload, xiastore, xcastore, xAlen, xRet, xRetZ, xRetV, xObj, xMmax, xMmin, xCallS, xCallV, xCallI, popN, cs, kont_some, kont_none, noL, not_false_eq_true, Nat.reduceEqDiff, Nat.reduceBEq, Nat.reduceAdd, Nat.reduceLT, Nat.reduceSub, ↓reduceIte, decide_eq_true_eq, Bool.false_eq_true, decide_false, decide_true, or_false, false_or, or_true, true_or, or_self, lsOf_int, lsOf_ref, lsOf_long, lsOf_nil, List.replicate_succ, List.replicate_zero, Nat.add_one_sub_one, List.getElem?_cons_zero, List.getElem?_cons_succ, List.set_cons_zero, List.set_cons_succ, List.length_cons, List.length_nil, cond_true, cond_false, Value.category, List.reverse_nil, List.reverse_cons, List.nil_append, List.cons_append, true_and, and_true, beq_self_eq_true, nI_add, pk_mul, nI_and, nI_or, nI_an, Nat.zero_le, Nat.reduceLeDiff, f_iadd, f_isub, f_imul, f_iand, f_ior, f_ixor, f_ishl, f_ishr, f_iushr, f_idiv, f_irem, f_ladd, f_lmul, f_lrem, true_implies, false_implies, not_true_eq_false, and_self, ss, Option.isSome_some, List.set_set, sn, sn0, s0n, m0']
  refine sp_mThing hM wP wT ?_
  simp only [nX6_put, kX6_put_0, kX6_put_1, kX6_put_2, kX6_put_5, kX6_put_8, kX6_put_9, kX6_put_10, kX6_put_11, kX6_put_12, kX6_put_13, kX6_put_16, kX6_put_19, kX6_put_21, kX6_put_22, kX6_put_23, kX6_put_26, kX6_put_27, kX6_put_28, kX6_put_29, kX6_put_32, kX6_put_33, kX6_put_36, kX6_put_37, kX6_put_38, kX6_put_41, kX6_put_42, kX6_put_43, kX6_put_46, kX6_put_47, ex_1, ex_s, exo_some, xK, xKL, xLdI, xLdA, xLdL, xStI, xStA, xStL, xInc, xBin, xDiv, xBinL, xDivL, xLcmp, xI2l, xL2i, xI2c, xC_eq, xC_ne, xC_lt, xC_ge, xC_gt, xC_le, xZ_eq, xZ_ne, xZ_lt, xZ_ge, xZ_gt, xZ_le, xGo, xTsw, tsw, xDup, xDup2, xPop, xGf, xPfI, xPfR, xiaload, xcaload, xiastore, xcastore, xAlen, xRet, xRetZ, xRetV, xObj, xMmax, xMmin, xCallS, xCallV, xCallI, popN, cs, kont_some, kont_none, noL, not_false_eq_true, Nat.reduceEqDiff, Nat.reduceBEq, Nat.reduceAdd, Nat.reduceLT, Nat.reduceSub, ↓reduceIte, decide_eq_true_eq, Bool.false_eq_true, decide_false, decide_true, or_false, false_or, or_true, true_or, or_self, lsOf_int, lsOf_ref, lsOf_long, lsOf_nil, List.replicate_succ, List.replicate_zero, Nat.add_one_sub_one, List.getElem?_cons_zero, List.getElem?_cons_succ, List.set_cons_zero, List.set_cons_succ, List.length_cons, List.length_nil, cond_true, cond_false, Value.category, List.reverse_nil, List.reverse_cons, List.nil_append, List.cons_append, true_and, and_true, beq_self_eq_true, nI_add, pk_mul, nI_and, nI_or, nI_an, Nat.zero_le, Nat.reduceLeDiff, f_iadd, f_isub, f_imul, f_iand, f_ior, f_ixor, f_ishl, f_ishr, f_iushr, f_idiv, f_irem, f_ladd, f_lmul, f_lrem, true_implies, false_implies, not_true_eq_false, and_self, ss, Option.isSome_some, List.set_set, sn, sn0, s0n, nI_b0, m0']
  cases hr : decide (0 ≤ t ∧ t < nI (pT (sP s))) with
  | false =>
    simp only [putN, putA, argN_none hr] at kk
    exact ⟨fun z => absurd rfl z, fun _ => kk h hC⟩
  | true =>
    obtain ⟨j, hj, rfl, hq⟩ := argN_some (by omega) hr
    simp only [putN, putA, hq] at kk
    refine ⟨fun _ => sp_mcanPut hM wP hw hw0 yH (by decide) hj ?_, fun z => absurd z (by decide)⟩
    simp only [nX6_put, kX6_put_0, kX6_put_1, kX6_put_2, kX6_put_5, kX6_put_8, kX6_put_9, kX6_put_10, kX6_put_11, kX6_put_12, kX6_put_13, kX6_put_16, kX6_put_19, kX6_put_21, kX6_put_22, kX6_put_23, kX6_put_26, kX6_put_27, kX6_put_28, kX6_put_29, kX6_put_32, kX6_put_33, kX6_put_36, kX6_put_37, kX6_put_38, kX6_put_41, kX6_put_42, kX6_put_43, kX6_put_46, kX6_put_47, ex_1, ex_s, exo_some, xK, xKL, xLdI, xLdA, xLdL, xStI, xStA, xStL, xInc, xBin, xDiv, xBinL, xDivL, xLcmp, xI2l, xL2i, xI2c, xC_eq, xC_ne, xC_lt, xC_ge, xC_gt, xC_le, xZ_eq, xZ_ne, xZ_lt, xZ_ge, xZ_gt, xZ_le, xGo, xTsw, tsw, xDup, xDup2, xPop, xGf, xPfI, xPfR, xiaload, xcaload, xiastore, xcastore, xAlen, xRet, xRetZ, xRetV, xObj, xMmax, xMmin, xCallS, xCallV, xCallI, popN, cs, kont_some, kont_none, noL, not_false_eq_true, Nat.reduceEqDiff, Nat.reduceBEq, Nat.reduceAdd, Nat.reduceLT, Nat.reduceSub, ↓reduceIte, decide_eq_true_eq, Bool.false_eq_true, decide_false, decide_true, or_false, false_or, or_true, true_or, or_self, lsOf_int, lsOf_ref, lsOf_long, lsOf_nil, List.replicate_succ, List.replicate_zero, Nat.add_one_sub_one, List.getElem?_cons_zero, List.getElem?_cons_succ, List.set_cons_zero, List.set_cons_succ, List.length_cons, List.length_nil, cond_true, cond_false, Value.category, List.reverse_nil, List.reverse_cons, List.nil_append, List.cons_append, true_and, and_true, beq_self_eq_true, nI_add, pk_mul, nI_and, nI_or, nI_an, Nat.zero_le, Nat.reduceLeDiff, f_iadd, f_isub, f_imul, f_iand, f_ior, f_ixor, f_ishl, f_ishr, f_iushr, f_idiv, f_irem, f_ladd, f_lmul, f_lrem, true_implies, false_implies, not_true_eq_false, and_self, ss, Option.isSome_some, List.set_set, sn, sn0, s0n, nI_b0, m0']
    cases ho : canPutN (sP s) (sH s) j with
    | false =>
      simp only [ho, Bool.false_eq_true, if_false] at kk
      exact ⟨fun z => absurd rfl z, fun _ => kk h hC⟩
    | true =>
      simp only [ho, if_true] at kk
      refine ⟨fun _ => mo_minds hC hW (fun h1 C1 => ?_), fun z => absurd z (by decide)⟩
      obtain ⟨v1, hM1, hv1, hv0, hvU, hvK, pl1, nu1, rs1, ry1, rt1, rl1, m1⟩ := C1.view
      have m1' : h1[0]? = _ := m1
      simp only [nX6_put, kX6_put_0, kX6_put_1, kX6_put_2, kX6_put_5, kX6_put_8, kX6_put_9, kX6_put_10, kX6_put_11, kX6_put_12, kX6_put_13, kX6_put_16, kX6_put_19, kX6_put_21, kX6_put_22, kX6_put_23, kX6_put_26, kX6_put_27, kX6_put_28, kX6_put_29, kX6_put_32, kX6_put_33, kX6_put_36, kX6_put_37, kX6_put_38, kX6_put_41, kX6_put_42, kX6_put_43, kX6_put_46, kX6_put_47, ex_1, ex_s, exo_some, xK, xKL, xLdI, xLdA, xLdL, xStI, xStA, xStL, xInc, xBin, xDiv, xBinL, xDivL, xLcmp, xI2l, xL2i, xI2c, xC_eq, xC_ne, xC_lt, xC_ge, xC_gt, xC_le, xZ_eq, xZ_ne, xZ_lt, xZ_ge, xZ_gt, xZ_le, xGo, xTsw, tsw, xDup, xDup2, xPop, xGf, xPfI, xPfR, xiaload, xcaload, xiastore, xcastore, xAlen, xRet, xRetZ, xRetV, xObj, xMmax, xMmin, xCallS, xCallV, xCallI, popN, cs, kont_some, kont_none, noL, not_false_eq_true, Nat.reduceEqDiff, Nat.reduceBEq, Nat.reduceAdd, Nat.reduceLT, Nat.reduceSub, ↓reduceIte, decide_eq_true_eq, Bool.false_eq_true, decide_false, decide_true, or_false, false_or, or_true, true_or, or_self, lsOf_int, lsOf_ref, lsOf_long, lsOf_nil, List.replicate_succ, List.replicate_zero, Nat.add_one_sub_one, List.getElem?_cons_zero, List.getElem?_cons_succ, List.set_cons_zero, List.set_cons_succ, List.length_cons, List.length_nil, cond_true, cond_false, Value.category, List.reverse_nil, List.reverse_cons, List.nil_append, List.cons_append, true_and, and_true, beq_self_eq_true, nI_add, pk_mul, nI_and, nI_or, nI_an, Nat.zero_le, Nat.reduceLeDiff, f_iadd, f_isub, f_imul, f_iand, f_ior, f_ixor, f_ishl, f_ishr, f_iushr, f_idiv, f_irem, f_ladd, f_lmul, f_lrem, true_implies, false_implies, not_true_eq_false, and_self, ss, Option.isSome_some, List.set_set, sn, sn0, s0n, m1, mC6]
      refine sp_mputs (P := sP s) (r := sH s) hM1 wP hv1 hv0 (by decide) hj (by simp [canPutN] at ho; omega) (fun w' q1 q2 => ?_)
      have C2 : MAt _ (wH (mindU s) (putH (sP s) (sH s) j)) := MAt.hour C1 hv1 hvU hvK w' q1 q2
      obtain ⟨v2, hM2, hv2, hv20, -, -, pl2, nu2, rs2, ry2, rt2, rl2, m2⟩ := C2.view
      have hv2' : (h1.set 1 (.inl (false, 76, w')))[1]? = some (.inl (false, 76, v2)) := hv2
      have y2 : v2 2 = nI (dr (sH s) ||| 2 ^ j) := hv20.2.2.1
      simp only [nX6_put, kX6_put_0, kX6_put_1, kX6_put_2, kX6_put_5, kX6_put_8, kX6_put_9, kX6_put_10, kX6_put_11, kX6_put_12, kX6_put_13, kX6_put_16, kX6_put_19, kX6_put_21, kX6_put_22, kX6_put_23, kX6_put_26, kX6_put_27, kX6_put_28, kX6_put_29, kX6_put_32, kX6_put_33, kX6_put_36, kX6_put_37, kX6_put_38, kX6_put_41, kX6_put_42, kX6_put_43, kX6_put_46, kX6_put_47, ex_1, ex_s, exo_some, xK, xKL, xLdI, xLdA, xLdL, xStI, xStA, xStL, xInc, xBin, xDiv, xBinL, xDivL, xLcmp, xI2l, xL2i, xI2c, xC_eq, xC_ne, xC_lt, xC_ge, xC_gt, xC_le, xZ_eq, xZ_ne, xZ_lt, xZ_ge, xZ_gt, xZ_le, xGo, xTsw, tsw, xDup, xDup2, xPop, xGf, xPfI, xPfR, xiaload, xcaload, xiastore, xcastore, xAlen, xRet, xRetZ, xRetV, xObj, xMmax, xMmin, xCallS, xCallV, xCallI, popN, cs, kont_some, kont_none, noL, not_false_eq_true, Nat.reduceEqDiff, Nat.reduceBEq, Nat.reduceAdd, Nat.reduceLT, Nat.reduceSub, ↓reduceIte, decide_eq_true_eq, Bool.false_eq_true, decide_false, decide_true, or_false, false_or, or_true, true_or, or_self, lsOf_int, lsOf_ref, lsOf_long, lsOf_nil, List.replicate_succ, List.replicate_zero, Nat.add_one_sub_one, List.getElem?_cons_zero, List.getElem?_cons_succ, List.set_cons_zero, List.set_cons_succ, List.length_cons, List.length_nil, cond_true, cond_false, Value.category, List.reverse_nil, List.reverse_cons, List.nil_append, List.cons_append, true_and, and_true, beq_self_eq_true, nI_add, pk_mul, nI_and, nI_or, nI_an, Nat.zero_le, Nat.reduceLeDiff, f_iadd, f_isub, f_imul, f_iand, f_ior, f_ixor, f_ishl, f_ishr, f_iushr, f_idiv, f_irem, f_ladd, f_lmul, f_lrem, true_implies, false_implies, not_true_eq_false, and_self, ss, Option.isSome_some, List.set_set, sn, sn0, s0n, m2, mC6, hv2', vq2, cq2, y2]
      refine sp_mroom hM2 wP (lt256 (orT yH.1 hj) hT8) ?_
      simp only [nX6_put, kX6_put_0, kX6_put_1, kX6_put_2, kX6_put_5, kX6_put_8, kX6_put_9, kX6_put_10, kX6_put_11, kX6_put_12, kX6_put_13, kX6_put_16, kX6_put_19, kX6_put_21, kX6_put_22, kX6_put_23, kX6_put_26, kX6_put_27, kX6_put_28, kX6_put_29, kX6_put_32, kX6_put_33, kX6_put_36, kX6_put_37, kX6_put_38, kX6_put_41, kX6_put_42, kX6_put_43, kX6_put_46, kX6_put_47, ex_1, ex_s, exo_some, xK, xKL, xLdI, xLdA, xLdL, xStI, xStA, xStL, xInc, xBin, xDiv, xBinL, xDivL, xLcmp, xI2l, xL2i, xI2c, xC_eq, xC_ne, xC_lt, xC_ge, xC_gt, xC_le, xZ_eq, xZ_ne, xZ_lt, xZ_ge, xZ_gt, xZ_le, xGo, xTsw, tsw, xDup, xDup2, xPop, xGf, xPfI, xPfR, xiaload, xcaload, xiastore, xcastore, xAlen, xRet, xRetZ, xRetV, xObj, xMmax, xMmin, xCallS, xCallV, xCallI, popN, cs, kont_some, kont_none, noL, not_false_eq_true, Nat.reduceEqDiff, Nat.reduceBEq, Nat.reduceAdd, Nat.reduceLT, Nat.reduceSub, ↓reduceIte, decide_eq_true_eq, Bool.false_eq_true, decide_false, decide_true, or_false, false_or, or_true, true_or, or_self, lsOf_int, lsOf_ref, lsOf_long, lsOf_nil, List.replicate_succ, List.replicate_zero, Nat.add_one_sub_one, List.getElem?_cons_zero, List.getElem?_cons_succ, List.set_cons_zero, List.set_cons_succ, List.length_cons, List.length_nil, cond_true, cond_false, Value.category, List.reverse_nil, List.reverse_cons, List.nil_append, List.cons_append, true_and, and_true, beq_self_eq_true, nI_add, pk_mul, nI_and, nI_or, nI_an, Nat.zero_le, Nat.reduceLeDiff, f_iadd, f_isub, f_imul, f_iand, f_ior, f_ixor, f_ishl, f_ishr, f_iushr, f_idiv, f_irem, f_ladd, f_lmul, f_lrem, true_implies, false_implies, not_true_eq_false, and_self, ss, Option.isSome_some, List.set_set, sn, sn0, s0n]
      exact kk _ C2
theorem mo_out {t : Int32} (hC : MAt h s) (hW : WfS s) (kk : ∀ h', MAt h' (outN s t) → K (some (.int (outA s t))) h') : Spc MX6_out [.ref 0, .int t] h K := by
  obtain ⟨pl, nu, rs, ry, rt, rl, w, f9, m0, ⟨f1, f2, f3, f4, f5, f6, f7, pa, e1, e2⟩, hw, hw0, hwU, hwK, p9, hx9, hR⟩ := id hC
  have hM : MPl h (sP s) := ⟨f1, f2, f3, f4, f5, f6, f7, ⟨_, _, _, _, _, _, _, _, _, _, _, _, m0⟩, pa, e1, e2⟩
  obtain ⟨p1, p2, p3, p4, p5, p6, p7⟩ := id pa
  obtain ⟨wP, wT, wL, yH, yU, yK, wX, wSn, wSb, wSx⟩ := id hW
  have m0' : h[0]? = some (.inr (6, [.ref 1, .int (nI (sUn s)), .int (nI (sKn s)), .int (nI (pR (sP s))), .int (nI (pA (sP s))), .int (nI (pT (sP s))), .ref 2, .ref 3, .ref 4, .int (nI (pL (sP s))), .ref 5, .ref 6, .ref 7, .ref 8, .int (nI (sSb s)), .int (nI (sSx s)), .int (nI (sSn s)), .ref 9, .int (nI (sTn s)), .int pl, .int nu, .int rs, .int ry, .int rt, .ref 10, .int rl, .ref 11, .ref 12, .ref 13, .ref 14, .ref 15, .ref 16])) := m0
  have hT8 := wP.2.2.1
  have hL6 := wP.2.2.2.1
  have hT31 : pT (sP s) < 2 ^ 31 := by omega
  have hL31 : pL (sP s) < 2 ^ 31 := by omega
  have hd := lt256 yH.1 hT8
  have hlv := lt64 yH.2.1 hL6
  have hw' : h[1]? = some (.inl (false, 76, w)) := hw
  have w0 : w 0 = nI (yr (sH s)) := hw0.1
  have w1 : w 1 = nI (cn (sH s)) := hw0.2.1
  have w2 : w 2 = nI (dr (sH s)) := hw0.2.2.1
  have w3 : w 3 = nI (lv (sH s)) := hw0.2.2.2
  have hs0 : ∀ c, (h.set 0 c)[0]? = some c := set_get m0
  have hs1 := set_get hw'
  have h10 : ∀ c, (h.set 1 c)[0]? = h[0]? := fun c => List.getElem?_set_ne (by decide)
  refine Spc.go VX6_out (by decide +kernel) (fun _ => Nat.le_of_ble_eq_true rfl) (fun _ => false) 120 ?_
  simp only [nX6_out, kX6_out_0, kX6_out_1, kX6_out_2, kX6_out_5, kX6_out_8, kX6_out_9, kX6_out_10, kX6_out_11, kX6_out_14, kX6_out_15, kX6_out_16, kX6_out_17, kX6_out_20, kX6_out_23, kX6_out_25, kX6_out_26, kX6_out_27, kX6_out_30, kX6_out_31, kX6_out_34, kX6_out_35, kX6_out_36, kX6_out_37, kX6_out_38, kX6_out_39, kX6_out_40, kX6_out_41, kX6_out_42, kX6_out_43, kX6_out_44, kX6_out_45, kX6_out_48, kX6_out_49, kX6_out_50, kX6_out_53, kX6_out_54, kX6_out_55, kX6_out_58, kX6_out_59, ex_1, ex_s, exo_some, xK, xKL, xLdI, xLdA, xLdL, xStI, xStA, xStL, xInc, xBin, xDiv, xBinL, xDivL, xLcmp, xI2l, xL2i, xI2c, xC_eq, xC_ne, xC_lt, xC_ge, xC_gt, xC_le, xZ_eq, xZ_ne, xZ_lt, xZ_ge, xZ_gt, xZ_le, xGo, xTsw, tsw, xDup, xDup2, xPop, xGf, xPfI, xPfR, xiaload, xcaload, xiastore, xcastore, xAlen, xRet, xRetZ, xRetV, xObj, xMmax, xMmin, xCallS, xCallV, xCallI, popN, cs, kont_some, kont_none, noL, not_false_eq_true, Nat.reduceEqDiff, Nat.reduceBEq, Nat.reduceAdd, Nat.reduceLT, Nat.reduceSub, ↓reduceIte, decide_eq_true_eq, Bool.false_eq_true, decide_false, decide_true, or_false, false_or, or_true, true_or, or_self, lsOf_int, lsOf_ref, lsOf_long, lsOf_nil, List.replicate_succ, List.replicate_zero, Nat.add_one_sub_one, List.getElem?_cons_zero, List.getElem?_cons_succ, List.set_cons_zero, List.set_cons_succ, List.length_cons, List.length_nil, cond_true, cond_false, Value.category, List.reverse_nil, List.reverse_cons, List.nil_append, List.cons_append, true_and, and_true, beq_self_eq_true, nI_add, pk_mul, nI_and, nI_or, nI_an, Nat.zero_le, Nat.reduceLeDiff, f_iadd, f_isub, f_imul, f_iand, f_ior, f_ixor, f_ishl, f_ishr, f_iushr, f_idiv, f_irem, f_ladd, f_lmul, f_lrem, true_implies, false_implies, not_true_eq_false, and_self, ss, Option.isSome_some, List.set_set, sn, sn0, s0n, m0']
  refine sp_mThing hM wP wT ?_
  simp only [nX6_out, kX6_out_0, kX6_out_1, kX6_out_2, kX6_out_5, kX6_out_8, kX6_out_9, kX6_out_10, kX6_out_11, kX6_out_14, kX6_out_15, kX6_out_16, kX6_out_17, kX6_out_20, kX6_out_23, kX6_out_25, kX6_out_26, kX6_out_27, kX6_out_30, kX6_out_31, kX6_out_34, kX6_out_35, kX6_out_36, kX6_out_37, kX6_out_38, kX6_out_39, kX6_out_40, kX6_out_41, kX6_out_42, kX6_out_43, kX6_out_44, kX6_out_45, kX6_out_48, kX6_out_49, kX6_out_50, kX6_out_53, kX6_out_54, kX6_out_55, kX6_out_58, kX6_out_59, ex_1, ex_s, exo_some, xK, xKL, xLdI, xLdA, xLdL, xStI, xStA, xStL, xInc, xBin, xDiv, xBinL, xDivL, xLcmp, xI2l, xL2i, xI2c, xC_eq, xC_ne, xC_lt, xC_ge, xC_gt, xC_le, xZ_eq, xZ_ne, xZ_lt, xZ_ge, xZ_gt, xZ_le, xGo, xTsw, tsw, xDup, xDup2, xPop, xGf, xPfI, xPfR, xiaload, xcaload, xiastore, xcastore, xAlen, xRet, xRetZ, xRetV, xObj, xMmax, xMmin, xCallS, xCallV, xCallI, popN, cs, kont_some, kont_none, noL, not_false_eq_true, Nat.reduceEqDiff, Nat.reduceBEq, Nat.reduceAdd, Nat.reduceLT, Nat.reduceSub, ↓reduceIte, decide_eq_true_eq, Bool.false_eq_true, decide_false, decide_true, or_false, false_or, or_true, true_or, or_self, lsOf_int, lsOf_ref, lsOf_long, lsOf_nil, List.replicate_succ, List.replicate_zero, Nat.add_one_sub_one, List.getElem?_cons_zero, List.getElem?_cons_succ, List.set_cons_zero, List.set_cons_succ, List.length_cons, List.length_nil, cond_true, cond_false, Value.category, List.reverse_nil, List.reverse_cons, List.nil_append, List.cons_append, true_and, and_true, beq_self_eq_true, nI_add, pk_mul, nI_and, nI_or, nI_an, Nat.zero_le, Nat.reduceLeDiff, f_iadd, f_isub, f_imul, f_iand, f_ior, f_ixor, f_ishl, f_ishr, f_iushr, f_idiv, f_irem, f_ladd, f_lmul, f_lrem, true_implies, false_implies, not_true_eq_false, and_self, ss, Option.isSome_some, List.set_set, sn, sn0, s0n, nI_b0, m0', hw', w0, w1, w2, w3, vq0, vq1, vq2, vq3, cq0, cq1, cq2, cq3]
  cases hr : decide (0 ≤ t ∧ t < nI (pT (sP s))) with
  | false =>
    simp only [outN, outA, argN_none hr] at kk
    exact ⟨fun z => absurd rfl z, fun _ => kk h hC⟩
  | true =>
    obtain ⟨j, hj, rfl, hq⟩ := argN_some (by omega) hr
    simp only [outN, outA, hq] at kk
    refine ⟨fun _ => sp_mhas (by omega) (by omega) ?_, fun z => absurd z (by decide)⟩
    simp only [nX6_out, kX6_out_0, kX6_out_1, kX6_out_2, kX6_out_5, kX6_out_8, kX6_out_9, kX6_out_10, kX6_out_11, kX6_out_14, kX6_out_15, kX6_out_16, kX6_out_17, kX6_out_20, kX6_out_23, kX6_out_25, kX6_out_26, kX6_out_27, kX6_out_30, kX6_out_31, kX6_out_34, kX6_out_35, kX6_out_36, kX6_out_37, kX6_out_38, kX6_out_39, kX6_out_40, kX6_out_41, kX6_out_42, kX6_out_43, kX6_out_44, kX6_out_45, kX6_out_48, kX6_out_49, kX6_out_50, kX6_out_53, kX6_out_54, kX6_out_55, kX6_out_58, kX6_out_59, ex_1, ex_s, exo_some, xK, xKL, xLdI, xLdA, xLdL, xStI, xStA, xStL, xInc, xBin, xDiv, xBinL, xDivL, xLcmp, xI2l, xL2i, xI2c, xC_eq, xC_ne, xC_lt, xC_ge, xC_gt, xC_le, xZ_eq, xZ_ne, xZ_lt, xZ_ge, xZ_gt, xZ_le, xGo, xTsw, tsw, xDup, xDup2, xPop, xGf, xPfI, xPfR, xiaload, xcaload, xiastore, xcastore, xAlen, xRet, xRetZ, xRetV, xObj, xMmax, xMmin, xCallS, xCallV, xCallI, popN, cs, kont_some, kont_none, noL, not_false_eq_true, Nat.reduceEqDiff, Nat.reduceBEq, Nat.reduceAdd, Nat.reduceLT, Nat.reduceSub, ↓reduceIte, decide_eq_true_eq, Bool.false_eq_true, decide_false, decide_true, or_false, false_or, or_true, true_or, or_self, lsOf_int, lsOf_ref, lsOf_long, lsOf_nil, List.replicate_succ, List.replicate_zero, Nat.add_one_sub_one, List.getElem?_cons_zero, List.getElem?_cons_succ, List.set_cons_zero, List.set_cons_succ, List.length_cons, List.length_nil, cond_true, cond_false, Value.category, List.reverse_nil, List.reverse_cons, List.nil_append, List.cons_append, true_and, and_true, beq_self_eq_true, nI_add, pk_mul, nI_and, nI_or, nI_an, Nat.zero_le, Nat.reduceLeDiff, f_iadd, f_isub, f_imul, f_iand, f_ior, f_ixor, f_ishl, f_ishr, f_iushr, f_idiv, f_irem, f_ladd, f_lmul, f_lrem, true_implies, false_implies, not_true_eq_false, and_self, ss, Option.isSome_some, List.set_set, sn, sn0, s0n, nI_b0, m0']
    cases ho : (dr (sH s)).testBit j with
    | false =>
      simp only [ho, Bool.false_eq_true, if_false] at kk
      exact ⟨fun z => absurd rfl z, fun _ => kk h hC⟩
    | true =>
      simp only [ho, if_true] at kk
      refine ⟨fun _ => mo_minds hC hW (fun h1 C1 => ?_), fun z => absurd z (by decide)⟩
      obtain ⟨v1, hM1, hv1, hv0, hvU, hvK, pl1, nu1, rs1, ry1, rt1, rl1, m1⟩ := C1.view
      have hv1' : h1[1]? = some (.inl (false, 76, v1)) := hv1
      have x2 : v1 2 = nI (dr (sH s)) := hv0.2.2.1
      have hsv := set_get hv1'
      have h0v : ∀ c, (h1.set 1 c)[0]? = h1[0]? := fun c => List.getElem?_set_ne (by decide)
      simp only [nX6_out, kX6_out_0, kX6_out_1, kX6_out_2, kX6_out_5, kX6_out_8, kX6_out_9, kX6_out_10, kX6_out_11, kX6_out_14, kX6_out_15, kX6_out_16, kX6_out_17, kX6_out_20, kX6_out_23, kX6_out_25, kX6_out_26, kX6_out_27, kX6_out_30, kX6_out_31, kX6_out_34, kX6_out_35, kX6_out_36, kX6_out_37, kX6_out_38, kX6_out_39, kX6_out_40, kX6_out_41, kX6_out_42, kX6_out_43, kX6_out_44, kX6_out_45, kX6_out_48, kX6_out_49, kX6_out_50, kX6_out_53, kX6_out_54, kX6_out_55, kX6_out_58, kX6_out_59, ex_1, ex_s, exo_some, xK, xKL, xLdI, xLdA, xLdL, xStI, xStA, xStL, xInc, xBin, xDiv, xBinL, xDivL, xLcmp, xI2l, xL2i, xI2c, xC_eq, xC_ne, xC_lt, xC_ge, xC_gt, xC_le, xZ_eq, xZ_ne, xZ_lt, xZ_ge, xZ_gt, xZ_le, xGo, xTsw, tsw, xDup, xDup2, xPop, xGf, xPfI, xPfR, xiaload, xcaload, xiastore, xcastore, xAlen, xRet, xRetZ, xRetV, xObj, xMmax, xMmin, xCallS, xCallV, xCallI, popN, cs, kont_some, kont_none, noL, not_false_eq_true, Nat.reduceEqDiff, Nat.reduceBEq, Nat.reduceAdd, Nat.reduceLT, Nat.reduceSub, ↓reduceIte, decide_eq_true_eq, Bool.false_eq_true, decide_false, decide_true, or_false, false_or, or_true, true_or, or_self, lsOf_int, lsOf_ref, lsOf_long, lsOf_nil, List.replicate_succ, List.replicate_zero, Nat.add_one_sub_one, List.getElem?_cons_zero, List.getElem?_cons_succ, List.set_cons_zero, List.set_cons_succ, List.length_cons, List.length_nil, cond_true, cond_false, Value.category, List.reverse_nil, List.reverse_cons, List.nil_append, List.cons_append, true_and, and_true, beq_self_eq_true, nI_add, pk_mul, nI_and, nI_or, nI_an, Nat.zero_le, Nat.reduceLeDiff, f_iadd, f_isub, f_imul, f_iand, f_ior, f_ixor, f_ishl, f_ishr, f_iushr, f_idiv, f_irem, f_ladd, f_lmul, f_lrem, true_implies, false_implies, not_true_eq_false, and_self, ss, Option.isSome_some, List.set_set, sn, sn0, s0n, m1, mC6, hv1', vq2, cq2, x2, hsv, h0v, nI_shl1 (show j < 31 by omega), upd_eq, if_true]
      have C2 : MAt _ (wH (mindU s) (outH (sH s) j)) := MAt.hour C1 hv1 hvU hvK (upd v1 2 (nI (an (dr (sH s)) (2 ^ j)))) (fun k hk => by rw [upd_eq, if_neg (by omega)]) ⟨by rw [upd_eq, if_neg (by decide)]; exact hv0.1, by rw [upd_eq, if_neg (by decide)]; exact hv0.2.1, by rw [upd_eq, if_pos rfl]; rfl, by rw [upd_eq, if_neg (by decide)]; exact hv0.2.2.2⟩
      obtain ⟨v2, hM2, hv2, hv20, -, -, pl2, nu2, rs2, ry2, rt2, rl2, m2⟩ := C2.view
      refine sp_mroom hM2 wP (an256 hd) ?_
      simp only [nX6_out, kX6_out_0, kX6_out_1, kX6_out_2, kX6_out_5, kX6_out_8, kX6_out_9, kX6_out_10, kX6_out_11, kX6_out_14, kX6_out_15, kX6_out_16, kX6_out_17, kX6_out_20, kX6_out_23, kX6_out_25, kX6_out_26, kX6_out_27, kX6_out_30, kX6_out_31, kX6_out_34, kX6_out_35, kX6_out_36, kX6_out_37, kX6_out_38, kX6_out_39, kX6_out_40, kX6_out_41, kX6_out_42, kX6_out_43, kX6_out_44, kX6_out_45, kX6_out_48, kX6_out_49, kX6_out_50, kX6_out_53, kX6_out_54, kX6_out_55, kX6_out_58, kX6_out_59, ex_1, ex_s, exo_some, xK, xKL, xLdI, xLdA, xLdL, xStI, xStA, xStL, xInc, xBin, xDiv, xBinL, xDivL, xLcmp, xI2l, xL2i, xI2c, xC_eq, xC_ne, xC_lt, xC_ge, xC_gt, xC_le, xZ_eq, xZ_ne, xZ_lt, xZ_ge, xZ_gt, xZ_le, xGo, xTsw, tsw, xDup, xDup2, xPop, xGf, xPfI, xPfR, xiaload, xcaload, xiastore, xcastore, xAlen, xRet, xRetZ, xRetV, xObj, xMmax, xMmin, xCallS, xCallV, xCallI, popN, cs, kont_some, kont_none, noL, not_false_eq_true, Nat.reduceEqDiff, Nat.reduceBEq, Nat.reduceAdd, Nat.reduceLT, Nat.reduceSub, ↓reduceIte, decide_eq_true_eq, Bool.false_eq_true, decide_false, decide_true, or_false, false_or, or_true, true_or, or_self, lsOf_int, lsOf_ref, lsOf_long, lsOf_nil, List.replicate_succ, List.replicate_zero, Nat.add_one_sub_one, List.getElem?_cons_zero, List.getElem?_cons_succ, List.set_cons_zero, List.set_cons_succ, List.length_cons, List.length_nil, cond_true, cond_false, Value.category, List.reverse_nil, List.reverse_cons, List.nil_append, List.cons_append, true_and, and_true, beq_self_eq_true, nI_add, pk_mul, nI_and, nI_or, nI_an, Nat.zero_le, Nat.reduceLeDiff, f_iadd, f_isub, f_imul, f_iand, f_ior, f_ixor, f_ishl, f_ishr, f_iushr, f_idiv, f_irem, f_ladd, f_lmul, f_lrem, true_implies, false_implies, not_true_eq_false, and_self, ss, Option.isSome_some, List.set_set, sn, sn0, s0n]
      exact kk _ C2
theorem mo_live {l : Int32} (hC : MAt h s) (hW : WfS s) (kk : ∀ h', MAt h' (liveN s l) → K (some (.int (liveA s l))) h') : Spc MX6_live [.ref 0, .int l] h K := by
  obtain ⟨pl, nu, rs, ry, rt, rl, w, f9, m0, ⟨f1, f2, f3, f4, f5, f6, f7, pa, e1, e2⟩, hw, hw0, hwU, hwK, p9, hx9, hR⟩ := id hC
  have hM : MPl h (sP s) := ⟨f1, f2, f3, f4, f5, f6, f7, ⟨_, _, _, _, _, _, _, _, _, _, _, _, m0⟩, pa, e1, e2⟩
  obtain ⟨p1, p2, p3, p4, p5, p6, p7⟩ := id pa
  obtain ⟨wP, wT, wL, yH, yU, yK, wX, wSn, wSb, wSx⟩ := id hW
  have m0' : h[0]? = some (.inr (6, [.ref 1, .int (nI (sUn s)), .int (nI (sKn s)), .int (nI (pR (sP s))), .int (nI (pA (sP s))), .int (nI (pT (sP s))), .ref 2, .ref 3, .ref 4, .int (nI (pL (sP s))), .ref 5, .ref 6, .ref 7, .ref 8, .int (nI (sSb s)), .int (nI (sSx s)), .int (nI (sSn s)), .ref 9, .int (nI (sTn s)), .int pl, .int nu, .int rs, .int ry, .int rt, .ref 10, .int rl, .ref 11, .ref 12, .ref 13, .ref 14, .ref 15, .ref 16])) := m0
  have hT8 := wP.2.2.1
  have hL6 := wP.2.2.2.1
  have hT31 : pT (sP s) < 2 ^ 31 := by omega
  have hL31 : pL (sP s) < 2 ^ 31 := by omega
  have hd := lt256 yH.1 hT8
  have hlv := lt64 yH.2.1 hL6
  have hw' : h[1]? = some (.inl (false, 76, w)) := hw
  have w0 : w 0 = nI (yr (sH s)) := hw0.1
  have w1 : w 1 = nI (cn (sH s)) := hw0.2.1
  have w2 : w 2 = nI (dr (sH s)) := hw0.2.2.1
  have w3 : w 3 = nI (lv (sH s)) := hw0.2.2.2
  have hs0 : ∀ c, (h.set 0 c)[0]? = some c := set_get m0
  have hs1 := set_get hw'
  have h10 : ∀ c, (h.set 1 c)[0]? = h[0]? := fun c => List.getElem?_set_ne (by decide)
  refine Spc.go VX6_live (by decide +kernel) (fun _ => Nat.le_of_ble_eq_true rfl) (fun _ => false) 120 ?_
  simp only [nX6_live, kX6_live_0, kX6_live_1, kX6_live_2, kX6_live_5, kX6_live_8, kX6_live_9, kX6_live_10, kX6_live_11, kX6_live_12, kX6_live_13, kX6_live_16, kX6_live_19, kX6_live_21, kX6_live_22, kX6_live_23, kX6_live_26, kX6_live_27, kX6_live_28, kX6_live_29, kX6_live_32, ex_1, ex_s, exo_some, xK, xKL, xLdI, xLdA, xLdL, xStI, xStA, xStL, xInc, xBin, xDiv, xBinL, xDivL, xLcmp, xI2l, xL2i, xI2c, xC_eq, xC_ne, xC_lt, xC_ge, xC_gt, xC_le, xZ_eq, xZ_ne, xZ_lt, xZ_ge, xZ_gt, xZ_le, xGo, xTsw, tsw, xDup, xDup2, xPop, xGf, xPfI, xPfR, xiaload, xcaload, xiastore, xcastore, xAlen, xRet, xRetZ, xRetV, xObj, xMmax, xMmin, xCallS, xCallV, xCallI, popN, cs, kont_some, kont_none, noL, not_false_eq_true, Nat.reduceEqDiff, Nat.reduceBEq, Nat.reduceAdd, Nat.reduceLT, Nat.reduceSub, ↓reduceIte, decide_eq_true_eq, Bool.false_eq_true, decide_false, decide_true, or_false, false_or, or_true, true_or, or_self, lsOf_int, lsOf_ref, lsOf_long, lsOf_nil, List.replicate_succ, List.replicate_zero, Nat.add_one_sub_one, List.getElem?_cons_zero, List.getElem?_cons_succ, List.set_cons_zero, List.set_cons_succ, List.length_cons, List.length_nil, cond_true, cond_false, Value.category, List.reverse_nil, List.reverse_cons, List.nil_append, List.cons_append, true_and, and_true, beq_self_eq_true, nI_add, pk_mul, nI_and, nI_or, nI_an, Nat.zero_le, Nat.reduceLeDiff, f_iadd, f_isub, f_imul, f_iand, f_ior, f_ixor, f_ishl, f_ishr, f_iushr, f_idiv, f_irem, f_ladd, f_lmul, f_lrem, true_implies, false_implies, not_true_eq_false, and_self, ss, Option.isSome_some, List.set_set, sn, sn0, s0n, m0']
  refine sp_mLife hM wP wL ?_
  simp only [nX6_live, kX6_live_0, kX6_live_1, kX6_live_2, kX6_live_5, kX6_live_8, kX6_live_9, kX6_live_10, kX6_live_11, kX6_live_12, kX6_live_13, kX6_live_16, kX6_live_19, kX6_live_21, kX6_live_22, kX6_live_23, kX6_live_26, kX6_live_27, kX6_live_28, kX6_live_29, kX6_live_32, ex_1, ex_s, exo_some, xK, xKL, xLdI, xLdA, xLdL, xStI, xStA, xStL, xInc, xBin, xDiv, xBinL, xDivL, xLcmp, xI2l, xL2i, xI2c, xC_eq, xC_ne, xC_lt, xC_ge, xC_gt, xC_le, xZ_eq, xZ_ne, xZ_lt, xZ_ge, xZ_gt, xZ_le, xGo, xTsw, tsw, xDup, xDup2, xPop, xGf, xPfI, xPfR, xiaload, xcaload, xiastore, xcastore, xAlen, xRet, xRetZ, xRetV, xObj, xMmax, xMmin, xCallS, xCallV, xCallI, popN, cs, kont_some, kont_none, noL, not_false_eq_true, Nat.reduceEqDiff, Nat.reduceBEq, Nat.reduceAdd, Nat.reduceLT, Nat.reduceSub, ↓reduceIte, decide_eq_true_eq, Bool.false_eq_true, decide_false, decide_true, or_false, false_or, or_true, true_or, or_self, lsOf_int, lsOf_ref, lsOf_long, lsOf_nil, List.replicate_succ, List.replicate_zero, Nat.add_one_sub_one, List.getElem?_cons_zero, List.getElem?_cons_succ, List.set_cons_zero, List.set_cons_succ, List.length_cons, List.length_nil, cond_true, cond_false, Value.category, List.reverse_nil, List.reverse_cons, List.nil_append, List.cons_append, true_and, and_true, beq_self_eq_true, nI_add, pk_mul, nI_and, nI_or, nI_an, Nat.zero_le, Nat.reduceLeDiff, f_iadd, f_isub, f_imul, f_iand, f_ior, f_ixor, f_ishl, f_ishr, f_iushr, f_idiv, f_irem, f_ladd, f_lmul, f_lrem, true_implies, false_implies, not_true_eq_false, and_self, ss, Option.isSome_some, List.set_set, sn, sn0, s0n, nI_b0, m0', hw', w0, w1, w2, w3, vq0, vq1, vq2, vq3, cq0, cq1, cq2, cq3]
  cases hr : decide (0 ≤ l ∧ l < nI (pL (sP s))) with
  | false =>
    simp only [liveN, liveA, argN_none hr] at kk
    exact ⟨fun z => absurd rfl z, fun _ => kk h hC⟩
  | true =>
    obtain ⟨j, hj, rfl, hq⟩ := argN_some (by omega) hr
    simp only [liveN, liveA, hq] at kk
    refine ⟨fun _ => sp_mcanLive hM wP hw hw0 yH (by decide) hj ?_, fun z => absurd z (by decide)⟩
    simp only [nX6_live, kX6_live_0, kX6_live_1, kX6_live_2, kX6_live_5, kX6_live_8, kX6_live_9, kX6_live_10, kX6_live_11, kX6_live_12, kX6_live_13, kX6_live_16, kX6_live_19, kX6_live_21, kX6_live_22, kX6_live_23, kX6_live_26, kX6_live_27, kX6_live_28, kX6_live_29, kX6_live_32, ex_1, ex_s, exo_some, xK, xKL, xLdI, xLdA, xLdL, xStI, xStA, xStL, xInc, xBin, xDiv, xBinL, xDivL, xLcmp, xI2l, xL2i, xI2c, xC_eq, xC_ne, xC_lt, xC_ge, xC_gt, xC_le, xZ_eq, xZ_ne, xZ_lt, xZ_ge, xZ_gt, xZ_le, xGo, xTsw, tsw, xDup, xDup2, xPop, xGf, xPfI, xPfR, xiaload, xcaload, xiastore, xcastore, xAlen, xRet, xRetZ, xRetV, xObj, xMmax, xMmin, xCallS, xCallV, xCallI, popN, cs, kont_some, kont_none, noL, not_false_eq_true, Nat.reduceEqDiff, Nat.reduceBEq, Nat.reduceAdd, Nat.reduceLT, Nat.reduceSub, ↓reduceIte, decide_eq_true_eq, Bool.false_eq_true, decide_false, decide_true, or_false, false_or, or_true, true_or, or_self, lsOf_int, lsOf_ref, lsOf_long, lsOf_nil, List.replicate_succ, List.replicate_zero, Nat.add_one_sub_one, List.getElem?_cons_zero, List.getElem?_cons_succ, List.set_cons_zero, List.set_cons_succ, List.length_cons, List.length_nil, cond_true, cond_false, Value.category, List.reverse_nil, List.reverse_cons, List.nil_append, List.cons_append, true_and, and_true, beq_self_eq_true, nI_add, pk_mul, nI_and, nI_or, nI_an, Nat.zero_le, Nat.reduceLeDiff, f_iadd, f_isub, f_imul, f_iand, f_ior, f_ixor, f_ishl, f_ishr, f_iushr, f_idiv, f_irem, f_ladd, f_lmul, f_lrem, true_implies, false_implies, not_true_eq_false, and_self, ss, Option.isSome_some, List.set_set, sn, sn0, s0n, nI_b0, m0']
    cases ho : canLiveN (sP s) (sH s) j with
    | false =>
      simp only [ho, Bool.false_eq_true, if_false] at kk
      exact ⟨fun z => absurd rfl z, fun _ => kk h hC⟩
    | true =>
      simp only [ho, if_true] at kk
      refine ⟨fun _ => mo_minds hC hW (fun h1 C1 => ?_), fun z => absurd z (by decide)⟩
      obtain ⟨v1, hM1, hv1, hv0, hvU, hvK, pl1, nu1, rs1, ry1, rt1, rl1, m1⟩ := C1.view
      simp only [nX6_live, kX6_live_0, kX6_live_1, kX6_live_2, kX6_live_5, kX6_live_8, kX6_live_9, kX6_live_10, kX6_live_11, kX6_live_12, kX6_live_13, kX6_live_16, kX6_live_19, kX6_live_21, kX6_live_22, kX6_live_23, kX6_live_26, kX6_live_27, kX6_live_28, kX6_live_29, kX6_live_32, ex_1, ex_s, exo_some, xK, xKL, xLdI, xLdA, xLdL, xStI, xStA, xStL, xInc, xBin, xDiv, xBinL, xDivL, xLcmp, xI2l, xL2i, xI2c, xC_eq, xC_ne, xC_lt, xC_ge, xC_gt, xC_le, xZ_eq, xZ_ne, xZ_lt, xZ_ge, xZ_gt, xZ_le, xGo, xTsw, tsw, xDup, xDup2, xPop, xGf, xPfI, xPfR, xiaload, xcaload, xiastore, xcastore, xAlen, xRet, xRetZ, xRetV, xObj, xMmax, xMmin, xCallS, xCallV, xCallI, popN, cs, kont_some, kont_none, noL, not_false_eq_true, Nat.reduceEqDiff, Nat.reduceBEq, Nat.reduceAdd, Nat.reduceLT, Nat.reduceSub, ↓reduceIte, decide_eq_true_eq, Bool.false_eq_true, decide_false, decide_true, or_false, false_or, or_true, true_or, or_self, lsOf_int, lsOf_ref, lsOf_long, lsOf_nil, List.replicate_succ, List.replicate_zero, Nat.add_one_sub_one, List.getElem?_cons_zero, List.getElem?_cons_succ, List.set_cons_zero, List.set_cons_succ, List.length_cons, List.length_nil, cond_true, cond_false, Value.category, List.reverse_nil, List.reverse_cons, List.nil_append, List.cons_append, true_and, and_true, beq_self_eq_true, nI_add, pk_mul, nI_and, nI_or, nI_an, Nat.zero_le, Nat.reduceLeDiff, f_iadd, f_isub, f_imul, f_iand, f_ior, f_ixor, f_ishl, f_ishr, f_iushr, f_idiv, f_irem, f_ladd, f_lmul, f_lrem, true_implies, false_implies, not_true_eq_false, and_self, ss, Option.isSome_some, List.set_set, sn, sn0, s0n, m1, mC6]
      refine sp_mlivesOne (P := sP s) (r := sH s) hM1 wP hv1 hv0 yH (by decide) hj (fun w' q1 q2 => ?_)
      simp only [nX6_live, kX6_live_0, kX6_live_1, kX6_live_2, kX6_live_5, kX6_live_8, kX6_live_9, kX6_live_10, kX6_live_11, kX6_live_12, kX6_live_13, kX6_live_16, kX6_live_19, kX6_live_21, kX6_live_22, kX6_live_23, kX6_live_26, kX6_live_27, kX6_live_28, kX6_live_29, kX6_live_32, ex_1, ex_s, exo_some, xK, xKL, xLdI, xLdA, xLdL, xStI, xStA, xStL, xInc, xBin, xDiv, xBinL, xDivL, xLcmp, xI2l, xL2i, xI2c, xC_eq, xC_ne, xC_lt, xC_ge, xC_gt, xC_le, xZ_eq, xZ_ne, xZ_lt, xZ_ge, xZ_gt, xZ_le, xGo, xTsw, tsw, xDup, xDup2, xPop, xGf, xPfI, xPfR, xiaload, xcaload, xiastore, xcastore, xAlen, xRet, xRetZ, xRetV, xObj, xMmax, xMmin, xCallS, xCallV, xCallI, popN, cs, kont_some, kont_none, noL, not_false_eq_true, Nat.reduceEqDiff, Nat.reduceBEq, Nat.reduceAdd, Nat.reduceLT, Nat.reduceSub, ↓reduceIte, decide_eq_true_eq, Bool.false_eq_true, decide_false, decide_true, or_false, false_or, or_true, true_or, or_self, lsOf_int, lsOf_ref, lsOf_long, lsOf_nil, List.replicate_succ, List.replicate_zero, Nat.add_one_sub_one, List.getElem?_cons_zero, List.getElem?_cons_succ, List.set_cons_zero, List.set_cons_succ, List.length_cons, List.length_nil, cond_true, cond_false, Value.category, List.reverse_nil, List.reverse_cons, List.nil_append, List.cons_append, true_and, and_true, beq_self_eq_true, nI_add, pk_mul, nI_and, nI_or, nI_an, Nat.zero_le, Nat.reduceLeDiff, f_iadd, f_isub, f_imul, f_iand, f_ior, f_ixor, f_ishl, f_ishr, f_iushr, f_idiv, f_irem, f_ladd, f_lmul, f_lrem, true_implies, false_implies, not_true_eq_false, and_self, ss, Option.isSome_some, List.set_set, sn, sn0, s0n]
      exact kk _ (MAt.hour C1 hv1 hvU hvK w' q1 q2)
theorem go_add (P : Pl) (r : Hr) (k : Nat) : goH P (goH P r k) 1 = goH P r (k + 1) := by
  simp only [goH, dr, lv, cn, yr]
  refine Prod.ext rfl (Prod.ext rfl (Prod.ext ?_ ?_))
  · show min 999 (min 999 (r.2.2.1 + k * pA P) + 1 * pA P) = min 999 (r.2.2.1 + (k + 1) * pA P)
    rw [Nat.add_mul]
    omega
  · show r.2.2.2 + k + 1 = r.2.2.2 + (k + 1)
    omega
theorem mo_pass {n : Int32} (hC : MAt h s) (hW : WfS s) (kk : ∀ h', MAt h' (passN s n) → K (some (.int (passA s n))) h') : Spc MX6_pass [.ref 0, .int n] h K := by
  obtain ⟨pl, nu, rs, ry, rt, rl, w, f9, m0, ⟨f1, f2, f3, f4, f5, f6, f7, pa, e1, e2⟩, hw, hw0, hwU, hwK, p9, hx9, hR⟩ := id hC
  have hM : MPl h (sP s) := ⟨f1, f2, f3, f4, f5, f6, f7, ⟨_, _, _, _, _, _, _, _, _, _, _, _, m0⟩, pa, e1, e2⟩
  obtain ⟨p1, p2, p3, p4, p5, p6, p7⟩ := id pa
  obtain ⟨wP, wT, wL, yH, yU, yK, wX, wSn, wSb, wSx⟩ := id hW
  have m0' : h[0]? = some (.inr (6, [.ref 1, .int (nI (sUn s)), .int (nI (sKn s)), .int (nI (pR (sP s))), .int (nI (pA (sP s))), .int (nI (pT (sP s))), .ref 2, .ref 3, .ref 4, .int (nI (pL (sP s))), .ref 5, .ref 6, .ref 7, .ref 8, .int (nI (sSb s)), .int (nI (sSx s)), .int (nI (sSn s)), .ref 9, .int (nI (sTn s)), .int pl, .int nu, .int rs, .int ry, .int rt, .ref 10, .int rl, .ref 11, .ref 12, .ref 13, .ref 14, .ref 15, .ref 16])) := m0
  have hT8 := wP.2.2.1
  have hL6 := wP.2.2.2.1
  have hT31 : pT (sP s) < 2 ^ 31 := by omega
  have hL31 : pL (sP s) < 2 ^ 31 := by omega
  have hd := lt256 yH.1 hT8
  have hlv := lt64 yH.2.1 hL6
  have hw' : h[1]? = some (.inl (false, 76, w)) := hw
  have w0 : w 0 = nI (yr (sH s)) := hw0.1
  have w1 : w 1 = nI (cn (sH s)) := hw0.2.1
  have w2 : w 2 = nI (dr (sH s)) := hw0.2.2.1
  have w3 : w 3 = nI (lv (sH s)) := hw0.2.2.2
  have hs0 : ∀ c, (h.set 0 c)[0]? = some c := set_get m0
  have hs1 := set_get hw'
  have h10 : ∀ c, (h.set 1 c)[0]? = h[0]? := fun c => List.getElem?_set_ne (by decide)
  refine Spc.go VX6_pass (by decide +kernel) (fun _ => Nat.le_of_ble_eq_true rfl) (fun q => decide (q = 20)) 120 ?_
  simp only [nX6_pass, kX6_pass_0, kX6_pass_1, kX6_pass_2, kX6_pass_3, kX6_pass_6, kX6_pass_9, kX6_pass_12, kX6_pass_13, kX6_pass_14, kX6_pass_15, kX6_pass_18, kX6_pass_19, kX6_pass_20, kX6_pass_21, kX6_pass_22, kX6_pass_25, kX6_pass_26, kX6_pass_27, kX6_pass_30, kX6_pass_33, kX6_pass_36, kX6_pass_37, kX6_pass_40, kX6_pass_41, kX6_pass_42, ex_1, ex_s, exo_some, xK, xKL, xLdI, xLdA, xLdL, xStI, xStA, xStL, xInc, xBin, xDiv, xBinL, xDivL, xLcmp, xI2l, xL2i, xI2c, xC_eq, xC_ne, xC_lt, xC_ge, xC_gt, xC_le, xZ_eq, xZ_ne, xZ_lt, xZ_ge, xZ_gt, xZ_le, xGo, xTsw, tsw, xDup, xDup2, xPop, xGf, xPfI, xPfR, xiaload, xcaload, xiastore, xcastore, xAlen, xRet, xRetZ, xRetV, xObj, xMmax, xMmin, xCallS, xCallV, xCallI, popN, cs, kont_some, kont_none, noL, not_false_eq_true, Nat.reduceEqDiff, Nat.reduceBEq, Nat.reduceAdd, Nat.reduceLT, Nat.reduceSub, ↓reduceIte, decide_eq_true_eq, Bool.false_eq_true, decide_false, decide_true, or_false, false_or, or_true, true_or, or_self, lsOf_int, lsOf_ref, lsOf_long, lsOf_nil, List.replicate_succ, List.replicate_zero, Nat.add_one_sub_one, List.getElem?_cons_zero, List.getElem?_cons_succ, List.set_cons_zero, List.set_cons_succ, List.length_cons, List.length_nil, cond_true, cond_false, Value.category, List.reverse_nil, List.reverse_cons, List.nil_append, List.cons_append, true_and, and_true, beq_self_eq_true, nI_add, pk_mul, nI_and, nI_or, nI_an, Nat.zero_le, Nat.reduceLeDiff, f_iadd, f_isub, f_imul, f_iand, f_ior, f_ixor, f_ishl, f_ishr, f_iushr, f_idiv, f_irem, f_ladd, f_lmul, f_lrem, true_implies, false_implies, not_true_eq_false, and_self, ss, Option.isSome_some, List.set_set, sn, sn0, s0n, m0']
  refine sp_in ?_
  rw [in32 (by decide) (by decide)]
  simp only [nX6_pass, kX6_pass_0, kX6_pass_1, kX6_pass_2, kX6_pass_3, kX6_pass_6, kX6_pass_9, kX6_pass_12, kX6_pass_13, kX6_pass_14, kX6_pass_15, kX6_pass_18, kX6_pass_19, kX6_pass_20, kX6_pass_21, kX6_pass_22, kX6_pass_25, kX6_pass_26, kX6_pass_27, kX6_pass_30, kX6_pass_33, kX6_pass_36, kX6_pass_37, kX6_pass_40, kX6_pass_41, kX6_pass_42, ex_1, ex_s, exo_some, xK, xKL, xLdI, xLdA, xLdL, xStI, xStA, xStL, xInc, xBin, xDiv, xBinL, xDivL, xLcmp, xI2l, xL2i, xI2c, xC_eq, xC_ne, xC_lt, xC_ge, xC_gt, xC_le, xZ_eq, xZ_ne, xZ_lt, xZ_ge, xZ_gt, xZ_le, xGo, xTsw, tsw, xDup, xDup2, xPop, xGf, xPfI, xPfR, xiaload, xcaload, xiastore, xcastore, xAlen, xRet, xRetZ, xRetV, xObj, xMmax, xMmin, xCallS, xCallV, xCallI, popN, cs, kont_some, kont_none, noL, not_false_eq_true, Nat.reduceEqDiff, Nat.reduceBEq, Nat.reduceAdd, Nat.reduceLT, Nat.reduceSub, ↓reduceIte, decide_eq_true_eq, Bool.false_eq_true, decide_false, decide_true, or_false, false_or, or_true, true_or, or_self, lsOf_int, lsOf_ref, lsOf_long, lsOf_nil, List.replicate_succ, List.replicate_zero, Nat.add_one_sub_one, List.getElem?_cons_zero, List.getElem?_cons_succ, List.set_cons_zero, List.set_cons_succ, List.length_cons, List.length_nil, cond_true, cond_false, Value.category, List.reverse_nil, List.reverse_cons, List.nil_append, List.cons_append, true_and, and_true, beq_self_eq_true, nI_add, pk_mul, nI_and, nI_or, nI_an, Nat.zero_le, Nat.reduceLeDiff, f_iadd, f_isub, f_imul, f_iand, f_ior, f_ixor, f_ishl, f_ishr, f_iushr, f_idiv, f_irem, f_ladd, f_lmul, f_lrem, true_implies, false_implies, not_true_eq_false, and_self, ss, Option.isSome_some, List.set_set, sn, sn0, s0n, m0', nI_b0]
  refine ⟨fun z => ?_, fun z => ?_⟩
  · have z := of_decide_eq_true (nf_t z)
    obtain ⟨j, hj1, hj2, rfl, hq⟩ := argP_some z.1 z.2
    simp only [passN, passA, hq] at kk
    refine mo_minds hC hW (fun h1 C1 => ?_)
    have key := loopN (P := fun k => ∀ h2, MAt h2 (wH (mindU s) (goH (sP s) (sH s) k)) → SW MX6_pass K 0 0 20 [some (.ref 0), some (.int (nI j)), some (.int (nI k))] [] h2) j (by
      intro h2 C2
      obtain ⟨v2, hM2, hv2, hv20, -, -, pl2, nu2, rs2, ry2, rt2, rl2, m2⟩ := C2.view
      have hv2' : h2[1]? = some (.inl (false, 76, v2)) := hv2
      have y1 : v2 1 = nI (cn (goH (sP s) (sH s) j)) := hv20.2.1
      refine SW.go VX6_pass (Nat.zero_le _) (Nat.zero_le _) (fun q => decide (q = 20)) 120 ?_
      simp only [nX6_pass, kX6_pass_0, kX6_pass_1, kX6_pass_2, kX6_pass_3, kX6_pass_6, kX6_pass_9, kX6_pass_12, kX6_pass_13, kX6_pass_14, kX6_pass_15, kX6_pass_18, kX6_pass_19, kX6_pass_20, kX6_pass_21, kX6_pass_22, kX6_pass_25, kX6_pass_26, kX6_pass_27, kX6_pass_30, kX6_pass_33, kX6_pass_36, kX6_pass_37, kX6_pass_40, kX6_pass_41, kX6_pass_42, ex_1, ex_s, exo_some, xK, xKL, xLdI, xLdA, xLdL, xStI, xStA, xStL, xInc, xBin, xDiv, xBinL, xDivL, xLcmp, xI2l, xL2i, xI2c, xC_eq, xC_ne, xC_lt, xC_ge, xC_gt, xC_le, xZ_eq, xZ_ne, xZ_lt, xZ_ge, xZ_gt, xZ_le, xGo, xTsw, tsw, xDup, xDup2, xPop, xGf, xPfI, xPfR, xiaload, xcaload, xiastore, xcastore, xAlen, xRet, xRetZ, xRetV, xObj, xMmax, xMmin, xCallS, xCallV, xCallI, popN, cs, kont_some, kont_none, noL, not_false_eq_true, Nat.reduceEqDiff, Nat.reduceBEq, Nat.reduceAdd, Nat.reduceLT, Nat.reduceSub, ↓reduceIte, decide_eq_true_eq, Bool.false_eq_true, decide_false, decide_true, or_false, false_or, or_true, true_or, or_self, lsOf_int, lsOf_ref, lsOf_long, lsOf_nil, List.replicate_succ, List.replicate_zero, Nat.add_one_sub_one, List.getElem?_cons_zero, List.getElem?_cons_succ, List.set_cons_zero, List.set_cons_succ, List.length_cons, List.length_nil, cond_true, cond_false, Value.category, List.reverse_nil, List.reverse_cons, List.nil_append, List.cons_append, true_and, and_true, beq_self_eq_true, nI_add, pk_mul, nI_and, nI_or, nI_an, Nat.zero_le, Nat.reduceLeDiff, f_iadd, f_isub, f_imul, f_iand, f_ior, f_ixor, f_ishl, f_ishr, f_iushr, f_idiv, f_irem, f_ladd, f_lmul, f_lrem, true_implies, false_implies, not_true_eq_false, and_self, ss, Option.isSome_some, List.set_set, sn, sn0, s0n, m2, mC6, hv2', vq1, cq1, y1, nI_leI (show j < 2 ^ 31 by omega) (show j < 2 ^ 31 by omega)]
      exact ⟨fun _ => kk _ C2, fun q => absurd (Nat.le_refl _) q⟩) (fun k hk ih => by
      intro h2 C2
      obtain ⟨v2, hM2, hv2, hv20, hvU, hvK, pl2, nu2, rs2, ry2, rt2, rl2, m2⟩ := C2.view
      refine SW.go VX6_pass (Nat.zero_le _) (Nat.zero_le _) (fun q => decide (q = 20)) 120 ?_
      simp only [nX6_pass, kX6_pass_0, kX6_pass_1, kX6_pass_2, kX6_pass_3, kX6_pass_6, kX6_pass_9, kX6_pass_12, kX6_pass_13, kX6_pass_14, kX6_pass_15, kX6_pass_18, kX6_pass_19, kX6_pass_20, kX6_pass_21, kX6_pass_22, kX6_pass_25, kX6_pass_26, kX6_pass_27, kX6_pass_30, kX6_pass_33, kX6_pass_36, kX6_pass_37, kX6_pass_40, kX6_pass_41, kX6_pass_42, ex_1, ex_s, exo_some, xK, xKL, xLdI, xLdA, xLdL, xStI, xStA, xStL, xInc, xBin, xDiv, xBinL, xDivL, xLcmp, xI2l, xL2i, xI2c, xC_eq, xC_ne, xC_lt, xC_ge, xC_gt, xC_le, xZ_eq, xZ_ne, xZ_lt, xZ_ge, xZ_gt, xZ_le, xGo, xTsw, tsw, xDup, xDup2, xPop, xGf, xPfI, xPfR, xiaload, xcaload, xiastore, xcastore, xAlen, xRet, xRetZ, xRetV, xObj, xMmax, xMmin, xCallS, xCallV, xCallI, popN, cs, kont_some, kont_none, noL, not_false_eq_true, Nat.reduceEqDiff, Nat.reduceBEq, Nat.reduceAdd, Nat.reduceLT, Nat.reduceSub, ↓reduceIte, decide_eq_true_eq, Bool.false_eq_true, decide_false, decide_true, or_false, false_or, or_true, true_or, or_self, lsOf_int, lsOf_ref, lsOf_long, lsOf_nil, List.replicate_succ, List.replicate_zero, Nat.add_one_sub_one, List.getElem?_cons_zero, List.getElem?_cons_succ, List.set_cons_zero, List.set_cons_succ, List.length_cons, List.length_nil, cond_true, cond_false, Value.category, List.reverse_nil, List.reverse_cons, List.nil_append, List.cons_append, true_and, and_true, beq_self_eq_true, nI_add, pk_mul, nI_and, nI_or, nI_an, Nat.zero_le, Nat.reduceLeDiff, f_iadd, f_isub, f_imul, f_iand, f_ior, f_ixor, f_ishl, f_ishr, f_iushr, f_idiv, f_irem, f_ladd, f_lmul, f_lrem, true_implies, false_implies, not_true_eq_false, and_self, ss, Option.isSome_some, List.set_set, sn, sn0, s0n, m2, mC6, nI_leI (show j < 2 ^ 31 by omega) (show k < 2 ^ 31 by omega)]
      refine ⟨fun q => absurd q (by omega), fun _ => sp_mpasses (P := sP s) (r := goH (sP s) (sH s) k) hM2 wP hv2 hv20 yH.go (by decide) (fun w' q1 q2 => ?_)⟩
      simp only [nX6_pass, kX6_pass_0, kX6_pass_1, kX6_pass_2, kX6_pass_3, kX6_pass_6, kX6_pass_9, kX6_pass_12, kX6_pass_13, kX6_pass_14, kX6_pass_15, kX6_pass_18, kX6_pass_19, kX6_pass_20, kX6_pass_21, kX6_pass_22, kX6_pass_25, kX6_pass_26, kX6_pass_27, kX6_pass_30, kX6_pass_33, kX6_pass_36, kX6_pass_37, kX6_pass_40, kX6_pass_41, kX6_pass_42, ex_1, ex_s, exo_some, xK, xKL, xLdI, xLdA, xLdL, xStI, xStA, xStL, xInc, xBin, xDiv, xBinL, xDivL, xLcmp, xI2l, xL2i, xI2c, xC_eq, xC_ne, xC_lt, xC_ge, xC_gt, xC_le, xZ_eq, xZ_ne, xZ_lt, xZ_ge, xZ_gt, xZ_le, xGo, xTsw, tsw, xDup, xDup2, xPop, xGf, xPfI, xPfR, xiaload, xcaload, xiastore, xcastore, xAlen, xRet, xRetZ, xRetV, xObj, xMmax, xMmin, xCallS, xCallV, xCallI, popN, cs, kont_some, kont_none, noL, not_false_eq_true, Nat.reduceEqDiff, Nat.reduceBEq, Nat.reduceAdd, Nat.reduceLT, Nat.reduceSub, ↓reduceIte, decide_eq_true_eq, Bool.false_eq_true, decide_false, decide_true, or_false, false_or, or_true, true_or, or_self, lsOf_int, lsOf_ref, lsOf_long, lsOf_nil, List.replicate_succ, List.replicate_zero, Nat.add_one_sub_one, List.getElem?_cons_zero, List.getElem?_cons_succ, List.set_cons_zero, List.set_cons_succ, List.length_cons, List.length_nil, cond_true, cond_false, Value.category, List.reverse_nil, List.reverse_cons, List.nil_append, List.cons_append, true_and, and_true, beq_self_eq_true, nI_add, pk_mul, nI_and, nI_or, nI_an, Nat.zero_le, Nat.reduceLeDiff, f_iadd, f_isub, f_imul, f_iand, f_ior, f_ixor, f_ishl, f_ishr, f_iushr, f_idiv, f_irem, f_ladd, f_lmul, f_lrem, true_implies, false_implies, not_true_eq_false, and_self, ss, Option.isSome_some, List.set_set, sn, sn0, s0n]
      refine ih _ ?_
      have := MAt.hour C2 hv2 hvU hvK w' q1 q2
      rw [go_add] at this
      exact this)
    simp only [nX6_pass, kX6_pass_0, kX6_pass_1, kX6_pass_2, kX6_pass_3, kX6_pass_6, kX6_pass_9, kX6_pass_12, kX6_pass_13, kX6_pass_14, kX6_pass_15, kX6_pass_18, kX6_pass_19, kX6_pass_20, kX6_pass_21, kX6_pass_22, kX6_pass_25, kX6_pass_26, kX6_pass_27, kX6_pass_30, kX6_pass_33, kX6_pass_36, kX6_pass_37, kX6_pass_40, kX6_pass_41, kX6_pass_42, ex_1, ex_s, exo_some, xK, xKL, xLdI, xLdA, xLdL, xStI, xStA, xStL, xInc, xBin, xDiv, xBinL, xDivL, xLcmp, xI2l, xL2i, xI2c, xC_eq, xC_ne, xC_lt, xC_ge, xC_gt, xC_le, xZ_eq, xZ_ne, xZ_lt, xZ_ge, xZ_gt, xZ_le, xGo, xTsw, tsw, xDup, xDup2, xPop, xGf, xPfI, xPfR, xiaload, xcaload, xiastore, xcastore, xAlen, xRet, xRetZ, xRetV, xObj, xMmax, xMmin, xCallS, xCallV, xCallI, popN, cs, kont_some, kont_none, noL, not_false_eq_true, Nat.reduceEqDiff, Nat.reduceBEq, Nat.reduceAdd, Nat.reduceLT, Nat.reduceSub, ↓reduceIte, decide_eq_true_eq, Bool.false_eq_true, decide_false, decide_true, or_false, false_or, or_true, true_or, or_self, lsOf_int, lsOf_ref, lsOf_long, lsOf_nil, List.replicate_succ, List.replicate_zero, Nat.add_one_sub_one, List.getElem?_cons_zero, List.getElem?_cons_succ, List.set_cons_zero, List.set_cons_succ, List.length_cons, List.length_nil, cond_true, cond_false, Value.category, List.reverse_nil, List.reverse_cons, List.nil_append, List.cons_append, true_and, and_true, beq_self_eq_true, nI_add, pk_mul, nI_and, nI_or, nI_an, Nat.zero_le, Nat.reduceLeDiff, f_iadd, f_isub, f_imul, f_iand, f_ior, f_ixor, f_ishl, f_ishr, f_iushr, f_idiv, f_irem, f_ladd, f_lmul, f_lrem, true_implies, false_implies, not_true_eq_false, and_self, ss, Option.isSome_some, List.set_set, sn, sn0, s0n]
    refine key 0 (Nat.zero_le _) h1 ?_
    have e : goH (sP s) (sH s) 0 = sH s := by
      have hc := yH.2.2
      show (dr (sH s), lv (sH s), min 999 (cn (sH s) + 0 * pA (sP s)), yr (sH s) + 0) = sH s
      rw [Nat.zero_mul, Nat.add_zero, Nat.add_zero, Nat.min_eq_right hc]
      rfl
    rw [e]
    exact C1
  · simp only [passN, passA, argP_none (of_decide_eq_false z)] at kk
    exact kk h hC
theorem mo_undo (hC : MAt h s) (hW : WfS s) (kk : ∀ h', MAt h' (undoN s) → K (some (.int (undoA s))) h') : Spc MX6_undo [.ref 0] h K := by
  obtain ⟨pl, nu, rs, ry, rt, rl, w, f9, m0, ⟨f1, f2, f3, f4, f5, f6, f7, pa, e1, e2⟩, hw, hw0, hwU, hwK, p9, hx9, hR⟩ := id hC
  have hM : MPl h (sP s) := ⟨f1, f2, f3, f4, f5, f6, f7, ⟨_, _, _, _, _, _, _, _, _, _, _, _, m0⟩, pa, e1, e2⟩
  obtain ⟨p1, p2, p3, p4, p5, p6, p7⟩ := id pa
  obtain ⟨wP, wT, wL, yH, yU, yK, wX, wSn, wSb, wSx⟩ := id hW
  have m0' : h[0]? = some (.inr (6, [.ref 1, .int (nI (sUn s)), .int (nI (sKn s)), .int (nI (pR (sP s))), .int (nI (pA (sP s))), .int (nI (pT (sP s))), .ref 2, .ref 3, .ref 4, .int (nI (pL (sP s))), .ref 5, .ref 6, .ref 7, .ref 8, .int (nI (sSb s)), .int (nI (sSx s)), .int (nI (sSn s)), .ref 9, .int (nI (sTn s)), .int pl, .int nu, .int rs, .int ry, .int rt, .ref 10, .int rl, .ref 11, .ref 12, .ref 13, .ref 14, .ref 15, .ref 16])) := m0
  have hT8 := wP.2.2.1
  have hL6 := wP.2.2.2.1
  have hT31 : pT (sP s) < 2 ^ 31 := by omega
  have hL31 : pL (sP s) < 2 ^ 31 := by omega
  have hd := lt256 yH.1 hT8
  have hlv := lt64 yH.2.1 hL6
  have hw' : h[1]? = some (.inl (false, 76, w)) := hw
  have w0 : w 0 = nI (yr (sH s)) := hw0.1
  have w1 : w 1 = nI (cn (sH s)) := hw0.2.1
  have w2 : w 2 = nI (dr (sH s)) := hw0.2.2.1
  have w3 : w 3 = nI (lv (sH s)) := hw0.2.2.2
  have hs0 : ∀ c, (h.set 0 c)[0]? = some c := set_get m0
  have hs1 := set_get hw'
  have h10 : ∀ c, (h.set 1 c)[0]? = h[0]? := fun c => List.getElem?_set_ne (by decide)
  have hu := yU.1
  refine Spc.go VX6_undo (by decide +kernel) (fun _ => Nat.le_of_ble_eq_true rfl) (fun _ => false) 120 ?_
  simp only [nX6_undo, kX6_undo_0, kX6_undo_1, kX6_undo_4, kX6_undo_7, kX6_undo_9, kX6_undo_10, kX6_undo_11, kX6_undo_12, kX6_undo_15, kX6_undo_16, kX6_undo_17, kX6_undo_20, kX6_undo_21, kX6_undo_23, kX6_undo_24, kX6_undo_25, kX6_undo_28, kX6_undo_29, kX6_undo_30, kX6_undo_31, kX6_undo_34, kX6_undo_35, kX6_undo_38, ex_1, ex_s, exo_some, xK, xKL, xLdI, xLdA, xLdL, xStI, xStA, xStL, xInc, xBin, xDiv, xBinL, xDivL, xLcmp, xI2l, xL2i, xI2c, xC_eq, xC_ne, xC_lt, xC_ge, xC_gt, xC_le, xZ_eq, xZ_ne, xZ_lt, xZ_ge, xZ_gt, xZ_le, xGo, xTsw, tsw, xDup, xDup2, xPop, xGf, xPfI, xPfR, xiaload, xcaload, xiastore, xcastore, xAlen, xRet, xRetZ, xRetV, xObj, xMmax, xMmin, xCallS, xCallV, xCallI, popN, cs, kont_some, kont_none, noL, not_false_eq_true, Nat.reduceEqDiff, Nat.reduceBEq, Nat.reduceAdd, Nat.reduceLT, Nat.reduceSub, ↓reduceIte, decide_eq_true_eq, Bool.false_eq_true, decide_false, decide_true, or_false, false_or, or_true, true_or, or_self, lsOf_int, lsOf_ref, lsOf_long, lsOf_nil, List.replicate_succ, List.replicate_zero, Nat.add_one_sub_one, List.getElem?_cons_zero, List.getElem?_cons_succ, List.set_cons_zero, List.set_cons_succ, List.length_cons, List.length_nil, cond_true, cond_false, Value.category, List.reverse_nil, List.reverse_cons, List.nil_append, List.cons_append, true_and, and_true, beq_self_eq_true, nI_add, pk_mul, nI_and, nI_or, nI_an, Nat.zero_le, Nat.reduceLeDiff, f_iadd, f_isub, f_imul, f_iand, f_ior, f_ixor, f_ishl, f_ishr, f_iushr, f_idiv, f_irem, f_ladd, f_lmul, f_lrem, true_implies, false_implies, not_true_eq_false, and_self, ss, Option.isSome_some, List.set_set, sn, sn0, s0n, m0', hs0, nI_z (show sUn s < 2 ^ 31 by omega)]
  refine ⟨fun z => ?_, fun z => ?_⟩
  · simp only [undoN, undoA, if_neg z] at kk
    rw [pk_sub (show 1 ≤ sUn s by omega)]
    simp only [pk_mul, nI_add]
    refine sp_mcopy (w := w) ⟨_, _, _, _, _, _, _, _, _, _, _, _, (hs0 (mC6 (sUn s - 1) (sKn s) (sP s) (sSb s) (sSx s) (sSn s) (sTn s) pl nu rs ry rt rl))⟩ ((List.getElem?_set_ne (by decide)).trans hw) (by omega) (by decide) (by omega) (fun w' h1 h2 => ?_)
    have m1 : ((h.set 0 (mC6 (sUn s - 1) (sKn s) (sP s) (sSb s) (sSx s) (sSn s) (sTn s) pl nu rs ry rt rl)).set 1 (.inl (false, 76, w')))[0]? = some (mC6 (sUn s - 1) (sKn s) (sP s) (sSb s) (sSx s) (sSn s) (sTn s) pl nu rs ry rt rl) := (List.getElem?_set_ne (by decide)).trans (hs0 _)
    have m1' : ((h.set 0 (mC6 (sUn s - 1) (sKn s) (sP s) (sSb s) (sSx s) (sSn s) (sTn s) pl nu rs ry rt rl)).set 1 (.inl (false, 76, w')))[1]? = some (.inl (false, 76, w')) := set_get ((List.getElem?_set_ne (by decide)).trans hw) _
    have fin := kk ((h.set 0 (mC6 (sUn s - 1) (sKn s) (sP s) (sSb s) (sSx s) (sSn s) (sTn s) pl nu rs ry rt rl)).set 1 (.inl (false, 76, w'))) (MAt.up hC (fun j x y => (List.getElem?_set_ne (fun z => y z.symm)).trans (List.getElem?_set_ne (fun z => x z.symm))) rfl ⟨Nat.le_refl _, fun _ _ => rfl⟩ ⟨_, _, _, _, _, _, m1⟩ ⟨w', m1', (hwU (sUn s - 1) (by omega)).move (fun i hi => h2 i hi), fun i hi => (hwU i (by have : i < sUn s - 1 := hi; omega)).cong (fun k hk => h1 _ (by omega)), fun i hi => (hwK i hi).cong (fun k hk => h1 _ (by omega))⟩)
    have m1s : ((h.set 0 (.inr (6, [.ref 1, .int (nI (sUn s - 1)), .int (nI (sKn s)), .int (nI (pR (sP s))), .int (nI (pA (sP s))), .int (nI (pT (sP s))), .ref 2, .ref 3, .ref 4, .int (nI (pL (sP s))), .ref 5, .ref 6, .ref 7, .ref 8, .int (nI (sSb s)), .int (nI (sSx s)), .int (nI (sSn s)), .ref 9, .int (nI (sTn s)), .int pl, .int nu, .int rs, .int ry, .int rt, .ref 10, .int rl, .ref 11, .ref 12, .ref 13, .ref 14, .ref 15, .ref 16]))).set 1 (.inl (false, 76, w')))[0]? = some (.inr (6, [.ref 1, .int (nI (sUn s - 1)), .int (nI (sKn s)), .int (nI (pR (sP s))), .int (nI (pA (sP s))), .int (nI (pT (sP s))), .ref 2, .ref 3, .ref 4, .int (nI (pL (sP s))), .ref 5, .ref 6, .ref 7, .ref 8, .int (nI (sSb s)), .int (nI (sSx s)), .int (nI (sSn s)), .ref 9, .int (nI (sTn s)), .int pl, .int nu, .int rs, .int ry, .int rt, .ref 10, .int rl, .ref 11, .ref 12, .ref 13, .ref 14, .ref 15, .ref 16])) := m1
    simp only [nX6_undo, kX6_undo_0, kX6_undo_1, kX6_undo_4, kX6_undo_7, kX6_undo_9, kX6_undo_10, kX6_undo_11, kX6_undo_12, kX6_undo_15, kX6_undo_16, kX6_undo_17, kX6_undo_20, kX6_undo_21, kX6_undo_23, kX6_undo_24, kX6_undo_25, kX6_undo_28, kX6_undo_29, kX6_undo_30, kX6_undo_31, kX6_undo_34, kX6_undo_35, kX6_undo_38, ex_1, ex_s, exo_some, xK, xKL, xLdI, xLdA, xLdL, xStI, xStA, xStL, xInc, xBin, xDiv, xBinL, xDivL, xLcmp, xI2l, xL2i, xI2c, xC_eq, xC_ne, xC_lt, xC_ge, xC_gt, xC_le, xZ_eq, xZ_ne, xZ_lt, xZ_ge, xZ_gt, xZ_le, xGo, xTsw, tsw, xDup, xDup2, xPop, xGf, xPfI, xPfR, xiaload, xcaload, xiastore, xcastore, xAlen, xRet, xRetZ, xRetV, xObj, xMmax, xMmin, xCallS, xCallV, xCallI, popN, cs, kont_some, kont_none, noL, not_false_eq_true, Nat.reduceEqDiff, Nat.reduceBEq, Nat.reduceAdd, Nat.reduceLT, Nat.reduceSub, ↓reduceIte, decide_eq_true_eq, Bool.false_eq_true, decide_false, decide_true, or_false, false_or, or_true, true_or, or_self, lsOf_int, lsOf_ref, lsOf_long, lsOf_nil, List.replicate_succ, List.replicate_zero, Nat.add_one_sub_one, List.getElem?_cons_zero, List.getElem?_cons_succ, List.set_cons_zero, List.set_cons_succ, List.length_cons, List.length_nil, cond_true, cond_false, Value.category, List.reverse_nil, List.reverse_cons, List.nil_append, List.cons_append, true_and, and_true, beq_self_eq_true, nI_add, pk_mul, nI_and, nI_or, nI_an, Nat.zero_le, Nat.reduceLeDiff, f_iadd, f_isub, f_imul, f_iand, f_ior, f_ixor, f_ishl, f_ishr, f_iushr, f_idiv, f_irem, f_ladd, f_lmul, f_lrem, true_implies, false_implies, not_true_eq_false, and_self, ss, Option.isSome_some, List.set_set, sn, sn0, s0n, m1s]
    exact fin
  · simp only [undoN, undoA, if_pos z] at kk
    exact kk h hC
theorem mo_keep (hC : MAt h s) (hW : WfS s) (kk : ∀ h', MAt h' (keepN s) → K (some (.int (keepA s))) h') : Spc MX6_keep [.ref 0] h K := by
  obtain ⟨pl, nu, rs, ry, rt, rl, w, f9, m0, ⟨f1, f2, f3, f4, f5, f6, f7, pa, e1, e2⟩, hw, hw0, hwU, hwK, p9, hx9, hR⟩ := id hC
  have hM : MPl h (sP s) := ⟨f1, f2, f3, f4, f5, f6, f7, ⟨_, _, _, _, _, _, _, _, _, _, _, _, m0⟩, pa, e1, e2⟩
  obtain ⟨p1, p2, p3, p4, p5, p6, p7⟩ := id pa
  obtain ⟨wP, wT, wL, yH, yU, yK, wX, wSn, wSb, wSx⟩ := id hW
  have m0' : h[0]? = some (.inr (6, [.ref 1, .int (nI (sUn s)), .int (nI (sKn s)), .int (nI (pR (sP s))), .int (nI (pA (sP s))), .int (nI (pT (sP s))), .ref 2, .ref 3, .ref 4, .int (nI (pL (sP s))), .ref 5, .ref 6, .ref 7, .ref 8, .int (nI (sSb s)), .int (nI (sSx s)), .int (nI (sSn s)), .ref 9, .int (nI (sTn s)), .int pl, .int nu, .int rs, .int ry, .int rt, .ref 10, .int rl, .ref 11, .ref 12, .ref 13, .ref 14, .ref 15, .ref 16])) := m0
  have hT8 := wP.2.2.1
  have hL6 := wP.2.2.2.1
  have hT31 : pT (sP s) < 2 ^ 31 := by omega
  have hL31 : pL (sP s) < 2 ^ 31 := by omega
  have hd := lt256 yH.1 hT8
  have hlv := lt64 yH.2.1 hL6
  have hw' : h[1]? = some (.inl (false, 76, w)) := hw
  have w0 : w 0 = nI (yr (sH s)) := hw0.1
  have w1 : w 1 = nI (cn (sH s)) := hw0.2.1
  have w2 : w 2 = nI (dr (sH s)) := hw0.2.2.1
  have w3 : w 3 = nI (lv (sH s)) := hw0.2.2.2
  have hs0 : ∀ c, (h.set 0 c)[0]? = some c := set_get m0
  have hs1 := set_get hw'
  have h10 : ∀ c, (h.set 1 c)[0]? = h[0]? := fun c => List.getElem?_set_ne (by decide)
  have hu := yK.1
  refine Spc.go VX6_keep (by decide +kernel) (fun _ => Nat.le_of_ble_eq_true rfl) (fun _ => false) 120 ?_
  simp only [nX6_keep, kX6_keep_0, kX6_keep_1, kX6_keep_4, kX6_keep_5, kX6_keep_8, kX6_keep_10, kX6_keep_11, kX6_keep_12, kX6_keep_13, kX6_keep_15, kX6_keep_16, kX6_keep_17, kX6_keep_20, kX6_keep_21, kX6_keep_22, kX6_keep_25, kX6_keep_26, kX6_keep_27, kX6_keep_30, kX6_keep_31, kX6_keep_32, kX6_keep_35, kX6_keep_36, kX6_keep_39, ex_1, ex_s, exo_some, xK, xKL, xLdI, xLdA, xLdL, xStI, xStA, xStL, xInc, xBin, xDiv, xBinL, xDivL, xLcmp, xI2l, xL2i, xI2c, xC_eq, xC_ne, xC_lt, xC_ge, xC_gt, xC_le, xZ_eq, xZ_ne, xZ_lt, xZ_ge, xZ_gt, xZ_le, xGo, xTsw, tsw, xDup, xDup2, xPop, xGf, xPfI, xPfR, xiaload, xcaload, xiastore, xcastore, xAlen, xRet, xRetZ, xRetV, xObj, xMmax, xMmin, xCallS, xCallV, xCallI, popN, cs, kont_some, kont_none, noL, not_false_eq_true, Nat.reduceEqDiff, Nat.reduceBEq, Nat.reduceAdd, Nat.reduceLT, Nat.reduceSub, ↓reduceIte, decide_eq_true_eq, Bool.false_eq_true, decide_false, decide_true, or_false, false_or, or_true, true_or, or_self, lsOf_int, lsOf_ref, lsOf_long, lsOf_nil, List.replicate_succ, List.replicate_zero, Nat.add_one_sub_one, List.getElem?_cons_zero, List.getElem?_cons_succ, List.set_cons_zero, List.set_cons_succ, List.length_cons, List.length_nil, cond_true, cond_false, Value.category, List.reverse_nil, List.reverse_cons, List.nil_append, List.cons_append, true_and, and_true, beq_self_eq_true, nI_add, pk_mul, nI_and, nI_or, nI_an, Nat.zero_le, Nat.reduceLeDiff, f_iadd, f_isub, f_imul, f_iand, f_ior, f_ixor, f_ishl, f_ishr, f_iushr, f_idiv, f_irem, f_ladd, f_lmul, f_lrem, true_implies, false_implies, not_true_eq_false, and_self, ss, Option.isSome_some, List.set_set, sn, sn0, s0n, m0', hs0, nI_eq (show sKn s < 2 ^ 31 by omega) (show 2 < 2 ^ 31 by decide)]
  refine ⟨fun z => ?_, fun z => ?_⟩
  · simp only [keepN, keepA, if_neg z] at kk
    refine sp_mcopy (w := w) ⟨_, _, _, _, _, _, _, _, _, _, _, _, m0⟩ hw (by decide) (by omega) (by omega) (fun w' h1 h2 => ?_)
    have m1 : (h.set 1 (.inl (false, 76, w')))[0]? = _ := (List.getElem?_set_ne (by decide)).trans m0'
    have hs01 := set_get m1
    simp only [nX6_keep, kX6_keep_0, kX6_keep_1, kX6_keep_4, kX6_keep_5, kX6_keep_8, kX6_keep_10, kX6_keep_11, kX6_keep_12, kX6_keep_13, kX6_keep_15, kX6_keep_16, kX6_keep_17, kX6_keep_20, kX6_keep_21, kX6_keep_22, kX6_keep_25, kX6_keep_26, kX6_keep_27, kX6_keep_30, kX6_keep_31, kX6_keep_32, kX6_keep_35, kX6_keep_36, kX6_keep_39, ex_1, ex_s, exo_some, xK, xKL, xLdI, xLdA, xLdL, xStI, xStA, xStL, xInc, xBin, xDiv, xBinL, xDivL, xLcmp, xI2l, xL2i, xI2c, xC_eq, xC_ne, xC_lt, xC_ge, xC_gt, xC_le, xZ_eq, xZ_ne, xZ_lt, xZ_ge, xZ_gt, xZ_le, xGo, xTsw, tsw, xDup, xDup2, xPop, xGf, xPfI, xPfR, xiaload, xcaload, xiastore, xcastore, xAlen, xRet, xRetZ, xRetV, xObj, xMmax, xMmin, xCallS, xCallV, xCallI, popN, cs, kont_some, kont_none, noL, not_false_eq_true, Nat.reduceEqDiff, Nat.reduceBEq, Nat.reduceAdd, Nat.reduceLT, Nat.reduceSub, ↓reduceIte, decide_eq_true_eq, Bool.false_eq_true, decide_false, decide_true, or_false, false_or, or_true, true_or, or_self, lsOf_int, lsOf_ref, lsOf_long, lsOf_nil, List.replicate_succ, List.replicate_zero, Nat.add_one_sub_one, List.getElem?_cons_zero, List.getElem?_cons_succ, List.set_cons_zero, List.set_cons_succ, List.length_cons, List.length_nil, cond_true, cond_false, Value.category, List.reverse_nil, List.reverse_cons, List.nil_append, List.cons_append, true_and, and_true, beq_self_eq_true, nI_add, pk_mul, nI_and, nI_or, nI_an, Nat.zero_le, Nat.reduceLeDiff, f_iadd, f_isub, f_imul, f_iand, f_ior, f_ixor, f_ishl, f_ishr, f_iushr, f_idiv, f_irem, f_ladd, f_lmul, f_lrem, true_implies, false_implies, not_true_eq_false, and_self, ss, Option.isSome_some, List.set_set, sn, sn0, s0n, m1, hs01]
    refine kk _ (MAt.up hC (fun j x y => (List.getElem?_set_ne (fun z => x z.symm)).trans (List.getElem?_set_ne (fun z => y z.symm))) rfl ⟨Nat.le_refl _, fun _ _ => rfl⟩ ⟨_, _, _, _, _, _, hs01 _⟩ ⟨w', (List.getElem?_set_ne (by decide)).trans (set_get hw _), hw0.cong (fun i hi => h1 _ (by omega)), fun i hi => (hwU i hi).cong (fun k hk => h1 _ (by omega)), fun i hi => ?_⟩)
    have hi2 : i < sKn s + 1 := hi
    show HrAt w' (8 + 4 * i) (pushI 2 (sKn s) (sKf s) (sH s) i)
    rw [pushI, if_pos (show sKn s < 2 by omega)]
    by_cases e : i = sKn s
    · subst e
      rw [if_pos rfl]
      exact hw0.move (fun k hk => h2 k hk)
    · rw [if_neg e]
      exact (hwK i (by omega)).cong (fun k hk => h1 _ (by omega))
  · simp only [keepN, keepA, if_pos z] at kk
    exact kk h hC
theorem mo_back (hC : MAt h s) (hW : WfS s) (kk : ∀ h', MAt h' (backN s) → K (some (.int (backA s))) h') : Spc MX6_back [.ref 0] h K := by
  obtain ⟨pl, nu, rs, ry, rt, rl, w, f9, m0, ⟨f1, f2, f3, f4, f5, f6, f7, pa, e1, e2⟩, hw, hw0, hwU, hwK, p9, hx9, hR⟩ := id hC
  have hM : MPl h (sP s) := ⟨f1, f2, f3, f4, f5, f6, f7, ⟨_, _, _, _, _, _, _, _, _, _, _, _, m0⟩, pa, e1, e2⟩
  obtain ⟨p1, p2, p3, p4, p5, p6, p7⟩ := id pa
  obtain ⟨wP, wT, wL, yH, yU, yK, wX, wSn, wSb, wSx⟩ := id hW
  have m0' : h[0]? = some (.inr (6, [.ref 1, .int (nI (sUn s)), .int (nI (sKn s)), .int (nI (pR (sP s))), .int (nI (pA (sP s))), .int (nI (pT (sP s))), .ref 2, .ref 3, .ref 4, .int (nI (pL (sP s))), .ref 5, .ref 6, .ref 7, .ref 8, .int (nI (sSb s)), .int (nI (sSx s)), .int (nI (sSn s)), .ref 9, .int (nI (sTn s)), .int pl, .int nu, .int rs, .int ry, .int rt, .ref 10, .int rl, .ref 11, .ref 12, .ref 13, .ref 14, .ref 15, .ref 16])) := m0
  have hT8 := wP.2.2.1
  have hL6 := wP.2.2.2.1
  have hT31 : pT (sP s) < 2 ^ 31 := by omega
  have hL31 : pL (sP s) < 2 ^ 31 := by omega
  have hd := lt256 yH.1 hT8
  have hlv := lt64 yH.2.1 hL6
  have hw' : h[1]? = some (.inl (false, 76, w)) := hw
  have w0 : w 0 = nI (yr (sH s)) := hw0.1
  have w1 : w 1 = nI (cn (sH s)) := hw0.2.1
  have w2 : w 2 = nI (dr (sH s)) := hw0.2.2.1
  have w3 : w 3 = nI (lv (sH s)) := hw0.2.2.2
  have hs0 : ∀ c, (h.set 0 c)[0]? = some c := set_get m0
  have hs1 := set_get hw'
  have h10 : ∀ c, (h.set 1 c)[0]? = h[0]? := fun c => List.getElem?_set_ne (by decide)
  have hu := yK.1
  refine Spc.go VX6_back (by decide +kernel) (fun _ => Nat.le_of_ble_eq_true rfl) (fun _ => false) 120 ?_
  simp only [nX6_back, kX6_back_0, kX6_back_1, kX6_back_4, kX6_back_7, kX6_back_9, kX6_back_10, kX6_back_11, kX6_back_12, kX6_back_15, kX6_back_16, kX6_back_17, kX6_back_20, kX6_back_21, kX6_back_23, kX6_back_24, kX6_back_25, kX6_back_28, kX6_back_29, kX6_back_30, kX6_back_31, kX6_back_34, kX6_back_35, kX6_back_36, kX6_back_39, kX6_back_40, kX6_back_43, ex_1, ex_s, exo_some, xK, xKL, xLdI, xLdA, xLdL, xStI, xStA, xStL, xInc, xBin, xDiv, xBinL, xDivL, xLcmp, xI2l, xL2i, xI2c, xC_eq, xC_ne, xC_lt, xC_ge, xC_gt, xC_le, xZ_eq, xZ_ne, xZ_lt, xZ_ge, xZ_gt, xZ_le, xGo, xTsw, tsw, xDup, xDup2, xPop, xGf, xPfI, xPfR, xiaload, xcaload, xiastore, xcastore, xAlen, xRet, xRetZ, xRetV, xObj, xMmax, xMmin, xCallS, xCallV, xCallI, popN, cs, kont_some, kont_none, noL, not_false_eq_true, Nat.reduceEqDiff, Nat.reduceBEq, Nat.reduceAdd, Nat.reduceLT, Nat.reduceSub, ↓reduceIte, decide_eq_true_eq, Bool.false_eq_true, decide_false, decide_true, or_false, false_or, or_true, true_or, or_self, lsOf_int, lsOf_ref, lsOf_long, lsOf_nil, List.replicate_succ, List.replicate_zero, Nat.add_one_sub_one, List.getElem?_cons_zero, List.getElem?_cons_succ, List.set_cons_zero, List.set_cons_succ, List.length_cons, List.length_nil, cond_true, cond_false, Value.category, List.reverse_nil, List.reverse_cons, List.nil_append, List.cons_append, true_and, and_true, beq_self_eq_true, nI_add, pk_mul, nI_and, nI_or, nI_an, Nat.zero_le, Nat.reduceLeDiff, f_iadd, f_isub, f_imul, f_iand, f_ior, f_ixor, f_ishl, f_ishr, f_iushr, f_idiv, f_irem, f_ladd, f_lmul, f_lrem, true_implies, false_implies, not_true_eq_false, and_self, ss, Option.isSome_some, List.set_set, sn, sn0, s0n, m0', hs0, nI_z (show sKn s < 2 ^ 31 by omega)]
  refine ⟨fun z => ?_, fun z => ?_⟩
  · simp only [backN, backA, if_neg z] at kk
    rw [pk_sub (show 1 ≤ sKn s by omega)]
    simp only [pk_mul, nI_add]
    refine sp_mcopy (w := w) ⟨_, _, _, _, _, _, _, _, _, _, _, _, (hs0 (mC6 (sUn s) (sKn s - 1) (sP s) (sSb s) (sSx s) (sSn s) (sTn s) pl nu rs ry rt rl))⟩ ((List.getElem?_set_ne (by decide)).trans hw) (by omega) (by decide) (by omega) (fun w' h1 h2 => ?_)
    have m1s : ((h.set 0 (.inr (6, [.ref 1, .int (nI (sUn s)), .int (nI (sKn s - 1)), .int (nI (pR (sP s))), .int (nI (pA (sP s))), .int (nI (pT (sP s))), .ref 2, .ref 3, .ref 4, .int (nI (pL (sP s))), .ref 5, .ref 6, .ref 7, .ref 8, .int (nI (sSb s)), .int (nI (sSx s)), .int (nI (sSn s)), .ref 9, .int (nI (sTn s)), .int pl, .int nu, .int rs, .int ry, .int rt, .ref 10, .int rl, .ref 11, .ref 12, .ref 13, .ref 14, .ref 15, .ref 16]))).set 1 (.inl (false, 76, w')))[0]? = some (.inr (6, [.ref 1, .int (nI (sUn s)), .int (nI (sKn s - 1)), .int (nI (pR (sP s))), .int (nI (pA (sP s))), .int (nI (pT (sP s))), .ref 2, .ref 3, .ref 4, .int (nI (pL (sP s))), .ref 5, .ref 6, .ref 7, .ref 8, .int (nI (sSb s)), .int (nI (sSx s)), .int (nI (sSn s)), .ref 9, .int (nI (sTn s)), .int pl, .int nu, .int rs, .int ry, .int rt, .ref 10, .int rl, .ref 11, .ref 12, .ref 13, .ref 14, .ref 15, .ref 16])) := (List.getElem?_set_ne (by decide)).trans (hs0 _)
    have hs01 := set_get m1s
    have m1' : ((h.set 0 (.inr (6, [.ref 1, .int (nI (sUn s)), .int (nI (sKn s - 1)), .int (nI (pR (sP s))), .int (nI (pA (sP s))), .int (nI (pT (sP s))), .ref 2, .ref 3, .ref 4, .int (nI (pL (sP s))), .ref 5, .ref 6, .ref 7, .ref 8, .int (nI (sSb s)), .int (nI (sSx s)), .int (nI (sSn s)), .ref 9, .int (nI (sTn s)), .int pl, .int nu, .int rs, .int ry, .int rt, .ref 10, .int rl, .ref 11, .ref 12, .ref 13, .ref 14, .ref 15, .ref 16]))).set 1 (.inl (false, 76, w')))[1]? = some (.inl (false, 76, w')) := set_get ((List.getElem?_set_ne (by decide)).trans hw) _
    simp only [nX6_back, kX6_back_0, kX6_back_1, kX6_back_4, kX6_back_7, kX6_back_9, kX6_back_10, kX6_back_11, kX6_back_12, kX6_back_15, kX6_back_16, kX6_back_17, kX6_back_20, kX6_back_21, kX6_back_23, kX6_back_24, kX6_back_25, kX6_back_28, kX6_back_29, kX6_back_30, kX6_back_31, kX6_back_34, kX6_back_35, kX6_back_36, kX6_back_39, kX6_back_40, kX6_back_43, ex_1, ex_s, exo_some, xK, xKL, xLdI, xLdA, xLdL, xStI, xStA, xStL, xInc, xBin, xDiv, xBinL, xDivL, xLcmp, xI2l, xL2i, xI2c, xC_eq, xC_ne, xC_lt, xC_ge, xC_gt, xC_le, xZ_eq, xZ_ne, xZ_lt, xZ_ge, xZ_gt, xZ_le, xGo, xTsw, tsw, xDup, xDup2, xPop, xGf, xPfI, xPfR, xiaload, xcaload, xiastore, xcastore, xAlen, xRet, xRetZ, xRetV, xObj, xMmax, xMmin, xCallS, xCallV, xCallI, popN, cs, kont_some, kont_none, noL, not_false_eq_true, Nat.reduceEqDiff, Nat.reduceBEq, Nat.reduceAdd, Nat.reduceLT, Nat.reduceSub, ↓reduceIte, decide_eq_true_eq, Bool.false_eq_true, decide_false, decide_true, or_false, false_or, or_true, true_or, or_self, lsOf_int, lsOf_ref, lsOf_long, lsOf_nil, List.replicate_succ, List.replicate_zero, Nat.add_one_sub_one, List.getElem?_cons_zero, List.getElem?_cons_succ, List.set_cons_zero, List.set_cons_succ, List.length_cons, List.length_nil, cond_true, cond_false, Value.category, List.reverse_nil, List.reverse_cons, List.nil_append, List.cons_append, true_and, and_true, beq_self_eq_true, nI_add, pk_mul, nI_and, nI_or, nI_an, Nat.zero_le, Nat.reduceLeDiff, f_iadd, f_isub, f_imul, f_iand, f_ior, f_ixor, f_ishl, f_ishr, f_iushr, f_idiv, f_irem, f_ladd, f_lmul, f_lrem, true_implies, false_implies, not_true_eq_false, and_self, ss, Option.isSome_some, List.set_set, sn, sn0, s0n, m1s, hs01]
    exact kk _ (MAt.up hC (fun j x y => (List.getElem?_set_ne (fun z => x z.symm)).trans ((List.getElem?_set_ne (fun z => y z.symm)).trans (List.getElem?_set_ne (fun z => x z.symm)))) rfl ⟨Nat.le_refl _, fun _ _ => rfl⟩ ⟨_, _, _, _, _, _, hs01 _⟩ ⟨w', (List.getElem?_set_ne (by decide)).trans m1', (hwK (sKn s - 1) (by omega)).move (fun i hi => h2 i hi), fun i hi => absurd hi (Nat.not_lt_zero _), fun i hi => (hwK i (by have : i < sKn s - 1 := hi; omega)).cong (fun k hk => h1 _ (by omega))⟩)
  · simp only [backN, backA, if_pos z] at kk
    exact kk h hC
theorem mo_write {x : Int32} (hC : MAt h s) (hW : WfS s) (kk : ∀ h', MAt h' (writeN s x) → K (some (.int (writeA s x))) h') : Spc MX6_write [.ref 0, .int x] h K := by
  obtain ⟨pl, nu, rs, ry, rt, rl, w, f9, m0, ⟨f1, f2, f3, f4, f5, f6, f7, pa, e1, e2⟩, hw, hw0, hwU, hwK, p9, hx9, hR⟩ := id hC
  have hM : MPl h (sP s) := ⟨f1, f2, f3, f4, f5, f6, f7, ⟨_, _, _, _, _, _, _, _, _, _, _, _, m0⟩, pa, e1, e2⟩
  obtain ⟨p1, p2, p3, p4, p5, p6, p7⟩ := id pa
  obtain ⟨wP, wT, wL, yH, yU, yK, wX, wSn, wSb, wSx⟩ := id hW
  have m0' : h[0]? = some (.inr (6, [.ref 1, .int (nI (sUn s)), .int (nI (sKn s)), .int (nI (pR (sP s))), .int (nI (pA (sP s))), .int (nI (pT (sP s))), .ref 2, .ref 3, .ref 4, .int (nI (pL (sP s))), .ref 5, .ref 6, .ref 7, .ref 8, .int (nI (sSb s)), .int (nI (sSx s)), .int (nI (sSn s)), .ref 9, .int (nI (sTn s)), .int pl, .int nu, .int rs, .int ry, .int rt, .ref 10, .int rl, .ref 11, .ref 12, .ref 13, .ref 14, .ref 15, .ref 16])) := m0
  have hT8 := wP.2.2.1
  have hL6 := wP.2.2.2.1
  have hT31 : pT (sP s) < 2 ^ 31 := by omega
  have hL31 : pL (sP s) < 2 ^ 31 := by omega
  have hd := lt256 yH.1 hT8
  have hlv := lt64 yH.2.1 hL6
  have hw' : h[1]? = some (.inl (false, 76, w)) := hw
  have w0 : w 0 = nI (yr (sH s)) := hw0.1
  have w1 : w 1 = nI (cn (sH s)) := hw0.2.1
  have w2 : w 2 = nI (dr (sH s)) := hw0.2.2.1
  have w3 : w 3 = nI (lv (sH s)) := hw0.2.2.2
  have hs0 : ∀ c, (h.set 0 c)[0]? = some c := set_get m0
  have hs1 := set_get hw'
  have h10 : ∀ c, (h.set 1 c)[0]? = h[0]? := fun c => List.getElem?_set_ne (by decide)
  have hn := wX.1
  refine Spc.go VX6_write (by decide +kernel) (fun _ => Nat.le_of_ble_eq_true rfl) (fun _ => false) 120 ?_
  simp only [nX6_write, kX6_write_0, kX6_write_1, kX6_write_2, kX6_write_5, kX6_write_8, kX6_write_11, kX6_write_14, kX6_write_15, kX6_write_16, kX6_write_17, kX6_write_20, kX6_write_23, kX6_write_26, kX6_write_28, kX6_write_29, kX6_write_30, kX6_write_33, kX6_write_34, kX6_write_37, kX6_write_38, kX6_write_39, kX6_write_40, kX6_write_41, kX6_write_44, kX6_write_45, kX6_write_46, kX6_write_49, kX6_write_50, kX6_write_53, ex_1, ex_s, exo_some, xK, xKL, xLdI, xLdA, xLdL, xStI, xStA, xStL, xInc, xBin, xDiv, xBinL, xDivL, xLcmp, xI2l, xL2i, xI2c, xC_eq, xC_ne, xC_lt, xC_ge, xC_gt, xC_le, xZ_eq, xZ_ne, xZ_lt, xZ_ge, xZ_gt, xZ_le, xGo, xTsw, tsw, xDup, xDup2, xPop, xGf, xPfI, xPfR, xiaload, xcaload, xiastore, xcastore, xAlen, xRet, xRetZ, xRetV, xObj, xMmax, xMmin, xCallS, xCallV, xCallI, popN, cs, kont_some, kont_none, noL, not_false_eq_true, Nat.reduceEqDiff, Nat.reduceBEq, Nat.reduceAdd, Nat.reduceLT, Nat.reduceSub, ↓reduceIte, decide_eq_true_eq, Bool.false_eq_true, decide_false, decide_true, or_false, false_or, or_true, true_or, or_self, lsOf_int, lsOf_ref, lsOf_long, lsOf_nil, List.replicate_succ, List.replicate_zero, Nat.add_one_sub_one, List.getElem?_cons_zero, List.getElem?_cons_succ, List.set_cons_zero, List.set_cons_succ, List.length_cons, List.length_nil, cond_true, cond_false, Value.category, List.reverse_nil, List.reverse_cons, List.nil_append, List.cons_append, true_and, and_true, beq_self_eq_true, nI_add, pk_mul, nI_and, nI_or, nI_an, Nat.zero_le, Nat.reduceLeDiff, f_iadd, f_isub, f_imul, f_iand, f_ior, f_ixor, f_ishl, f_ishr, f_iushr, f_idiv, f_irem, f_ladd, f_lmul, f_lrem, true_implies, false_implies, not_true_eq_false, and_self, ss, Option.isSome_some, List.set_set, sn, sn0, s0n, m0']
  refine sp_in ?_
  rw [in32 (by decide) (by decide)]
  have h90 : ∀ c, (h.set 9 c)[0]? = h[0]? := fun c => List.getElem?_set_ne (by decide)
  have h900 : ∀ c c', ((h.set 9 c).set 0 c')[0]? = some c' := fun c c' => set_get ((h90 c).trans m0') c'
  simp only [nX6_write, kX6_write_0, kX6_write_1, kX6_write_2, kX6_write_5, kX6_write_8, kX6_write_11, kX6_write_14, kX6_write_15, kX6_write_16, kX6_write_17, kX6_write_20, kX6_write_23, kX6_write_26, kX6_write_28, kX6_write_29, kX6_write_30, kX6_write_33, kX6_write_34, kX6_write_37, kX6_write_38, kX6_write_39, kX6_write_40, kX6_write_41, kX6_write_44, kX6_write_45, kX6_write_46, kX6_write_49, kX6_write_50, kX6_write_53, ex_1, ex_s, exo_some, xK, xKL, xLdI, xLdA, xLdL, xStI, xStA, xStL, xInc, xBin, xDiv, xBinL, xDivL, xLcmp, xI2l, xL2i, xI2c, xC_eq, xC_ne, xC_lt, xC_ge, xC_gt, xC_le, xZ_eq, xZ_ne, xZ_lt, xZ_ge, xZ_gt, xZ_le, xGo, xTsw, tsw, xDup, xDup2, xPop, xGf, xPfI, xPfR, xiaload, xcaload, xiastore, xcastore, xAlen, xRet, xRetZ, xRetV, xObj, xMmax, xMmin, xCallS, xCallV, xCallI, popN, cs, kont_some, kont_none, noL, not_false_eq_true, Nat.reduceEqDiff, Nat.reduceBEq, Nat.reduceAdd, Nat.reduceLT, Nat.reduceSub, ↓reduceIte, decide_eq_true_eq, Bool.false_eq_true, decide_false, decide_true, or_false, false_or, or_true, true_or, or_self, lsOf_int, lsOf_ref, lsOf_long, lsOf_nil, List.replicate_succ, List.replicate_zero, Nat.add_one_sub_one, List.getElem?_cons_zero, List.getElem?_cons_succ, List.set_cons_zero, List.set_cons_succ, List.length_cons, List.length_nil, cond_true, cond_false, Value.category, List.reverse_nil, List.reverse_cons, List.nil_append, List.cons_append, true_and, and_true, beq_self_eq_true, nI_add, pk_mul, nI_and, nI_or, nI_an, Nat.zero_le, Nat.reduceLeDiff, f_iadd, f_isub, f_imul, f_iand, f_ior, f_ixor, f_ishl, f_ishr, f_iushr, f_idiv, f_irem, f_ladd, f_lmul, f_lrem, true_implies, false_implies, not_true_eq_false, and_self, ss, Option.isSome_some, List.set_set, sn, sn0, s0n, m0', hs0, h90, h900, nI_b0, p9, nI_clamp (show sTn s < 2 ^ 31 by omega), nI_eq (show sTn s < 2 ^ 31 by omega) (show 200 < 2 ^ 31 by decide)]
  refine ⟨fun z => ?_, fun z => ?_⟩
  · have z := of_decide_eq_true (nf_t z)
    obtain ⟨c, hc1, hc2, rfl, e⟩ := argC_some z.1 z.2
    simp only [writeN, writeA, e] at kk
    refine ⟨fun q => ⟨vp_in_nI (by omega) (by decide), ?_⟩, fun q => ?_⟩
    · simp only [if_neg q] at kk
      have g : ∀ c c' j, j ≠ 0 → j ≠ 9 → ((h.set 9 c).set 0 c')[j]? = h[j]? := fun c c' j x y => (List.getElem?_set_ne (fun z => x z.symm)).trans (List.getElem?_set_ne (fun z => y z.symm))
      obtain ⟨⟨a1, r1⟩, ⟨a2, r2⟩, ⟨a3, r3⟩, ⟨a4, r4⟩, ⟨a5, r5⟩, ⟨a6, r6⟩, a7, r7⟩ := hR
      refine kk _ ⟨pl, nu, rs, ry, rt, rl, w, upd f9 (sTn s) (nI c), h900 _ _, ⟨f1, f2, f3, f4, f5, f6, f7, ⟨?_, ?_, ?_, ?_, ?_, ?_, ?_⟩, e1, e2⟩, ?_, hw0, hwU, hwK, ?_, fun j hj => ?_, ⟨a1, ?_⟩, ⟨a2, ?_⟩, ⟨a3, ?_⟩, ⟨a4, ?_⟩, ⟨a5, ?_⟩, ⟨a6, ?_⟩, a7, ?_⟩
      case refine_9 => exact (List.getElem?_set_ne (by decide)).trans (set_get p9 _)
      case refine_10 =>
        have hj : j < sTn s + 1 := hj
        show upd f9 (sTn s) (nI c) j = nI (up (sTf s) (sTn s) c j)
        simp only [upd_eq, up]
        by_cases w : j = sTn s
        · simp only [if_pos w]
        · simp only [if_neg w]; exact hx9 j (by omega)
      all_goals (try (exact (g _ _ _ (by decide) (by decide)).trans (by assumption)))
    · simp only [if_pos q] at kk
      exact kk h hC
  · have e := argC_none (of_decide_eq_false z)
    simp only [writeN, writeA, e] at kk
    exact kk h hC
end
