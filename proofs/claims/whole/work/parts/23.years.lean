/-! ===== years, kept and undone, laying anew ===== -/
section
variable {h h' : SH} {k : Nat}
theorem PlanAt.same {P : Pl} (hP : PlanAt h k P) (g : ∀ j, k ≤ j → j ≤ k + 7 → h'[j]? = h[j]?) : PlanAt h' k P := by
  obtain ⟨f1, f2, f3, f4, f5, f6, f7, h0, ⟨a1, a2, a3, a4, a5, a6, a7⟩, e1, e2⟩ := hP
  refine ⟨f1, f2, f3, f4, f5, f6, f7, ?_, ⟨?_, ?_, ?_, ?_, ?_, ?_, ?_⟩, e1, e2⟩ <;> (rw [g _ (by omega) (by omega)]; assumption)
theorem PileAt.same {lim n : Nat} {p : Nat → Hr} (hp : PileAt h k lim n p) (g : ∀ j, k ≤ j → j ≤ k + 4 → h'[j]? = h[j]?) : PileAt h' k lim n p := by
  obtain ⟨h0, ⟨g1, g2, g3, g4, ⟨a1, a2, a3, a4⟩, b⟩, hn, hl⟩ := hp
  refine ⟨by rw [g _ (by omega) (by omega)]; exact h0, ⟨g1, g2, g3, g4, ⟨?_, ?_, ?_, ?_⟩, b⟩, hn, hl⟩ <;> (rw [g _ (by omega) (by omega)]; assumption)
theorem ReaderAt.same (hr : ReaderAt h k) (g : ∀ j, k ≤ j → j ≤ k + 1 → h'[j]? = h[j]?) : ReaderAt h' k := by
  obtain ⟨am, x, a, b⟩ := hr
  exact ⟨am, x, (g _ (by omega) (by omega)).trans a, (g _ (by omega) (by omega)).trans b⟩
theorem CounselAt.same (hC : CounselAt h k) (g : ∀ j, k ≤ j → j ≤ k + 2 → h'[j]? = h[j]?) : CounselAt h' k := by
  obtain ⟨a, ⟨b, hb⟩, c, hc⟩ := hC
  exact ⟨(g _ (by omega) (by omega)).trans a, ⟨b, (g _ (by omega) (by omega)).trans hb⟩, c, (g _ (by omega) (by omega)).trans hc⟩
theorem TxAt.same {n : Nat} {tx : Nat → Nat} (ht : TxAt h n tx) (g : h'[1]? = h[1]?) : TxAt h' n tx := by
  obtain ⟨f, a, b⟩ := ht
  exact ⟨f, g.trans a, b⟩
end
section
variable {h h' : SH} {s s' : St} {kl ks : Nat} {P' : Pl} {r' : Hr}
theorem CA.takeU {n : Nat} {p : Nat → Hr} {r : Hr} (C : CA h s kl ks P' r') (hk : kks kl ks) (g : ∀ j, j ≠ 26 → j ≠ 13 → h'[j]? = h[j]?) (hp : PileAt h' 26 8 n p) (hr : h'[13]? = some (hrC r)) : CA h' (wU (wH s r) n p) kl ks P' r' := by
  obtain ⟨c0, cT, cR, cC, cP, cQ, cH, cI, cU, cK⟩ := C
  have hkl : (kl + 7 < 13 ∨ 13 < kl) ∧ (ks + 7 < 13 ∨ 13 < ks) ∧ kl + 7 < 26 ∧ ks + 7 < 26 := by rcases hk with ⟨rfl, rfl⟩ | ⟨rfl, rfl⟩ <;> decide
  exact ⟨(g 0 (by decide) (by decide)).trans c0, cT.same (g _ (by decide) (by decide)), cR.same (fun j _ _ => g j (by omega) (by omega)), cC.same (fun j _ _ => g j (by omega) (by omega)), cP.same (fun j _ _ => g j (by omega) (by omega)), cQ.same (fun j _ _ => g j (by omega) (by omega)), hr, (g _ (by decide) (by decide)).trans cI, hp, cK.same (fun j _ _ => g j (by omega) (by omega))⟩
theorem CA.takeK {n : Nat} {p : Nat → Hr} {r : Hr} (C : CA h s kl ks P' r') (hk : kks kl ks) (g : ∀ j, j ≠ 31 → j ≠ 13 → h'[j]? = h[j]?) (hp : PileAt h' 31 2 n p) (hr : h'[13]? = some (hrC r)) : CA h' (wK (wH s r) n p) kl ks P' r' := by
  obtain ⟨c0, cT, cR, cC, cP, cQ, cH, cI, cU, cK⟩ := C
  have hkl : (kl + 7 < 13 ∨ 13 < kl) ∧ (ks + 7 < 13 ∨ 13 < ks) ∧ kl + 7 < 26 ∧ ks + 7 < 26 := by rcases hk with ⟨rfl, rfl⟩ | ⟨rfl, rfl⟩ <;> decide
  exact ⟨(g 0 (by decide) (by decide)).trans c0, cT.same (g _ (by decide) (by decide)), cR.same (fun j _ _ => g j (by omega) (by omega)), cC.same (fun j _ _ => g j (by omega) (by omega)), cP.same (fun j _ _ => g j (by omega) (by omega)), cQ.same (fun j _ _ => g j (by omega) (by omega)), hr, (g _ (by decide) (by decide)).trans cI, cU.same (fun j _ _ => g j (by omega) (by omega)), hp⟩
/-- the two plans change places -/
theorem CA.swap (C : CA h s kl ks P' r') (hk : kks kl ks) (h0 : h'[0]? = some (objC s' ks kl)) (hf : Fr 0 0 h h') (hs : s'.1 = P' ∧ s'.2.1 = s.2.1 ∧ s'.2.2.1 = s.2.2.1 ∧ s'.2.2.2.1 = s.2.2.2.1 ∧ s'.2.2.2.2.1 = s.2.2.2.2.1) : CA h' s' ks kl (sP s) r' := by
  obtain ⟨c0, cT, cR, cC, cP, cQ, cH, cI, cU, cK⟩ := C
  obtain ⟨e1, e2, e3, e4, e5⟩ := hs
  have hkl : 1 < kl ∧ 1 < ks := by rcases hk with ⟨rfl, rfl⟩ | ⟨rfl, rfl⟩ <;> decide
  refine ⟨h0, ?_, cR.fr hf (by omega), cC.fr hf (by omega), ?_, cP.fr hf (by omega), ?_, (hf.2 _ (by omega)).trans cI, ?_, ?_⟩
  · simp only [sTn, sTf, e5]; exact cT.fr hf (by omega)
  · simp only [sP, e1]; exact cQ.fr hf (by omega)
  · simp only [sH, e2]; exact (hf.2 _ (by omega)).trans cH
  · simp only [sUn, sUf, e3]; exact cU.fr hf (by omega)
  · simp only [sKn, sKf, e4]; exact cK.fr hf (by omega)
end
def argP (x : Int32) : Option Nat := if nI 1 ≤ x ∧ x ≤ nI 20 then some x.toNatClampNeg else none
theorem argP_some {x : Int32} (h1 : nI 1 ≤ x) (h2 : x ≤ nI 20) : ∃ c, 1 ≤ c ∧ c ≤ 20 ∧ x = nI c ∧ argP x = some c := by
  have h0 : ¬ x < 0 := by
    rw [fa_le, nI_toInt (by decide)] at h1
    rw [fa_lt]
    have : (0 : Int32).toInt = 0 := by decide
    omega
  obtain ⟨c, hc, rfl⟩ := nI_of h0
  have a := (nI_leI (by decide) hc).mp h1
  have b := (nI_leI hc (by decide)).mp h2
  exact ⟨c, a, b, rfl, by rw [argP, if_pos ⟨h1, h2⟩, nI_clamp hc]⟩
theorem argP_none {x : Int32} (h : ¬ (nI 1 ≤ x ∧ x ≤ nI 20)) : argP x = none := by rw [argP, if_neg h]
def passA (s : St) (n : Int32) : Int32 := match argP n with
  | none => -1
  | some j => nI (cn (goH (sP s) (sH s) j))
def passN (s : St) (n : Int32) : St := match argP n with
  | none => s
  | some j => wH (mindU s) (goH (sP s) (sH s) j)
theorem cl_pass {s : St} {h : SH} {n : Int32} {K : Option Value → SH → Prop} (hC : CAt h s) (hW : WfS s) (kk : ∀ h', CAt h' (passN s n) → K (some (.int (passA s n))) h') : Spc MX5_pass [.ref 0, .int n] h K := by
  obtain ⟨kl, ks, P', r', hk, c0, cT, cR, cC, cP, cQ, cH, cI, cU, cK⟩ := id hC
  obtain ⟨wP, wT, wL, wH, wU, wK, wX, wSn, wSb, wSx⟩ := id hW
  have c0' : h[0]? = some (.inr (5, [.ref 1, .int (nI (sTn s)), .ref 2, .ref 14, .ref kl, .ref ks, .ref 13, .ref 25, .ref 26, .ref 31, .int (nI (sSn s)), .int (nI (sSb s)), .int (nI (sSx s))])) := c0
  obtain ⟨f1, f2, f3, f4, f5, f6, f7, p0, ⟨p1, p2, p3, p4, p5, p6, p7⟩, e1, e2⟩ := id cP
  have hT8 := wP.2.2.1
  have hL6 := wP.2.2.2.1
  have hT31 : pT (sP s) < 2 ^ 31 := by omega
  have hL31 : pL (sP s) < 2 ^ 31 := by omega
  have hd := lt256 wH.1 hT8
  have hlv := lt64 wH.2.1 hL6
  have hkl : 3 < kl ∧ kl + 7 < 13 ∨ 16 < kl ∧ kl + 7 < 25 := by rcases hk with ⟨rfl, rfl⟩ | ⟨rfl, rfl⟩ <;> omega
  have hks : 3 < ks ∧ ks + 7 < 13 ∨ 16 < ks ∧ ks + 7 < 25 := by rcases hk with ⟨rfl, rfl⟩ | ⟨rfl, rfl⟩ <;> omega
  have hkk : kl + 7 < ks ∨ ks + 7 < kl := by rcases hk with ⟨rfl, rfl⟩ | ⟨rfl, rfl⟩ <;> omega
  obtain ⟨u0, -⟩ := id cU
  obtain ⟨v0, -⟩ := id cK
  have u0' : h[26]? = some (.inr (2, [.int (nI (sUn s)), .int (nI 8), .ref 27, .ref 28, .ref 29, .ref 30])) := u0
  have v0' : h[31]? = some (.inr (2, [.int (nI (sKn s)), .int (nI 2), .ref 32, .ref 33, .ref 34, .ref 35])) := v0
  have hs0 := set_get c0
  refine Spc.go VX5_pass (by decide +kernel) (fun _ => Nat.le_of_ble_eq_true rfl) (fun _ => false) 120 ?_
  simp only [nX5_pass, kX5_pass_0, kX5_pass_1, kX5_pass_2, kX5_pass_5, kX5_pass_6, kX5_pass_8, kX5_pass_11, kX5_pass_12, kX5_pass_13, kX5_pass_14, kX5_pass_17, kX5_pass_18, kX5_pass_21, kX5_pass_24, kX5_pass_25, kX5_pass_28, kX5_pass_29, kX5_pass_32, kX5_pass_33, kX5_pass_36, kX5_pass_37, kX5_pass_40, kX5_pass_43, ex_1, ex_s, exo_some, xK, xKL, xLdI, xLdA, xLdL, xStI, xStA, xStL, xInc, xBin, xDiv, xBinL, xDivL, xLcmp, xI2l, xL2i, xI2c, xC_eq, xC_ne, xC_lt, xC_ge, xC_gt, xC_le, xZ_eq, xZ_ne, xZ_lt, xZ_ge, xZ_gt, xZ_le, xGo, xTsw, tsw, xDup, xDup2, xPop, xGf, xPfI, xPfR, xiaload, xcaload, xiastore, xcastore, xAlen, xRet, xRetZ, xRetV, xObj, xMmax, xMmin, xCallS, xCallV, xCallI, popN, cs, kont_some, kont_none, noL, not_false_eq_true, Nat.reduceEqDiff, Nat.reduceBEq, Nat.reduceAdd, Nat.reduceLT, Nat.reduceSub, ↓reduceIte, decide_eq_true_eq, Bool.false_eq_true, decide_false, decide_true, or_false, false_or, or_true, true_or, or_self, lsOf_int, lsOf_ref, lsOf_long, lsOf_nil, List.replicate_succ, List.replicate_zero, Nat.add_one_sub_one, List.getElem?_cons_zero, List.getElem?_cons_succ, List.set_cons_zero, List.set_cons_succ, List.length_cons, List.length_nil, cond_true, cond_false, Value.category, List.reverse_nil, List.reverse_cons, List.nil_append, List.cons_append, true_and, and_true, beq_self_eq_true, nI_add, pk_mul, nI_and, nI_or, nI_an, Nat.zero_le, Nat.reduceLeDiff, f_iadd, f_isub, f_imul, f_iand, f_ior, f_ixor, f_ishl, f_ishr, f_iushr, f_idiv, f_irem, f_ladd, f_lmul, f_lrem, true_implies, false_implies, not_true_eq_false, and_self, ss, Option.isSome_some, List.set_set, sn, sn0, s0n, c0', u0']
  refine ⟨fun z => ?_, fun z => ⟨fun z2 => ?_, fun z2 => ?_⟩⟩
  · simp only [passN, passA, argP_none (x := n) (fun q => absurd z (le_nlt q.1))] at kk
    exact kk h hC
  · obtain ⟨j, hj1, hj2, rfl, hq⟩ := argP_some (fa_of_nlt z) z2
    simp only [passN, passA, hq] at kk
    refine sp_add cU (by decide) cH (by decide) (fun h1 hp1 hf1 => ?_)
    have C1 := CA.past ⟨c0, cT, cR, cC, cP, cQ, cH, cI, cU, cK⟩ hk hf1 hp1
    obtain ⟨d0, dT, dR, dC, dP, dQ, dH, dI, dU, dK⟩ := id C1
    have dH : h1[13]? = some (hrC (sH s)) := dH
    have dP : PlanAt h1 kl (sP s) := dP
    have d0' : h1[0]? = some (.inr (5, [.ref 1, .int (nI (sTn s)), .ref 2, .ref 14, .ref kl, .ref ks, .ref 13, .ref 25, .ref 26, .ref 31, .int (nI (sSn s)), .int (nI (sSb s)), .int (nI (sSx s))])) := d0
    simp only [nX5_pass, kX5_pass_0, kX5_pass_1, kX5_pass_2, kX5_pass_5, kX5_pass_6, kX5_pass_8, kX5_pass_11, kX5_pass_12, kX5_pass_13, kX5_pass_14, kX5_pass_17, kX5_pass_18, kX5_pass_21, kX5_pass_24, kX5_pass_25, kX5_pass_28, kX5_pass_29, kX5_pass_32, kX5_pass_33, kX5_pass_36, kX5_pass_37, kX5_pass_40, kX5_pass_43, ex_1, ex_s, exo_some, xK, xKL, xLdI, xLdA, xLdL, xStI, xStA, xStL, xInc, xBin, xDiv, xBinL, xDivL, xLcmp, xI2l, xL2i, xI2c, xC_eq, xC_ne, xC_lt, xC_ge, xC_gt, xC_le, xZ_eq, xZ_ne, xZ_lt, xZ_ge, xZ_gt, xZ_le, xGo, xTsw, tsw, xDup, xDup2, xPop, xGf, xPfI, xPfR, xiaload, xcaload, xiastore, xcastore, xAlen, xRet, xRetZ, xRetV, xObj, xMmax, xMmin, xCallS, xCallV, xCallI, popN, cs, kont_some, kont_none, noL, not_false_eq_true, Nat.reduceEqDiff, Nat.reduceBEq, Nat.reduceAdd, Nat.reduceLT, Nat.reduceSub, ↓reduceIte, decide_eq_true_eq, Bool.false_eq_true, decide_false, decide_true, or_false, false_or, or_true, true_or, or_self, lsOf_int, lsOf_ref, lsOf_long, lsOf_nil, List.replicate_succ, List.replicate_zero, Nat.add_one_sub_one, List.getElem?_cons_zero, List.getElem?_cons_succ, List.set_cons_zero, List.set_cons_succ, List.length_cons, List.length_nil, cond_true, cond_false, Value.category, List.reverse_nil, List.reverse_cons, List.nil_append, List.cons_append, true_and, and_true, beq_self_eq_true, nI_add, pk_mul, nI_and, nI_or, nI_an, Nat.zero_le, Nat.reduceLeDiff, f_iadd, f_isub, f_imul, f_iand, f_ior, f_ixor, f_ishl, f_ishr, f_iushr, f_idiv, f_irem, f_ladd, f_lmul, f_lrem, true_implies, false_implies, not_true_eq_false, and_self, ss, Option.isSome_some, List.set_set, sn, sn0, s0n, d0', dH, hrC]
    refine sp_goBy dP wP dH wH (by omega) ?_
    have C2 := CA.hour C1 hk (goH (sP s) (sH s) j)
    obtain ⟨g0, -⟩ := id C2
    have g0' : (h1.set 13 (hrC (goH (sP s) (sH s) j)))[0]? = some (.inr (5, [.ref 1, .int (nI (sTn s)), .ref 2, .ref 14, .ref kl, .ref ks, .ref 13, .ref 25, .ref 26, .ref 31, .int (nI (sSn s)), .int (nI (sSb s)), .int (nI (sSx s))])) := g0
    have gH := set_get dH (hrC (goH (sP s) (sH s) j))
    simp only [nX5_pass, kX5_pass_0, kX5_pass_1, kX5_pass_2, kX5_pass_5, kX5_pass_6, kX5_pass_8, kX5_pass_11, kX5_pass_12, kX5_pass_13, kX5_pass_14, kX5_pass_17, kX5_pass_18, kX5_pass_21, kX5_pass_24, kX5_pass_25, kX5_pass_28, kX5_pass_29, kX5_pass_32, kX5_pass_33, kX5_pass_36, kX5_pass_37, kX5_pass_40, kX5_pass_43, ex_1, ex_s, exo_some, xK, xKL, xLdI, xLdA, xLdL, xStI, xStA, xStL, xInc, xBin, xDiv, xBinL, xDivL, xLcmp, xI2l, xL2i, xI2c, xC_eq, xC_ne, xC_lt, xC_ge, xC_gt, xC_le, xZ_eq, xZ_ne, xZ_lt, xZ_ge, xZ_gt, xZ_le, xGo, xTsw, tsw, xDup, xDup2, xPop, xGf, xPfI, xPfR, xiaload, xcaload, xiastore, xcastore, xAlen, xRet, xRetZ, xRetV, xObj, xMmax, xMmin, xCallS, xCallV, xCallI, popN, cs, kont_some, kont_none, noL, not_false_eq_true, Nat.reduceEqDiff, Nat.reduceBEq, Nat.reduceAdd, Nat.reduceLT, Nat.reduceSub, ↓reduceIte, decide_eq_true_eq, Bool.false_eq_true, decide_false, decide_true, or_false, false_or, or_true, true_or, or_self, lsOf_int, lsOf_ref, lsOf_long, lsOf_nil, List.replicate_succ, List.replicate_zero, Nat.add_one_sub_one, List.getElem?_cons_zero, List.getElem?_cons_succ, List.set_cons_zero, List.set_cons_succ, List.length_cons, List.length_nil, cond_true, cond_false, Value.category, List.reverse_nil, List.reverse_cons, List.nil_append, List.cons_append, true_and, and_true, beq_self_eq_true, nI_add, pk_mul, nI_and, nI_or, nI_an, Nat.zero_le, Nat.reduceLeDiff, f_iadd, f_isub, f_imul, f_iand, f_ior, f_ixor, f_ishl, f_ishr, f_iushr, f_idiv, f_irem, f_ladd, f_lmul, f_lrem, g0', gH]
    simp only [nX5_pass, kX5_pass_0, kX5_pass_1, kX5_pass_2, kX5_pass_5, kX5_pass_6, kX5_pass_8, kX5_pass_11, kX5_pass_12, kX5_pass_13, kX5_pass_14, kX5_pass_17, kX5_pass_18, kX5_pass_21, kX5_pass_24, kX5_pass_25, kX5_pass_28, kX5_pass_29, kX5_pass_32, kX5_pass_33, kX5_pass_36, kX5_pass_37, kX5_pass_40, kX5_pass_43, ex_1, ex_s, exo_some, xK, xKL, xLdI, xLdA, xLdL, xStI, xStA, xStL, xInc, xBin, xDiv, xBinL, xDivL, xLcmp, xI2l, xL2i, xI2c, xC_eq, xC_ne, xC_lt, xC_ge, xC_gt, xC_le, xZ_eq, xZ_ne, xZ_lt, xZ_ge, xZ_gt, xZ_le, xGo, xTsw, tsw, xDup, xDup2, xPop, xGf, xPfI, xPfR, xiaload, xcaload, xiastore, xcastore, xAlen, xRet, xRetZ, xRetV, xObj, xMmax, xMmin, xCallS, xCallV, xCallI, popN, cs, kont_some, kont_none, noL, not_false_eq_true, Nat.reduceEqDiff, Nat.reduceBEq, Nat.reduceAdd, Nat.reduceLT, Nat.reduceSub, ↓reduceIte, decide_eq_true_eq, Bool.false_eq_true, decide_false, decide_true, or_false, false_or, or_true, true_or, or_self, lsOf_int, lsOf_ref, lsOf_long, lsOf_nil, List.replicate_succ, List.replicate_zero, Nat.add_one_sub_one, List.getElem?_cons_zero, List.getElem?_cons_succ, List.set_cons_zero, List.set_cons_succ, List.length_cons, List.length_nil, cond_true, cond_false, Value.category, List.reverse_nil, List.reverse_cons, List.nil_append, List.cons_append, true_and, and_true, beq_self_eq_true, nI_add, pk_mul, nI_and, nI_or, nI_an, Nat.zero_le, Nat.reduceLeDiff, f_iadd, f_isub, f_imul, f_iand, f_ior, f_ixor, f_ishl, f_ishr, f_iushr, f_idiv, f_irem, f_ladd, f_lmul, f_lrem, hrC]
    exact kk _ ⟨kl, ks, P', r', hk, C2⟩
  · simp only [passN, passA, argP_none (x := n) (fun q => absurd q.2 z2)] at kk
    exact kk h hC
def undoA (s : St) : Int32 := if sUn s = 0 then -2 else nI (sUn s - 1)
def undoN (s : St) : St := if sUn s = 0 then s else wU (wH s (sUf s (sUn s - 1))) (sUn s - 1) (sUf s)
theorem cl_undo {s : St} {h : SH} {K : Option Value → SH → Prop} (hC : CAt h s) (hW : WfS s) (kk : ∀ h', CAt h' (undoN s) → K (some (.int (undoA s))) h') : Spc MX5_undo [.ref 0] h K := by
  obtain ⟨kl, ks, P', r', hk, c0, cT, cR, cC, cP, cQ, cH, cI, cU, cK⟩ := id hC
  obtain ⟨wP, wT, wL, wH, wU, wK, wX, wSn, wSb, wSx⟩ := id hW
  have c0' : h[0]? = some (.inr (5, [.ref 1, .int (nI (sTn s)), .ref 2, .ref 14, .ref kl, .ref ks, .ref 13, .ref 25, .ref 26, .ref 31, .int (nI (sSn s)), .int (nI (sSb s)), .int (nI (sSx s))])) := c0
  obtain ⟨f1, f2, f3, f4, f5, f6, f7, p0, ⟨p1, p2, p3, p4, p5, p6, p7⟩, e1, e2⟩ := id cP
  have hT8 := wP.2.2.1
  have hL6 := wP.2.2.2.1
  have hT31 : pT (sP s) < 2 ^ 31 := by omega
  have hL31 : pL (sP s) < 2 ^ 31 := by omega
  have hd := lt256 wH.1 hT8
  have hlv := lt64 wH.2.1 hL6
  have hkl : 3 < kl ∧ kl + 7 < 13 ∨ 16 < kl ∧ kl + 7 < 25 := by rcases hk with ⟨rfl, rfl⟩ | ⟨rfl, rfl⟩ <;> omega
  have hks : 3 < ks ∧ ks + 7 < 13 ∨ 16 < ks ∧ ks + 7 < 25 := by rcases hk with ⟨rfl, rfl⟩ | ⟨rfl, rfl⟩ <;> omega
  have hkk : kl + 7 < ks ∨ ks + 7 < kl := by rcases hk with ⟨rfl, rfl⟩ | ⟨rfl, rfl⟩ <;> omega
  obtain ⟨u0, -⟩ := id cU
  obtain ⟨v0, -⟩ := id cK
  have u0' : h[26]? = some (.inr (2, [.int (nI (sUn s)), .int (nI 8), .ref 27, .ref 28, .ref 29, .ref 30])) := u0
  have v0' : h[31]? = some (.inr (2, [.int (nI (sKn s)), .int (nI 2), .ref 32, .ref 33, .ref 34, .ref 35])) := v0
  have hs0 := set_get c0
  refine Spc.go VX5_undo (by decide +kernel) (fun _ => Nat.le_of_ble_eq_true rfl) (fun _ => false) 120 ?_
  simp only [nX5_undo, kX5_undo_0, kX5_undo_1, kX5_undo_4, kX5_undo_7, kX5_undo_10, kX5_undo_12, kX5_undo_13, kX5_undo_14, kX5_undo_17, kX5_undo_18, kX5_undo_21, kX5_undo_24, kX5_undo_25, kX5_undo_28, kX5_undo_31, ex_1, ex_s, exo_some, xK, xKL, xLdI, xLdA, xLdL, xStI, xStA, xStL, xInc, xBin, xDiv, xBinL, xDivL, xLcmp, xI2l, xL2i, xI2c, xC_eq, xC_ne, xC_lt, xC_ge, xC_gt, xC_le, xZ_eq, xZ_ne, xZ_lt, xZ_ge, xZ_gt, xZ_le, xGo, xTsw, tsw, xDup, xDup2, xPop, xGf, xPfI, xPfR, xiaload, xcaload, xiastore, xcastore, xAlen, xRet, xRetZ, xRetV, xObj, xMmax, xMmin, xCallS, xCallV, xCallI, popN, cs, kont_some, kont_none, noL, not_false_eq_true, Nat.reduceEqDiff, Nat.reduceBEq, Nat.reduceAdd, Nat.reduceLT, Nat.reduceSub, ↓reduceIte, decide_eq_true_eq, Bool.false_eq_true, decide_false, decide_true, or_false, false_or, or_true, true_or, or_self, lsOf_int, lsOf_ref, lsOf_long, lsOf_nil, List.replicate_succ, List.replicate_zero, Nat.add_one_sub_one, List.getElem?_cons_zero, List.getElem?_cons_succ, List.set_cons_zero, List.set_cons_succ, List.length_cons, List.length_nil, cond_true, cond_false, Value.category, List.reverse_nil, List.reverse_cons, List.nil_append, List.cons_append, true_and, and_true, beq_self_eq_true, nI_add, pk_mul, nI_and, nI_or, nI_an, Nat.zero_le, Nat.reduceLeDiff, f_iadd, f_isub, f_imul, f_iand, f_ior, f_ixor, f_ishl, f_ishr, f_iushr, f_idiv, f_irem, f_ladd, f_lmul, f_lrem, true_implies, false_implies, not_true_eq_false, and_self, ss, Option.isSome_some, List.set_set, sn, sn0, s0n, c0', u0', nI_z (show sUn s < 2 ^ 31 by omega)]
  refine ⟨fun z => ?_, fun z => ?_⟩
  · simp only [undoN, undoA, if_neg z] at kk
    refine sp_takeTop cU (by omega) cH (by decide) (fun h1 hp1 hr1 _ g => ?_)
    have C1 := CA.takeU ⟨c0, cT, cR, cC, cP, cQ, cH, cI, cU, cK⟩ hk g hp1 hr1
    obtain ⟨d0, dT, dR, dC, dP, dQ, dH, dI, ⟨dU, -⟩, dK⟩ := id C1
    have d0' : h1[0]? = some (.inr (5, [.ref 1, .int (nI (sTn s)), .ref 2, .ref 14, .ref kl, .ref ks, .ref 13, .ref 25, .ref 26, .ref 31, .int (nI (sSn s)), .int (nI (sSb s)), .int (nI (sSx s))])) := d0
    have dU' : h1[26]? = some (.inr (2, [.int (nI (sUn s - 1)), .int (nI 8), .ref 27, .ref 28, .ref 29, .ref 30])) := dU
    simp only [nX5_undo, kX5_undo_0, kX5_undo_1, kX5_undo_4, kX5_undo_7, kX5_undo_10, kX5_undo_12, kX5_undo_13, kX5_undo_14, kX5_undo_17, kX5_undo_18, kX5_undo_21, kX5_undo_24, kX5_undo_25, kX5_undo_28, kX5_undo_31, ex_1, ex_s, exo_some, xK, xKL, xLdI, xLdA, xLdL, xStI, xStA, xStL, xInc, xBin, xDiv, xBinL, xDivL, xLcmp, xI2l, xL2i, xI2c, xC_eq, xC_ne, xC_lt, xC_ge, xC_gt, xC_le, xZ_eq, xZ_ne, xZ_lt, xZ_ge, xZ_gt, xZ_le, xGo, xTsw, tsw, xDup, xDup2, xPop, xGf, xPfI, xPfR, xiaload, xcaload, xiastore, xcastore, xAlen, xRet, xRetZ, xRetV, xObj, xMmax, xMmin, xCallS, xCallV, xCallI, popN, cs, kont_some, kont_none, noL, not_false_eq_true, Nat.reduceEqDiff, Nat.reduceBEq, Nat.reduceAdd, Nat.reduceLT, Nat.reduceSub, ↓reduceIte, decide_eq_true_eq, Bool.false_eq_true, decide_false, decide_true, or_false, false_or, or_true, true_or, or_self, lsOf_int, lsOf_ref, lsOf_long, lsOf_nil, List.replicate_succ, List.replicate_zero, Nat.add_one_sub_one, List.getElem?_cons_zero, List.getElem?_cons_succ, List.set_cons_zero, List.set_cons_succ, List.length_cons, List.length_nil, cond_true, cond_false, Value.category, List.reverse_nil, List.reverse_cons, List.nil_append, List.cons_append, true_and, and_true, beq_self_eq_true, nI_add, pk_mul, nI_and, nI_or, nI_an, Nat.zero_le, Nat.reduceLeDiff, f_iadd, f_isub, f_imul, f_iand, f_ior, f_ixor, f_ishl, f_ishr, f_iushr, f_idiv, f_irem, f_ladd, f_lmul, f_lrem, true_implies, false_implies, not_true_eq_false, and_self, ss, Option.isSome_some, List.set_set, sn, sn0, s0n, d0', dU']
    exact kk _ ⟨kl, ks, P', r', hk, C1⟩
  · simp only [undoN, undoA, if_pos z] at kk
    exact kk h hC
def keepA (s : St) : Int32 := if sKn s = 2 then -3 else nI (sKn s + 1)
def keepN (s : St) : St := if sKn s = 2 then s else wK s (sKn s + 1) (pushI 2 (sKn s) (sKf s) (sH s))
theorem cl_keep {s : St} {h : SH} {K : Option Value → SH → Prop} (hC : CAt h s) (hW : WfS s) (kk : ∀ h', CAt h' (keepN s) → K (some (.int (keepA s))) h') : Spc MX5_keep [.ref 0] h K := by
  obtain ⟨kl, ks, P', r', hk, c0, cT, cR, cC, cP, cQ, cH, cI, cU, cK⟩ := id hC
  obtain ⟨wP, wT, wL, wH, wU, wK, wX, wSn, wSb, wSx⟩ := id hW
  have c0' : h[0]? = some (.inr (5, [.ref 1, .int (nI (sTn s)), .ref 2, .ref 14, .ref kl, .ref ks, .ref 13, .ref 25, .ref 26, .ref 31, .int (nI (sSn s)), .int (nI (sSb s)), .int (nI (sSx s))])) := c0
  obtain ⟨f1, f2, f3, f4, f5, f6, f7, p0, ⟨p1, p2, p3, p4, p5, p6, p7⟩, e1, e2⟩ := id cP
  have hT8 := wP.2.2.1
  have hL6 := wP.2.2.2.1
  have hT31 : pT (sP s) < 2 ^ 31 := by omega
  have hL31 : pL (sP s) < 2 ^ 31 := by omega
  have hd := lt256 wH.1 hT8
  have hlv := lt64 wH.2.1 hL6
  have hkl : 3 < kl ∧ kl + 7 < 13 ∨ 16 < kl ∧ kl + 7 < 25 := by rcases hk with ⟨rfl, rfl⟩ | ⟨rfl, rfl⟩ <;> omega
  have hks : 3 < ks ∧ ks + 7 < 13 ∨ 16 < ks ∧ ks + 7 < 25 := by rcases hk with ⟨rfl, rfl⟩ | ⟨rfl, rfl⟩ <;> omega
  have hkk : kl + 7 < ks ∨ ks + 7 < kl := by rcases hk with ⟨rfl, rfl⟩ | ⟨rfl, rfl⟩ <;> omega
  obtain ⟨u0, -⟩ := id cU
  obtain ⟨v0, -⟩ := id cK
  have u0' : h[26]? = some (.inr (2, [.int (nI (sUn s)), .int (nI 8), .ref 27, .ref 28, .ref 29, .ref 30])) := u0
  have v0' : h[31]? = some (.inr (2, [.int (nI (sKn s)), .int (nI 2), .ref 32, .ref 33, .ref 34, .ref 35])) := v0
  have hs0 := set_get c0
  refine Spc.go VX5_keep (by decide +kernel) (fun _ => Nat.le_of_ble_eq_true rfl) (fun _ => false) 120 ?_
  simp only [nX5_keep, kX5_keep_0, kX5_keep_1, kX5_keep_4, kX5_keep_7, kX5_keep_8, kX5_keep_11, kX5_keep_13, kX5_keep_14, kX5_keep_15, kX5_keep_18, kX5_keep_19, kX5_keep_22, kX5_keep_25, kX5_keep_26, kX5_keep_29, kX5_keep_32, ex_1, ex_s, exo_some, xK, xKL, xLdI, xLdA, xLdL, xStI, xStA, xStL, xInc, xBin, xDiv, xBinL, xDivL, xLcmp, xI2l, xL2i, xI2c, xC_eq, xC_ne, xC_lt, xC_ge, xC_gt, xC_le, xZ_eq, xZ_ne, xZ_lt, xZ_ge, xZ_gt, xZ_le, xGo, xTsw, tsw, xDup, xDup2, xPop, xGf, xPfI, xPfR, xiaload, xcaload, xiastore, xcastore, xAlen, xRet, xRetZ, xRetV, xObj, xMmax, xMmin, xCallS, xCallV, xCallI, popN, cs, kont_some, kont_none, noL, not_false_eq_true, Nat.reduceEqDiff, Nat.reduceBEq, Nat.reduceAdd, Nat.reduceLT, Nat.reduceSub, ↓reduceIte, decide_eq_true_eq, Bool.false_eq_true, decide_false, decide_true, or_false, false_or, or_true, true_or, or_self, lsOf_int, lsOf_ref, lsOf_long, lsOf_nil, List.replicate_succ, List.replicate_zero, Nat.add_one_sub_one, List.getElem?_cons_zero, List.getElem?_cons_succ, List.set_cons_zero, List.set_cons_succ, List.length_cons, List.length_nil, cond_true, cond_false, Value.category, List.reverse_nil, List.reverse_cons, List.nil_append, List.cons_append, true_and, and_true, beq_self_eq_true, nI_add, pk_mul, nI_and, nI_or, nI_an, Nat.zero_le, Nat.reduceLeDiff, f_iadd, f_isub, f_imul, f_iand, f_ior, f_ixor, f_ishl, f_ishr, f_iushr, f_idiv, f_irem, f_ladd, f_lmul, f_lrem, true_implies, false_implies, not_true_eq_false, and_self, ss, Option.isSome_some, List.set_set, sn, sn0, s0n, c0', v0', nI_ltI (show sKn s < 2 ^ 31 by omega) (show 2 < 2 ^ 31 by decide)]
  refine ⟨fun z => ?_, fun z => ?_⟩
  · have hne : ¬ sKn s = 2 := by omega
    simp only [keepN, keepA, if_neg hne] at kk
    refine sp_add cK (by decide) cH (by decide) (fun h1 hp1 hf1 => ?_)
    have e : pushN 2 (sKn s) = sKn s + 1 := by simp [pushN, z]
    rw [e] at hp1
    have C1 := CA.kept ⟨c0, cT, cR, cC, cP, cQ, cH, cI, cU, cK⟩ hk hf1 hp1
    obtain ⟨d0, dT, dR, dC, dP, dQ, dH, dI, dU, ⟨dK, -⟩⟩ := id C1
    have d0' : h1[0]? = some (.inr (5, [.ref 1, .int (nI (sTn s)), .ref 2, .ref 14, .ref kl, .ref ks, .ref 13, .ref 25, .ref 26, .ref 31, .int (nI (sSn s)), .int (nI (sSb s)), .int (nI (sSx s))])) := d0
    have dK' : h1[31]? = some (.inr (2, [.int (nI (sKn s + 1)), .int (nI 2), .ref 32, .ref 33, .ref 34, .ref 35])) := dK
    simp only [nX5_keep, kX5_keep_0, kX5_keep_1, kX5_keep_4, kX5_keep_7, kX5_keep_8, kX5_keep_11, kX5_keep_13, kX5_keep_14, kX5_keep_15, kX5_keep_18, kX5_keep_19, kX5_keep_22, kX5_keep_25, kX5_keep_26, kX5_keep_29, kX5_keep_32, ex_1, ex_s, exo_some, xK, xKL, xLdI, xLdA, xLdL, xStI, xStA, xStL, xInc, xBin, xDiv, xBinL, xDivL, xLcmp, xI2l, xL2i, xI2c, xC_eq, xC_ne, xC_lt, xC_ge, xC_gt, xC_le, xZ_eq, xZ_ne, xZ_lt, xZ_ge, xZ_gt, xZ_le, xGo, xTsw, tsw, xDup, xDup2, xPop, xGf, xPfI, xPfR, xiaload, xcaload, xiastore, xcastore, xAlen, xRet, xRetZ, xRetV, xObj, xMmax, xMmin, xCallS, xCallV, xCallI, popN, cs, kont_some, kont_none, noL, not_false_eq_true, Nat.reduceEqDiff, Nat.reduceBEq, Nat.reduceAdd, Nat.reduceLT, Nat.reduceSub, ↓reduceIte, decide_eq_true_eq, Bool.false_eq_true, decide_false, decide_true, or_false, false_or, or_true, true_or, or_self, lsOf_int, lsOf_ref, lsOf_long, lsOf_nil, List.replicate_succ, List.replicate_zero, Nat.add_one_sub_one, List.getElem?_cons_zero, List.getElem?_cons_succ, List.set_cons_zero, List.set_cons_succ, List.length_cons, List.length_nil, cond_true, cond_false, Value.category, List.reverse_nil, List.reverse_cons, List.nil_append, List.cons_append, true_and, and_true, beq_self_eq_true, nI_add, pk_mul, nI_and, nI_or, nI_an, Nat.zero_le, Nat.reduceLeDiff, f_iadd, f_isub, f_imul, f_iand, f_ior, f_ixor, f_ishl, f_ishr, f_iushr, f_idiv, f_irem, f_ladd, f_lmul, f_lrem, true_implies, false_implies, not_true_eq_false, and_self, ss, Option.isSome_some, List.set_set, sn, sn0, s0n, d0', dK']
    exact kk _ ⟨kl, ks, P', r', hk, C1⟩
  · have hne : sKn s = 2 := by omega
    simp only [keepN, keepA, if_pos hne] at kk
    exact kk h hC
def backA (s : St) : Int32 := if sKn s = 0 then -2 else nI (sKn s - 1)
def backN (s : St) : St := if sKn s = 0 then s else wU (wK (wH s (sKf s (sKn s - 1))) (sKn s - 1) (sKf s)) 0 (sUf s)
theorem cl_back {s : St} {h : SH} {K : Option Value → SH → Prop} (hC : CAt h s) (hW : WfS s) (kk : ∀ h', CAt h' (backN s) → K (some (.int (backA s))) h') : Spc MX5_back [.ref 0] h K := by
  obtain ⟨kl, ks, P', r', hk, c0, cT, cR, cC, cP, cQ, cH, cI, cU, cK⟩ := id hC
  obtain ⟨wP, wT, wL, wH, wU, wK, wX, wSn, wSb, wSx⟩ := id hW
  have c0' : h[0]? = some (.inr (5, [.ref 1, .int (nI (sTn s)), .ref 2, .ref 14, .ref kl, .ref ks, .ref 13, .ref 25, .ref 26, .ref 31, .int (nI (sSn s)), .int (nI (sSb s)), .int (nI (sSx s))])) := c0
  obtain ⟨f1, f2, f3, f4, f5, f6, f7, p0, ⟨p1, p2, p3, p4, p5, p6, p7⟩, e1, e2⟩ := id cP
  have hT8 := wP.2.2.1
  have hL6 := wP.2.2.2.1
  have hT31 : pT (sP s) < 2 ^ 31 := by omega
  have hL31 : pL (sP s) < 2 ^ 31 := by omega
  have hd := lt256 wH.1 hT8
  have hlv := lt64 wH.2.1 hL6
  have hkl : 3 < kl ∧ kl + 7 < 13 ∨ 16 < kl ∧ kl + 7 < 25 := by rcases hk with ⟨rfl, rfl⟩ | ⟨rfl, rfl⟩ <;> omega
  have hks : 3 < ks ∧ ks + 7 < 13 ∨ 16 < ks ∧ ks + 7 < 25 := by rcases hk with ⟨rfl, rfl⟩ | ⟨rfl, rfl⟩ <;> omega
  have hkk : kl + 7 < ks ∨ ks + 7 < kl := by rcases hk with ⟨rfl, rfl⟩ | ⟨rfl, rfl⟩ <;> omega
  obtain ⟨u0, -⟩ := id cU
  obtain ⟨v0, -⟩ := id cK
  have u0' : h[26]? = some (.inr (2, [.int (nI (sUn s)), .int (nI 8), .ref 27, .ref 28, .ref 29, .ref 30])) := u0
  have v0' : h[31]? = some (.inr (2, [.int (nI (sKn s)), .int (nI 2), .ref 32, .ref 33, .ref 34, .ref 35])) := v0
  have hs0 := set_get c0
  refine Spc.go VX5_back (by decide +kernel) (fun _ => Nat.le_of_ble_eq_true rfl) (fun _ => false) 120 ?_
  simp only [nX5_back, kX5_back_0, kX5_back_1, kX5_back_4, kX5_back_7, kX5_back_10, kX5_back_12, kX5_back_13, kX5_back_14, kX5_back_17, kX5_back_18, kX5_back_21, kX5_back_24, kX5_back_25, kX5_back_28, kX5_back_31, kX5_back_32, kX5_back_35, kX5_back_38, ex_1, ex_s, exo_some, xK, xKL, xLdI, xLdA, xLdL, xStI, xStA, xStL, xInc, xBin, xDiv, xBinL, xDivL, xLcmp, xI2l, xL2i, xI2c, xC_eq, xC_ne, xC_lt, xC_ge, xC_gt, xC_le, xZ_eq, xZ_ne, xZ_lt, xZ_ge, xZ_gt, xZ_le, xGo, xTsw, tsw, xDup, xDup2, xPop, xGf, xPfI, xPfR, xiaload, xcaload, xiastore, xcastore, xAlen, xRet, xRetZ, xRetV, xObj, xMmax, xMmin, xCallS, xCallV, xCallI, popN, cs, kont_some, kont_none, noL, not_false_eq_true, Nat.reduceEqDiff, Nat.reduceBEq, Nat.reduceAdd, Nat.reduceLT, Nat.reduceSub, ↓reduceIte, decide_eq_true_eq, Bool.false_eq_true, decide_false, decide_true, or_false, false_or, or_true, true_or, or_self, lsOf_int, lsOf_ref, lsOf_long, lsOf_nil, List.replicate_succ, List.replicate_zero, Nat.add_one_sub_one, List.getElem?_cons_zero, List.getElem?_cons_succ, List.set_cons_zero, List.set_cons_succ, List.length_cons, List.length_nil, cond_true, cond_false, Value.category, List.reverse_nil, List.reverse_cons, List.nil_append, List.cons_append, true_and, and_true, beq_self_eq_true, nI_add, pk_mul, nI_and, nI_or, nI_an, Nat.zero_le, Nat.reduceLeDiff, f_iadd, f_isub, f_imul, f_iand, f_ior, f_ixor, f_ishl, f_ishr, f_iushr, f_idiv, f_irem, f_ladd, f_lmul, f_lrem, true_implies, false_implies, not_true_eq_false, and_self, ss, Option.isSome_some, List.set_set, sn, sn0, s0n, c0', v0', nI_z (show sKn s < 2 ^ 31 by omega)]
  refine ⟨fun z => ?_, fun z => ?_⟩
  · simp only [backN, backA, if_neg z] at kk
    refine sp_takeTop cK (by omega) cH (by decide) (fun h1 hp1 hr1 _ g => ?_)
    have C1 := CA.takeK ⟨c0, cT, cR, cC, cP, cQ, cH, cI, cU, cK⟩ hk g hp1 hr1
    obtain ⟨d0, dT, dR, dC, dP, dQ, dH, dI, dU, dK⟩ := id C1
    obtain ⟨dU0, -⟩ := id dU
    have d0' : h1[0]? = some (.inr (5, [.ref 1, .int (nI (sTn s)), .ref 2, .ref 14, .ref kl, .ref ks, .ref 13, .ref 25, .ref 26, .ref 31, .int (nI (sSn s)), .int (nI (sSb s)), .int (nI (sSx s))])) := d0
    have dU' : h1[26]? = some (.inr (2, [.int (nI (sUn s)), .int (nI 8), .ref 27, .ref 28, .ref 29, .ref 30])) := dU0
    simp only [nX5_back, kX5_back_0, kX5_back_1, kX5_back_4, kX5_back_7, kX5_back_10, kX5_back_12, kX5_back_13, kX5_back_14, kX5_back_17, kX5_back_18, kX5_back_21, kX5_back_24, kX5_back_25, kX5_back_28, kX5_back_31, kX5_back_32, kX5_back_35, kX5_back_38, ex_1, ex_s, exo_some, xK, xKL, xLdI, xLdA, xLdL, xStI, xStA, xStL, xInc, xBin, xDiv, xBinL, xDivL, xLcmp, xI2l, xL2i, xI2c, xC_eq, xC_ne, xC_lt, xC_ge, xC_gt, xC_le, xZ_eq, xZ_ne, xZ_lt, xZ_ge, xZ_gt, xZ_le, xGo, xTsw, tsw, xDup, xDup2, xPop, xGf, xPfI, xPfR, xiaload, xcaload, xiastore, xcastore, xAlen, xRet, xRetZ, xRetV, xObj, xMmax, xMmin, xCallS, xCallV, xCallI, popN, cs, kont_some, kont_none, noL, not_false_eq_true, Nat.reduceEqDiff, Nat.reduceBEq, Nat.reduceAdd, Nat.reduceLT, Nat.reduceSub, ↓reduceIte, decide_eq_true_eq, Bool.false_eq_true, decide_false, decide_true, or_false, false_or, or_true, true_or, or_self, lsOf_int, lsOf_ref, lsOf_long, lsOf_nil, List.replicate_succ, List.replicate_zero, Nat.add_one_sub_one, List.getElem?_cons_zero, List.getElem?_cons_succ, List.set_cons_zero, List.set_cons_succ, List.length_cons, List.length_nil, cond_true, cond_false, Value.category, List.reverse_nil, List.reverse_cons, List.nil_append, List.cons_append, true_and, and_true, beq_self_eq_true, nI_add, pk_mul, nI_and, nI_or, nI_an, Nat.zero_le, Nat.reduceLeDiff, f_iadd, f_isub, f_imul, f_iand, f_ior, f_ixor, f_ishl, f_ishr, f_iushr, f_idiv, f_irem, f_ladd, f_lmul, f_lrem, true_implies, false_implies, not_true_eq_false, and_self, ss, Option.isSome_some, List.set_set, sn, sn0, s0n, d0', dU']
    refine sp_empty dU (fun h2 hp2 hf2 => ?_)
    have C2 := CA.past C1 hk hf2 hp2
    obtain ⟨g0, -, -, -, -, -, -, -, -, ⟨gK, -⟩⟩ := id C2
    have g0' : h2[0]? = some (.inr (5, [.ref 1, .int (nI (sTn s)), .ref 2, .ref 14, .ref kl, .ref ks, .ref 13, .ref 25, .ref 26, .ref 31, .int (nI (sSn s)), .int (nI (sSb s)), .int (nI (sSx s))])) := g0
    have gK' : h2[31]? = some (.inr (2, [.int (nI (sKn s - 1)), .int (nI 2), .ref 32, .ref 33, .ref 34, .ref 35])) := gK
    simp only [nX5_back, kX5_back_0, kX5_back_1, kX5_back_4, kX5_back_7, kX5_back_10, kX5_back_12, kX5_back_13, kX5_back_14, kX5_back_17, kX5_back_18, kX5_back_21, kX5_back_24, kX5_back_25, kX5_back_28, kX5_back_31, kX5_back_32, kX5_back_35, kX5_back_38, ex_1, ex_s, exo_some, xK, xKL, xLdI, xLdA, xLdL, xStI, xStA, xStL, xInc, xBin, xDiv, xBinL, xDivL, xLcmp, xI2l, xL2i, xI2c, xC_eq, xC_ne, xC_lt, xC_ge, xC_gt, xC_le, xZ_eq, xZ_ne, xZ_lt, xZ_ge, xZ_gt, xZ_le, xGo, xTsw, tsw, xDup, xDup2, xPop, xGf, xPfI, xPfR, xiaload, xcaload, xiastore, xcastore, xAlen, xRet, xRetZ, xRetV, xObj, xMmax, xMmin, xCallS, xCallV, xCallI, popN, cs, kont_some, kont_none, noL, not_false_eq_true, Nat.reduceEqDiff, Nat.reduceBEq, Nat.reduceAdd, Nat.reduceLT, Nat.reduceSub, ↓reduceIte, decide_eq_true_eq, Bool.false_eq_true, decide_false, decide_true, or_false, false_or, or_true, true_or, or_self, lsOf_int, lsOf_ref, lsOf_long, lsOf_nil, List.replicate_succ, List.replicate_zero, Nat.add_one_sub_one, List.getElem?_cons_zero, List.getElem?_cons_succ, List.set_cons_zero, List.set_cons_succ, List.length_cons, List.length_nil, cond_true, cond_false, Value.category, List.reverse_nil, List.reverse_cons, List.nil_append, List.cons_append, true_and, and_true, beq_self_eq_true, nI_add, pk_mul, nI_and, nI_or, nI_an, Nat.zero_le, Nat.reduceLeDiff, f_iadd, f_isub, f_imul, f_iand, f_ior, f_ixor, f_ishl, f_ishr, f_iushr, f_idiv, f_irem, f_ladd, f_lmul, f_lrem, true_implies, false_implies, not_true_eq_false, and_self, ss, Option.isSome_some, List.set_set, sn, sn0, s0n, g0', gK']
    exact kk _ ⟨kl, ks, P', r', hk, C2⟩
  · simp only [backN, backA, if_pos z] at kk
    exact kk h hC
def rowA (s : St) (k : Int32) : Int32 := match argN k 7 with
  | none => -1
  | some j => rowN (sP s) (sH s) j
def rowNx (s : St) (_ : Int32) : St := s
theorem cl_row {s : St} {h : SH} {k : Int32} {K : Option Value → SH → Prop} (hC : CAt h s) (hW : WfS s) (kk : ∀ h', CAt h' (s) → K (some (.int (rowA s k))) h') : Spc MX5_row [.ref 0, .int k] h K := by
  obtain ⟨kl, ks, P', r', hk, c0, cT, cR, cC, cP, cQ, cH, cI, cU, cK⟩ := id hC
  obtain ⟨wP, wT, wL, wH, wU, wK, wX, wSn, wSb, wSx⟩ := id hW
  have c0' : h[0]? = some (.inr (5, [.ref 1, .int (nI (sTn s)), .ref 2, .ref 14, .ref kl, .ref ks, .ref 13, .ref 25, .ref 26, .ref 31, .int (nI (sSn s)), .int (nI (sSb s)), .int (nI (sSx s))])) := c0
  obtain ⟨f1, f2, f3, f4, f5, f6, f7, p0, ⟨p1, p2, p3, p4, p5, p6, p7⟩, e1, e2⟩ := id cP
  have hT8 := wP.2.2.1
  have hL6 := wP.2.2.2.1
  have hT31 : pT (sP s) < 2 ^ 31 := by omega
  have hL31 : pL (sP s) < 2 ^ 31 := by omega
  have hd := lt256 wH.1 hT8
  have hlv := lt64 wH.2.1 hL6
  have hkl : 3 < kl ∧ kl + 7 < 13 ∨ 16 < kl ∧ kl + 7 < 25 := by rcases hk with ⟨rfl, rfl⟩ | ⟨rfl, rfl⟩ <;> omega
  have hks : 3 < ks ∧ ks + 7 < 13 ∨ 16 < ks ∧ ks + 7 < 25 := by rcases hk with ⟨rfl, rfl⟩ | ⟨rfl, rfl⟩ <;> omega
  have hkk : kl + 7 < ks ∨ ks + 7 < kl := by rcases hk with ⟨rfl, rfl⟩ | ⟨rfl, rfl⟩ <;> omega
  obtain ⟨u0, -⟩ := id cU
  obtain ⟨v0, -⟩ := id cK
  have u0' : h[26]? = some (.inr (2, [.int (nI (sUn s)), .int (nI 8), .ref 27, .ref 28, .ref 29, .ref 30])) := u0
  have v0' : h[31]? = some (.inr (2, [.int (nI (sKn s)), .int (nI 2), .ref 32, .ref 33, .ref 34, .ref 35])) := v0
  have hs0 := set_get c0
  obtain ⟨cc0, -, -⟩ := id cC
  refine Spc.go VX5_row (by decide +kernel) (fun _ => Nat.le_of_ble_eq_true rfl) (fun _ => false) 120 ?_
  simp only [nX5_row, kX5_row_0, kX5_row_1, kX5_row_4, kX5_row_5, kX5_row_7, kX5_row_10, kX5_row_11, kX5_row_12, kX5_row_13, kX5_row_16, kX5_row_17, kX5_row_20, kX5_row_21, kX5_row_24, kX5_row_25, kX5_row_28, ex_1, ex_s, exo_some, xK, xKL, xLdI, xLdA, xLdL, xStI, xStA, xStL, xInc, xBin, xDiv, xBinL, xDivL, xLcmp, xI2l, xL2i, xI2c, xC_eq, xC_ne, xC_lt, xC_ge, xC_gt, xC_le, xZ_eq, xZ_ne, xZ_lt, xZ_ge, xZ_gt, xZ_le, xGo, xTsw, tsw, xDup, xDup2, xPop, xGf, xPfI, xPfR, xiaload, xcaload, xiastore, xcastore, xAlen, xRet, xRetZ, xRetV, xObj, xMmax, xMmin, xCallS, xCallV, xCallI, popN, cs, kont_some, kont_none, noL, not_false_eq_true, Nat.reduceEqDiff, Nat.reduceBEq, Nat.reduceAdd, Nat.reduceLT, Nat.reduceSub, ↓reduceIte, decide_eq_true_eq, Bool.false_eq_true, decide_false, decide_true, or_false, false_or, or_true, true_or, or_self, lsOf_int, lsOf_ref, lsOf_long, lsOf_nil, List.replicate_succ, List.replicate_zero, Nat.add_one_sub_one, List.getElem?_cons_zero, List.getElem?_cons_succ, List.set_cons_zero, List.set_cons_succ, List.length_cons, List.length_nil, cond_true, cond_false, Value.category, List.reverse_nil, List.reverse_cons, List.nil_append, List.cons_append, true_and, and_true, beq_self_eq_true, nI_add, pk_mul, nI_and, nI_or, nI_an, Nat.zero_le, Nat.reduceLeDiff, f_iadd, f_isub, f_imul, f_iand, f_ior, f_ixor, f_ishl, f_ishr, f_iushr, f_idiv, f_irem, f_ladd, f_lmul, f_lrem, true_implies, false_implies, not_true_eq_false, and_self, ss, Option.isSome_some, List.set_set, sn, sn0, s0n, c0', cc0]
  refine ⟨fun z => ?_, fun z => ⟨fun z2 => ?_, fun z2 => ?_⟩⟩
  · simp only [rowA, rng_lo z] at kk
    exact kk h hC
  · obtain ⟨j, hj, rfl, hq⟩ := rng_in (by decide) z (le_nlt z2)
    simp only [rowA, hq] at kk
    refine sp_longestRow cC cP wP cH wH (by decide) (by omega) hj (fun h1 hC1 hf1 => ?_)
    simp only [nX5_row, kX5_row_0, kX5_row_1, kX5_row_4, kX5_row_5, kX5_row_7, kX5_row_10, kX5_row_11, kX5_row_12, kX5_row_13, kX5_row_16, kX5_row_17, kX5_row_20, kX5_row_21, kX5_row_24, kX5_row_25, kX5_row_28, ex_1, ex_s, exo_some, xK, xKL, xLdI, xLdA, xLdL, xStI, xStA, xStL, xInc, xBin, xDiv, xBinL, xDivL, xLcmp, xI2l, xL2i, xI2c, xC_eq, xC_ne, xC_lt, xC_ge, xC_gt, xC_le, xZ_eq, xZ_ne, xZ_lt, xZ_ge, xZ_gt, xZ_le, xGo, xTsw, tsw, xDup, xDup2, xPop, xGf, xPfI, xPfR, xiaload, xcaload, xiastore, xcastore, xAlen, xRet, xRetZ, xRetV, xObj, xMmax, xMmin, xCallS, xCallV, xCallI, popN, cs, kont_some, kont_none, noL, not_false_eq_true, Nat.reduceEqDiff, Nat.reduceBEq, Nat.reduceAdd, Nat.reduceLT, Nat.reduceSub, ↓reduceIte, decide_eq_true_eq, Bool.false_eq_true, decide_false, decide_true, or_false, false_or, or_true, true_or, or_self, lsOf_int, lsOf_ref, lsOf_long, lsOf_nil, List.replicate_succ, List.replicate_zero, Nat.add_one_sub_one, List.getElem?_cons_zero, List.getElem?_cons_succ, List.set_cons_zero, List.set_cons_succ, List.length_cons, List.length_nil, cond_true, cond_false, Value.category, List.reverse_nil, List.reverse_cons, List.nil_append, List.cons_append, true_and, and_true, beq_self_eq_true, nI_add, pk_mul, nI_and, nI_or, nI_an, Nat.zero_le, Nat.reduceLeDiff, f_iadd, f_isub, f_imul, f_iand, f_ior, f_ixor, f_ishl, f_ishr, f_iushr, f_idiv, f_irem, f_ladd, f_lmul, f_lrem, true_implies, false_implies, not_true_eq_false, and_self, ss, Option.isSome_some, List.set_set, sn, sn0, s0n]
    exact kk _ ⟨kl, ks, P', r', hk, CA.couns ⟨c0, cT, cR, cC, cP, cQ, cH, cI, cU, cK⟩ hk hf1 hC1⟩
  · simp only [rowA, rng_hi (by decide) (nle_lt z2)] at kk
    exact kk h hC
def talkA (s : St) (what : Int32) : Int32 := match argN what 2 with
  | none => -1
  | some j => if j = 0 then (if livesN (sP s) (dr (sH s)) = 0 then -4 else nI (Lf (sP s) (livesN (sP s) (dr (sH s))) (livesN (sP s) (dr (sH s))))) else (if ones (livesN (sP s) (dr (sH s))) < 2 then -4 else oI (strk (sP s) (livesN (sP s) (dr (sH s))) (livesN (sP s) (dr (sH s)))))
theorem cl_talk {s : St} {h : SH} {what : Int32} {K : Option Value → SH → Prop} (hC : CAt h s) (hW : WfS s) (kk : ∀ h', CAt h' (s) → K (some (.int (talkA s what))) h') : Spc MX5_talk [.ref 0, .int what] h K := by
  obtain ⟨kl, ks, P', r', hk, c0, cT, cR, cC, cP, cQ, cH, cI, cU, cK⟩ := id hC
  obtain ⟨wP, wT, wL, wH, wU, wK, wX, wSn, wSb, wSx⟩ := id hW
  have c0' : h[0]? = some (.inr (5, [.ref 1, .int (nI (sTn s)), .ref 2, .ref 14, .ref kl, .ref ks, .ref 13, .ref 25, .ref 26, .ref 31, .int (nI (sSn s)), .int (nI (sSb s)), .int (nI (sSx s))])) := c0
  obtain ⟨f1, f2, f3, f4, f5, f6, f7, p0, ⟨p1, p2, p3, p4, p5, p6, p7⟩, e1, e2⟩ := id cP
  have hT8 := wP.2.2.1
  have hL6 := wP.2.2.2.1
  have hT31 : pT (sP s) < 2 ^ 31 := by omega
  have hL31 : pL (sP s) < 2 ^ 31 := by omega
  have hd := lt256 wH.1 hT8
  have hlv := lt64 wH.2.1 hL6
  have hkl : 3 < kl ∧ kl + 7 < 13 ∨ 16 < kl ∧ kl + 7 < 25 := by rcases hk with ⟨rfl, rfl⟩ | ⟨rfl, rfl⟩ <;> omega
  have hks : 3 < ks ∧ ks + 7 < 13 ∨ 16 < ks ∧ ks + 7 < 25 := by rcases hk with ⟨rfl, rfl⟩ | ⟨rfl, rfl⟩ <;> omega
  have hkk : kl + 7 < ks ∨ ks + 7 < kl := by rcases hk with ⟨rfl, rfl⟩ | ⟨rfl, rfl⟩ <;> omega
  obtain ⟨u0, -⟩ := id cU
  obtain ⟨v0, -⟩ := id cK
  have u0' : h[26]? = some (.inr (2, [.int (nI (sUn s)), .int (nI 8), .ref 27, .ref 28, .ref 29, .ref 30])) := u0
  have v0' : h[31]? = some (.inr (2, [.int (nI (sKn s)), .int (nI 2), .ref 32, .ref 33, .ref 34, .ref 35])) := v0
  have hs0 := set_get c0
  obtain ⟨cc0, -, -⟩ := id cC
  refine Spc.go VX5_talk (by decide +kernel) (fun _ => Nat.le_of_ble_eq_true rfl) (fun _ => false) 120 ?_
  simp only [nX5_talk, kX5_talk_0, kX5_talk_1, kX5_talk_4, kX5_talk_5, kX5_talk_6, kX5_talk_9, kX5_talk_10, kX5_talk_11, kX5_talk_12, kX5_talk_15, kX5_talk_16, kX5_talk_19, kX5_talk_22, kX5_talk_25, kX5_talk_26, kX5_talk_27, kX5_talk_30, kX5_talk_31, kX5_talk_34, kX5_talk_35, kX5_talk_38, kX5_talk_39, kX5_talk_42, kX5_talk_45, kX5_talk_46, kX5_talk_49, kX5_talk_50, kX5_talk_53, kX5_talk_54, kX5_talk_57, ex_1, ex_s, exo_some, xK, xKL, xLdI, xLdA, xLdL, xStI, xStA, xStL, xInc, xBin, xDiv, xBinL, xDivL, xLcmp, xI2l, xL2i, xI2c, xC_eq, xC_ne, xC_lt, xC_ge, xC_gt, xC_le, xZ_eq, xZ_ne, xZ_lt, xZ_ge, xZ_gt, xZ_le, xGo, xTsw, tsw, xDup, xDup2, xPop, xGf, xPfI, xPfR, xiaload, xcaload, xiastore, xcastore, xAlen, xRet, xRetZ, xRetV, xObj, xMmax, xMmin, xCallS, xCallV, xCallI, popN, cs, kont_some, kont_none, noL, not_false_eq_true, Nat.reduceEqDiff, Nat.reduceBEq, Nat.reduceAdd, Nat.reduceLT, Nat.reduceSub, ↓reduceIte, decide_eq_true_eq, Bool.false_eq_true, decide_false, decide_true, or_false, false_or, or_true, true_or, or_self, lsOf_int, lsOf_ref, lsOf_long, lsOf_nil, List.replicate_succ, List.replicate_zero, Nat.add_one_sub_one, List.getElem?_cons_zero, List.getElem?_cons_succ, List.set_cons_zero, List.set_cons_succ, List.length_cons, List.length_nil, cond_true, cond_false, Value.category, List.reverse_nil, List.reverse_cons, List.nil_append, List.cons_append, true_and, and_true, beq_self_eq_true, nI_add, pk_mul, nI_and, nI_or, nI_an, Nat.zero_le, Nat.reduceLeDiff, f_iadd, f_isub, f_imul, f_iand, f_ior, f_ixor, f_ishl, f_ishr, f_iushr, f_idiv, f_irem, f_ladd, f_lmul, f_lrem, true_implies, false_implies, not_true_eq_false, and_self, ss, Option.isSome_some, List.set_set, sn, sn0, s0n, c0', cc0, p0, cH, hrC]
  refine ⟨fun z => ?_, fun z => ⟨fun z2 => ?_, fun z2 => ?_⟩⟩
  · simp only [talkA, rng_lo z] at kk
    exact kk h hC
  · obtain ⟨j, hj, rfl, hq⟩ := rng_in (n := 1) (by decide) z (le_nlt z2)
    simp only [talkA, hq] at kk
    refine sp_livesBy cP wP hd ?_
    simp only [nX5_talk, kX5_talk_0, kX5_talk_1, kX5_talk_4, kX5_talk_5, kX5_talk_6, kX5_talk_9, kX5_talk_10, kX5_talk_11, kX5_talk_12, kX5_talk_15, kX5_talk_16, kX5_talk_19, kX5_talk_22, kX5_talk_25, kX5_talk_26, kX5_talk_27, kX5_talk_30, kX5_talk_31, kX5_talk_34, kX5_talk_35, kX5_talk_38, kX5_talk_39, kX5_talk_42, kX5_talk_45, kX5_talk_46, kX5_talk_49, kX5_talk_50, kX5_talk_53, kX5_talk_54, kX5_talk_57, ex_1, ex_s, exo_some, xK, xKL, xLdI, xLdA, xLdL, xStI, xStA, xStL, xInc, xBin, xDiv, xBinL, xDivL, xLcmp, xI2l, xL2i, xI2c, xC_eq, xC_ne, xC_lt, xC_ge, xC_gt, xC_le, xZ_eq, xZ_ne, xZ_lt, xZ_ge, xZ_gt, xZ_le, xGo, xTsw, tsw, xDup, xDup2, xPop, xGf, xPfI, xPfR, xiaload, xcaload, xiastore, xcastore, xAlen, xRet, xRetZ, xRetV, xObj, xMmax, xMmin, xCallS, xCallV, xCallI, popN, cs, kont_some, kont_none, noL, not_false_eq_true, Nat.reduceEqDiff, Nat.reduceBEq, Nat.reduceAdd, Nat.reduceLT, Nat.reduceSub, ↓reduceIte, decide_eq_true_eq, Bool.false_eq_true, decide_false, decide_true, or_false, false_or, or_true, true_or, or_self, lsOf_int, lsOf_ref, lsOf_long, lsOf_nil, List.replicate_succ, List.replicate_zero, Nat.add_one_sub_one, List.getElem?_cons_zero, List.getElem?_cons_succ, List.set_cons_zero, List.set_cons_succ, List.length_cons, List.length_nil, cond_true, cond_false, Value.category, List.reverse_nil, List.reverse_cons, List.nil_append, List.cons_append, true_and, and_true, beq_self_eq_true, nI_add, pk_mul, nI_and, nI_or, nI_an, Nat.zero_le, Nat.reduceLeDiff, f_iadd, f_isub, f_imul, f_iand, f_ior, f_ixor, f_ishl, f_ishr, f_iushr, f_idiv, f_irem, f_ladd, f_lmul, f_lrem, true_implies, false_implies, not_true_eq_false, and_self, ss, Option.isSome_some, List.set_set, sn, sn0, s0n, c0', cc0, nI_z (show j < 2 ^ 31 by omega)]
    refine ⟨fun q => ?_, fun q => ?_⟩
    · simp only [if_neg q] at kk
      refine sp_struckFirst cC cP wP (by omega) (mkb_lt _ _) (fun h1 hC1 hf1 => ?_)
      simp only [nX5_talk, kX5_talk_0, kX5_talk_1, kX5_talk_4, kX5_talk_5, kX5_talk_6, kX5_talk_9, kX5_talk_10, kX5_talk_11, kX5_talk_12, kX5_talk_15, kX5_talk_16, kX5_talk_19, kX5_talk_22, kX5_talk_25, kX5_talk_26, kX5_talk_27, kX5_talk_30, kX5_talk_31, kX5_talk_34, kX5_talk_35, kX5_talk_38, kX5_talk_39, kX5_talk_42, kX5_talk_45, kX5_talk_46, kX5_talk_49, kX5_talk_50, kX5_talk_53, kX5_talk_54, kX5_talk_57, ex_1, ex_s, exo_some, xK, xKL, xLdI, xLdA, xLdL, xStI, xStA, xStL, xInc, xBin, xDiv, xBinL, xDivL, xLcmp, xI2l, xL2i, xI2c, xC_eq, xC_ne, xC_lt, xC_ge, xC_gt, xC_le, xZ_eq, xZ_ne, xZ_lt, xZ_ge, xZ_gt, xZ_le, xGo, xTsw, tsw, xDup, xDup2, xPop, xGf, xPfI, xPfR, xiaload, xcaload, xiastore, xcastore, xAlen, xRet, xRetZ, xRetV, xObj, xMmax, xMmin, xCallS, xCallV, xCallI, popN, cs, kont_some, kont_none, noL, not_false_eq_true, Nat.reduceEqDiff, Nat.reduceBEq, Nat.reduceAdd, Nat.reduceLT, Nat.reduceSub, ↓reduceIte, decide_eq_true_eq, Bool.false_eq_true, decide_false, decide_true, or_false, false_or, or_true, true_or, or_self, lsOf_int, lsOf_ref, lsOf_long, lsOf_nil, List.replicate_succ, List.replicate_zero, Nat.add_one_sub_one, List.getElem?_cons_zero, List.getElem?_cons_succ, List.set_cons_zero, List.set_cons_succ, List.length_cons, List.length_nil, cond_true, cond_false, Value.category, List.reverse_nil, List.reverse_cons, List.nil_append, List.cons_append, true_and, and_true, beq_self_eq_true, nI_add, pk_mul, nI_and, nI_or, nI_an, Nat.zero_le, Nat.reduceLeDiff, f_iadd, f_isub, f_imul, f_iand, f_ior, f_ixor, f_ishl, f_ishr, f_iushr, f_idiv, f_irem, f_ladd, f_lmul, f_lrem, true_implies, false_implies, not_true_eq_false, and_self, ss, Option.isSome_some, List.set_set, sn, sn0, s0n]
      exact kk _ ⟨kl, ks, P', r', hk, CA.couns ⟨c0, cT, cR, cC, cP, cQ, cH, cI, cU, cK⟩ hk hf1 hC1⟩
    · simp only [if_pos q] at kk
      refine sp_leftByTalk cC cP wP (by omega) (mkb_lt _ _) (fun h1 hC1 hf1 => ?_)
      simp only [nX5_talk, kX5_talk_0, kX5_talk_1, kX5_talk_4, kX5_talk_5, kX5_talk_6, kX5_talk_9, kX5_talk_10, kX5_talk_11, kX5_talk_12, kX5_talk_15, kX5_talk_16, kX5_talk_19, kX5_talk_22, kX5_talk_25, kX5_talk_26, kX5_talk_27, kX5_talk_30, kX5_talk_31, kX5_talk_34, kX5_talk_35, kX5_talk_38, kX5_talk_39, kX5_talk_42, kX5_talk_45, kX5_talk_46, kX5_talk_49, kX5_talk_50, kX5_talk_53, kX5_talk_54, kX5_talk_57, ex_1, ex_s, exo_some, xK, xKL, xLdI, xLdA, xLdL, xStI, xStA, xStL, xInc, xBin, xDiv, xBinL, xDivL, xLcmp, xI2l, xL2i, xI2c, xC_eq, xC_ne, xC_lt, xC_ge, xC_gt, xC_le, xZ_eq, xZ_ne, xZ_lt, xZ_ge, xZ_gt, xZ_le, xGo, xTsw, tsw, xDup, xDup2, xPop, xGf, xPfI, xPfR, xiaload, xcaload, xiastore, xcastore, xAlen, xRet, xRetZ, xRetV, xObj, xMmax, xMmin, xCallS, xCallV, xCallI, popN, cs, kont_some, kont_none, noL, not_false_eq_true, Nat.reduceEqDiff, Nat.reduceBEq, Nat.reduceAdd, Nat.reduceLT, Nat.reduceSub, ↓reduceIte, decide_eq_true_eq, Bool.false_eq_true, decide_false, decide_true, or_false, false_or, or_true, true_or, or_self, lsOf_int, lsOf_ref, lsOf_long, lsOf_nil, List.replicate_succ, List.replicate_zero, Nat.add_one_sub_one, List.getElem?_cons_zero, List.getElem?_cons_succ, List.set_cons_zero, List.set_cons_succ, List.length_cons, List.length_nil, cond_true, cond_false, Value.category, List.reverse_nil, List.reverse_cons, List.nil_append, List.cons_append, true_and, and_true, beq_self_eq_true, nI_add, pk_mul, nI_and, nI_or, nI_an, Nat.zero_le, Nat.reduceLeDiff, f_iadd, f_isub, f_imul, f_iand, f_ior, f_ixor, f_ishl, f_ishr, f_iushr, f_idiv, f_irem, f_ladd, f_lmul, f_lrem, true_implies, false_implies, not_true_eq_false, and_self, ss, Option.isSome_some, List.set_set, sn, sn0, s0n]
      exact kk _ ⟨kl, ks, P', r', hk, CA.couns ⟨c0, cT, cR, cC, cP, cQ, cH, cI, cU, cK⟩ hk hf1 hC1⟩
  · simp only [talkA, rng_hi (n := 1) (by decide) (nle_lt z2)] at kk
    exact kk h hC
def meantS (s : St) : Int32 := nI (mkb (fun l => decide (an (sSb s) (nd (sP s) l) = 0) && decide (sSx s &&& nd (sP s) l = 0)) (pL (sP s)))
theorem cl_meant {s : St} {h : SH} {K : Option Value → SH → Prop} (hC : CAt h s) (hW : WfS s) (kk : K (some (.int (meantS s))) h) : Spc MX5_meant [.ref 0] h K := by
  obtain ⟨kl, ks, P', r', hk, c0, cT, cR, cC, cP, cQ, cH, cI, cU, cK⟩ := id hC
  obtain ⟨wP, wT, wL, wH, wU, wK, wX, wSn, wSb, wSx⟩ := id hW
  have c0' : h[0]? = some (.inr (5, [.ref 1, .int (nI (sTn s)), .ref 2, .ref 14, .ref kl, .ref ks, .ref 13, .ref 25, .ref 26, .ref 31, .int (nI (sSn s)), .int (nI (sSb s)), .int (nI (sSx s))])) := c0
  obtain ⟨f1, f2, f3, f4, f5, f6, f7, p0, ⟨p1, p2, p3, p4, p5, p6, p7⟩, e1, e2⟩ := id cP
  have hT8 := wP.2.2.1
  have hL6 := wP.2.2.2.1
  have hT31 : pT (sP s) < 2 ^ 31 := by omega
  have hL31 : pL (sP s) < 2 ^ 31 := by omega
  have hd := lt256 wH.1 hT8
  have hlv := lt64 wH.2.1 hL6
  have hkl : 3 < kl ∧ kl + 7 < 13 ∨ 16 < kl ∧ kl + 7 < 25 := by rcases hk with ⟨rfl, rfl⟩ | ⟨rfl, rfl⟩ <;> omega
  have hks : 3 < ks ∧ ks + 7 < 13 ∨ 16 < ks ∧ ks + 7 < 25 := by rcases hk with ⟨rfl, rfl⟩ | ⟨rfl, rfl⟩ <;> omega
  have hkk : kl + 7 < ks ∨ ks + 7 < kl := by rcases hk with ⟨rfl, rfl⟩ | ⟨rfl, rfl⟩ <;> omega
  obtain ⟨u0, -⟩ := id cU
  obtain ⟨v0, -⟩ := id cK
  have u0' : h[26]? = some (.inr (2, [.int (nI (sUn s)), .int (nI 8), .ref 27, .ref 28, .ref 29, .ref 30])) := u0
  have v0' : h[31]? = some (.inr (2, [.int (nI (sKn s)), .int (nI 2), .ref 32, .ref 33, .ref 34, .ref 35])) := v0
  have hs0 := set_get c0
  have hb256 := lt256 wSb hT8
  have hx256 := lt256 wSx hT8
  have loop := loopN (P := fun l => ∀ o, SW MX5_meant K 0 0 4 [some (.ref 0), some (.int (nI (mkb (fun l => decide (an (sSb s) (nd (sP s) l) = 0) && decide (sSx s &&& nd (sP s) l = 0)) l))), some (.int (nI l)), o] [] h) (pL (sP s)) (by
      intro o
      refine SW.go VX5_meant (Nat.zero_le _) (Nat.zero_le _) (fun q => decide (q = 4)) 120 ?_
      simp only [nX5_meant, kX5_meant_0, kX5_meant_1, kX5_meant_2, kX5_meant_3, kX5_meant_4, kX5_meant_5, kX5_meant_6, kX5_meant_9, kX5_meant_12, kX5_meant_15, kX5_meant_16, kX5_meant_19, kX5_meant_22, kX5_meant_23, kX5_meant_26, kX5_meant_27, kX5_meant_28, kX5_meant_31, kX5_meant_32, kX5_meant_33, kX5_meant_34, kX5_meant_35, kX5_meant_38, kX5_meant_39, kX5_meant_42, kX5_meant_43, kX5_meant_44, kX5_meant_47, kX5_meant_48, kX5_meant_49, kX5_meant_50, kX5_meant_51, kX5_meant_52, kX5_meant_53, kX5_meant_56, kX5_meant_59, kX5_meant_60, ex_1, ex_s, exo_some, xK, xKL, xLdI, xLdA, xLdL, xStI, xStA, xStL, xInc, xBin, xDiv, xBinL, xDivL, xLcmp, xI2l, xL2i, xI2c, xC_eq, xC_ne, xC_lt, xC_ge, xC_gt, xC_le, xZ_eq, xZ_ne, xZ_lt, xZ_ge, xZ_gt, xZ_le, xGo, xTsw, tsw, xDup, xDup2, xPop, xGf, xPfI, xPfR, xiaload, xcaload, xiastore, xcastore, xAlen, xRet, xRetZ, xRetV, xObj, xMmax, xMmin, xCallS, xCallV, xCallI, popN, cs, kont_some, kont_none, noL, not_false_eq_true, Nat.reduceEqDiff, Nat.reduceBEq, Nat.reduceAdd, Nat.reduceLT, Nat.reduceSub, ↓reduceIte, decide_eq_true_eq, Bool.false_eq_true, decide_false, decide_true, or_false, false_or, or_true, true_or, or_self, lsOf_int, lsOf_ref, lsOf_long, lsOf_nil, List.replicate_succ, List.replicate_zero, Nat.add_one_sub_one, List.getElem?_cons_zero, List.getElem?_cons_succ, List.set_cons_zero, List.set_cons_succ, List.length_cons, List.length_nil, cond_true, cond_false, Value.category, List.reverse_nil, List.reverse_cons, List.nil_append, List.cons_append, true_and, and_true, beq_self_eq_true, nI_add, pk_mul, nI_and, nI_or, nI_an, Nat.zero_le, Nat.reduceLeDiff, f_iadd, f_isub, f_imul, f_iand, f_ior, f_ixor, f_ishl, f_ishr, f_iushr, f_idiv, f_irem, f_ladd, f_lmul, f_lrem, c0', p0, nI_leI hL31 hL31]
      exact ⟨fun _ => kk, fun q => absurd (Nat.le_refl _) q⟩) (fun l hl ih => by
      intro o
      have hl2 : l < 2 ^ 31 := by omega
      have w := lt256 (wP.2.2.2.2.2 l hl).2.2.2 hT8
      have ha : an (sSb s) (nd (sP s) l) < 2 ^ 31 := by have := an256 (b := nd (sP s) l) hb256; omega
      have hb : sSx s &&& nd (sP s) l < 2 ^ 31 := by have := and256 (b := nd (sP s) l) hx256; omega
      rw [mkb] at ih
      refine SW.go VX5_meant (Nat.zero_le _) (Nat.zero_le _) (fun q => decide (q = 4)) 120 ?_
      simp only [nX5_meant, kX5_meant_0, kX5_meant_1, kX5_meant_2, kX5_meant_3, kX5_meant_4, kX5_meant_5, kX5_meant_6, kX5_meant_9, kX5_meant_12, kX5_meant_15, kX5_meant_16, kX5_meant_19, kX5_meant_22, kX5_meant_23, kX5_meant_26, kX5_meant_27, kX5_meant_28, kX5_meant_31, kX5_meant_32, kX5_meant_33, kX5_meant_34, kX5_meant_35, kX5_meant_38, kX5_meant_39, kX5_meant_42, kX5_meant_43, kX5_meant_44, kX5_meant_47, kX5_meant_48, kX5_meant_49, kX5_meant_50, kX5_meant_51, kX5_meant_52, kX5_meant_53, kX5_meant_56, kX5_meant_59, kX5_meant_60, ex_1, ex_s, exo_some, xK, xKL, xLdI, xLdA, xLdL, xStI, xStA, xStL, xInc, xBin, xDiv, xBinL, xDivL, xLcmp, xI2l, xL2i, xI2c, xC_eq, xC_ne, xC_lt, xC_ge, xC_gt, xC_le, xZ_eq, xZ_ne, xZ_lt, xZ_ge, xZ_gt, xZ_le, xGo, xTsw, tsw, xDup, xDup2, xPop, xGf, xPfI, xPfR, xiaload, xcaload, xiastore, xcastore, xAlen, xRet, xRetZ, xRetV, xObj, xMmax, xMmin, xCallS, xCallV, xCallI, popN, cs, kont_some, kont_none, noL, not_false_eq_true, Nat.reduceEqDiff, Nat.reduceBEq, Nat.reduceAdd, Nat.reduceLT, Nat.reduceSub, ↓reduceIte, decide_eq_true_eq, Bool.false_eq_true, decide_false, decide_true, or_false, false_or, or_true, true_or, or_self, lsOf_int, lsOf_ref, lsOf_long, lsOf_nil, List.replicate_succ, List.replicate_zero, Nat.add_one_sub_one, List.getElem?_cons_zero, List.getElem?_cons_succ, List.set_cons_zero, List.set_cons_succ, List.length_cons, List.length_nil, cond_true, cond_false, Value.category, List.reverse_nil, List.reverse_cons, List.nil_append, List.cons_append, true_and, and_true, beq_self_eq_true, nI_add, pk_mul, nI_and, nI_or, nI_an, Nat.zero_le, Nat.reduceLeDiff, f_iadd, f_isub, f_imul, f_iand, f_ior, f_ixor, f_ishl, f_ishr, f_iushr, f_idiv, f_irem, f_ladd, f_lmul, f_lrem, c0', p0, nI_leI hL31 hl2]
      refine ⟨fun q => absurd q (by omega), fun _ => sp_at p7 (show l < 6 by omega) (by decide) ?_⟩
      simp only [nX5_meant, kX5_meant_0, kX5_meant_1, kX5_meant_2, kX5_meant_3, kX5_meant_4, kX5_meant_5, kX5_meant_6, kX5_meant_9, kX5_meant_12, kX5_meant_15, kX5_meant_16, kX5_meant_19, kX5_meant_22, kX5_meant_23, kX5_meant_26, kX5_meant_27, kX5_meant_28, kX5_meant_31, kX5_meant_32, kX5_meant_33, kX5_meant_34, kX5_meant_35, kX5_meant_38, kX5_meant_39, kX5_meant_42, kX5_meant_43, kX5_meant_44, kX5_meant_47, kX5_meant_48, kX5_meant_49, kX5_meant_50, kX5_meant_51, kX5_meant_52, kX5_meant_53, kX5_meant_56, kX5_meant_59, kX5_meant_60, ex_1, ex_s, exo_some, xK, xKL, xLdI, xLdA, xLdL, xStI, xStA, xStL, xInc, xBin, xDiv, xBinL, xDivL, xLcmp, xI2l, xL2i, xI2c, xC_eq, xC_ne, xC_lt, xC_ge, xC_gt, xC_le, xZ_eq, xZ_ne, xZ_lt, xZ_ge, xZ_gt, xZ_le, xGo, xTsw, tsw, xDup, xDup2, xPop, xGf, xPfI, xPfR, xiaload, xcaload, xiastore, xcastore, xAlen, xRet, xRetZ, xRetV, xObj, xMmax, xMmin, xCallS, xCallV, xCallI, popN, cs, kont_some, kont_none, noL, not_false_eq_true, Nat.reduceEqDiff, Nat.reduceBEq, Nat.reduceAdd, Nat.reduceLT, Nat.reduceSub, ↓reduceIte, decide_eq_true_eq, Bool.false_eq_true, decide_false, decide_true, or_false, false_or, or_true, true_or, or_self, lsOf_int, lsOf_ref, lsOf_long, lsOf_nil, List.replicate_succ, List.replicate_zero, Nat.add_one_sub_one, List.getElem?_cons_zero, List.getElem?_cons_succ, List.set_cons_zero, List.set_cons_succ, List.length_cons, List.length_nil, cond_true, cond_false, Value.category, List.reverse_nil, List.reverse_cons, List.nil_append, List.cons_append, true_and, and_true, beq_self_eq_true, nI_add, pk_mul, nI_and, nI_or, nI_an, Nat.zero_le, Nat.reduceLeDiff, f_iadd, f_isub, f_imul, f_iand, f_ior, f_ixor, f_ishl, f_ishr, f_iushr, f_idiv, f_irem, f_ladd, f_lmul, f_lrem, c0', p0, (e2 l hl).2.2.2, nI_z ha, nI_z hb, nI_shl1 (show l < 31 by omega)]
      refine ⟨fun q => ?_, fun q => ⟨fun q2 => ?_, fun q2 => ?_⟩⟩
      · simp only [decide_eq_false q, Bool.false_and, Bool.toNat_false, Nat.zero_mul, Nat.or_zero] at ih
        exact ih _
      · simp only [decide_eq_false q2, Bool.and_false, Bool.toNat_false, Nat.zero_mul, Nat.or_zero] at ih
        exact ih _
      · simp only [decide_eq_true q, decide_eq_true q2, Bool.and_self, Bool.toNat_true, Nat.one_mul] at ih
        exact ih _)
  refine Spc.go VX5_meant (by decide +kernel) (fun _ => Nat.le_of_ble_eq_true rfl) (fun q => decide (q = 4)) 120 ?_
  simp only [nX5_meant, kX5_meant_0, kX5_meant_1, kX5_meant_2, kX5_meant_3, kX5_meant_4, kX5_meant_5, kX5_meant_6, kX5_meant_9, kX5_meant_12, kX5_meant_15, kX5_meant_16, kX5_meant_19, kX5_meant_22, kX5_meant_23, kX5_meant_26, kX5_meant_27, kX5_meant_28, kX5_meant_31, kX5_meant_32, kX5_meant_33, kX5_meant_34, kX5_meant_35, kX5_meant_38, kX5_meant_39, kX5_meant_42, kX5_meant_43, kX5_meant_44, kX5_meant_47, kX5_meant_48, kX5_meant_49, kX5_meant_50, kX5_meant_51, kX5_meant_52, kX5_meant_53, kX5_meant_56, kX5_meant_59, kX5_meant_60, ex_1, ex_s, exo_some, xK, xKL, xLdI, xLdA, xLdL, xStI, xStA, xStL, xInc, xBin, xDiv, xBinL, xDivL, xLcmp, xI2l, xL2i, xI2c, xC_eq, xC_ne, xC_lt, xC_ge, xC_gt, xC_le, xZ_eq, xZ_ne, xZ_lt, xZ_ge, xZ_gt, xZ_le, xGo, xTsw, tsw, xDup, xDup2, xPop, xGf, xPfI, xPfR, xiaload, xcaload, xiastore, xcastore, xAlen, xRet, xRetZ, xRetV, xObj, xMmax, xMmin, xCallS, xCallV, xCallI, popN, cs, kont_some, kont_none, noL, not_false_eq_true, Nat.reduceEqDiff, Nat.reduceBEq, Nat.reduceAdd, Nat.reduceLT, Nat.reduceSub, ↓reduceIte, decide_eq_true_eq, Bool.false_eq_true, decide_false, decide_true, or_false, false_or, or_true, true_or, or_self, lsOf_int, lsOf_ref, lsOf_long, lsOf_nil, List.replicate_succ, List.replicate_zero, Nat.add_one_sub_one, List.getElem?_cons_zero, List.getElem?_cons_succ, List.set_cons_zero, List.set_cons_succ, List.length_cons, List.length_nil, cond_true, cond_false, Value.category, List.reverse_nil, List.reverse_cons, List.nil_append, List.cons_append, true_and, and_true, beq_self_eq_true, nI_add, pk_mul, nI_and, nI_or, nI_an, Nat.zero_le, Nat.reduceLeDiff, f_iadd, f_isub, f_imul, f_iand, f_ior, f_ixor, f_ishl, f_ishr, f_iushr, f_idiv, f_irem, f_ladd, f_lmul, f_lrem, c0']
  exact loop 0 (Nat.zero_le _) _
