/-! ===== what changes the state ===== -/
theorem ne0 {h : SH} {j : Nat} (hj : 0 < j) (c : SCell) : (h.set 0 c)[j]? = h[j]? := List.getElem?_set_ne (by omega)
def wH (s : St) (r : Hr) : St := (s.1, r, s.2.2)
def wU (s : St) (n : Nat) (p : Nat → Hr) : St := (s.1, s.2.1, (n, p), s.2.2.2)
def wK (s : St) (n : Nat) (p : Nat → Hr) : St := (s.1, s.2.1, s.2.2.1, (n, p), s.2.2.2.2)
section
variable {h h' : SH} {s s' : St} {kl ks : Nat} {P' : Pl} {r' : Hr}
theorem CA.low (C : CA h s kl ks P' r') (hk : kks kl ks) (hf : Fr 0 1 h h') (h0 : h'[0]? = some (objC s' kl ks)) (ht : TxAt h' (sTn s') (sTf s')) (hs : s'.1 = s.1 ∧ s'.2.1 = s.2.1 ∧ s'.2.2.1 = s.2.2.1 ∧ s'.2.2.2.1 = s.2.2.2.1) : CA h' s' kl ks P' r' := by
  obtain ⟨c0, cT, cR, cC, cP, cQ, cH, cI, cU, cK⟩ := C
  obtain ⟨e1, e2, e3, e4⟩ := hs
  have hkl : 1 < kl ∧ 1 < ks := by rcases hk with ⟨rfl, rfl⟩ | ⟨rfl, rfl⟩ <;> decide
  refine ⟨h0, ht, cR.fr hf (by omega), cC.fr hf (by omega), ?_, cQ.fr hf (by omega), ?_, (hf.2 _ (by omega)).trans cI, ?_, ?_⟩
  · simp only [sP, e1]; exact cP.fr hf (by omega)
  · simp only [sH, e2]; exact (hf.2 _ (by omega)).trans cH
  · simp only [sUn, sUf, e3]; exact cU.fr hf (by omega)
  · simp only [sKn, sKf, e4]; exact cK.fr hf (by omega)
theorem CA.hour (C : CA h s kl ks P' r') (hk : kks kl ks) (r : Hr) : CA (h.set 13 (hrC r)) (wH s r) kl ks P' r' := by
  obtain ⟨c0, cT, cR, cC, cP, cQ, cH, cI, cU, cK⟩ := C
  have hf : Fr 13 13 h (h.set 13 (hrC r)) := Fr.one _
  have hkl : (kl + 7 < 13 ∨ 13 < kl) ∧ (ks + 7 < 13 ∨ 13 < ks) := by rcases hk with ⟨rfl, rfl⟩ | ⟨rfl, rfl⟩ <;> decide
  exact ⟨(hf.2 _ (by omega)).trans c0, cT.fr hf (by omega), cR.fr hf (by omega), cC.fr hf (by omega), cP.fr hf (by omega), cQ.fr hf (by omega), set_get cH _, (hf.2 _ (by omega)).trans cI, cU.fr hf (by omega), cK.fr hf (by omega)⟩
theorem CA.past {n : Nat} {p : Nat → Hr} (C : CA h s kl ks P' r') (hk : kks kl ks) (hf : Fr 26 30 h h') (hp : PileAt h' 26 8 n p) : CA h' (wU s n p) kl ks P' r' := by
  obtain ⟨c0, cT, cR, cC, cP, cQ, cH, cI, cU, cK⟩ := C
  have hkl : kl + 7 < 26 ∧ ks + 7 < 26 := by rcases hk with ⟨rfl, rfl⟩ | ⟨rfl, rfl⟩ <;> decide
  exact ⟨(hf.2 _ (by omega)).trans c0, cT.fr hf (by omega), cR.fr hf (by omega), cC.fr hf (by omega), cP.fr hf (by omega), cQ.fr hf (by omega), (hf.2 _ (by omega)).trans cH, (hf.2 _ (by omega)).trans cI, hp, cK.fr hf (by omega)⟩
theorem CA.kept {n : Nat} {p : Nat → Hr} (C : CA h s kl ks P' r') (hk : kks kl ks) (hf : Fr 31 35 h h') (hp : PileAt h' 31 2 n p) : CA h' (wK s n p) kl ks P' r' := by
  obtain ⟨c0, cT, cR, cC, cP, cQ, cH, cI, cU, cK⟩ := C
  have hkl : kl + 7 < 26 ∧ ks + 7 < 26 := by rcases hk with ⟨rfl, rfl⟩ | ⟨rfl, rfl⟩ <;> decide
  exact ⟨(hf.2 _ (by omega)).trans c0, cT.fr hf (by omega), cR.fr hf (by omega), cC.fr hf (by omega), cP.fr hf (by omega), cQ.fr hf (by omega), (hf.2 _ (by omega)).trans cH, (hf.2 _ (by omega)).trans cI, cU.fr hf (by omega), hp⟩
theorem CA.thn (C : CA h s kl ks P' r') (hk : kks kl ks) (r : Hr) : CA (h.set 25 (hrC r)) s kl ks P' r := by
  obtain ⟨c0, cT, cR, cC, cP, cQ, cH, cI, cU, cK⟩ := C
  have hf : Fr 25 25 h (h.set 25 (hrC r)) := Fr.one _
  have hkl : (kl + 7 < 25) ∧ (ks + 7 < 25) := by rcases hk with ⟨rfl, rfl⟩ | ⟨rfl, rfl⟩ <;> decide
  exact ⟨(hf.2 _ (by omega)).trans c0, cT.fr hf (by omega), cR.fr hf (by omega), cC.fr hf (by omega), cP.fr hf (by omega), cQ.fr hf (by omega), (hf.2 _ (by omega)).trans cH, set_get cI _, cU.fr hf (by omega), cK.fr hf (by omega)⟩
theorem CA.couns (C : CA h s kl ks P' r') (hk : kks kl ks) (hf : Fr 14 16 h h') (hc : CounselAt h' 14) : CA h' s kl ks P' r' := by
  obtain ⟨c0, cT, cR, cC, cP, cQ, cH, cI, cU, cK⟩ := C
  have hkl : (kl + 7 < 14 ∨ 16 < kl) ∧ (ks + 7 < 14 ∨ 16 < ks) := by rcases hk with ⟨rfl, rfl⟩ | ⟨rfl, rfl⟩ <;> decide
  exact ⟨(hf.2 _ (by omega)).trans c0, cT.fr hf (by omega), cR.fr hf (by omega), hc, cP.fr hf (by omega), cQ.fr hf (by omega), (hf.2 _ (by omega)).trans cH, (hf.2 _ (by omega)).trans cI, cU.fr hf (by omega), cK.fr hf (by omega)⟩
theorem PlanAt.fr2 {k kp j : Nat} {P : Pl} (hP : PlanAt h j P) (hf : Fr2 k kp h h') (h1 : j + 7 < k ∨ k + 1 < j) (h2 : j + 7 < kp ∨ kp + 7 < j) : PlanAt h' j P := by
  obtain ⟨f1, f2, f3, f4, f5, f6, f7, h0, ⟨a1, a2, a3, a4, a5, a6, a7⟩, e1, e2⟩ := hP
  refine ⟨f1, f2, f3, f4, f5, f6, f7, ?_, ⟨?_, ?_, ?_, ?_, ?_, ?_, ?_⟩, e1, e2⟩ <;> (rw [hf.2 _ (by omega) (by omega)]; assumption)
theorem CA.read {Q' : Pl} (C : CA h s kl ks P' r') (hk : kks kl ks) (hf : Fr2 2 ks h h') (hq : PlanAt h' ks Q') (hr : ReaderAt h' 2) : CA h' s kl ks Q' r' := by
  obtain ⟨c0, ⟨tf, t1, t2⟩, cR, ⟨d0, ⟨x1, d1⟩, x2, d2⟩, cP, cQ, cH, cI, ⟨u0, ⟨g1, g2, g3, g4, ⟨a1, a2, a3, a4⟩, gb⟩, un, ul⟩, ⟨v0, ⟨k1, k2, k3, k4, ⟨b1, b2, b3, b4⟩, kb⟩, vn, vl⟩⟩ := C
  have hkl : (ks = 4 ∨ ks = 17) ∧ (kl + 7 < ks ∨ ks + 7 < kl) ∧ 3 < kl := by rcases hk with ⟨rfl, rfl⟩ | ⟨rfl, rfl⟩ <;> decide
  have g : ∀ j, (j < 2 ∨ 3 < j) → (j < 4 ∨ (11 < j ∧ j < 17) ∨ 24 < j) → h'[j]? = h[j]? := fun j y z => hf.2 j (by omega) (by omega)
  exact ⟨(g _ (by omega) (by omega)).trans c0, ⟨tf, (g _ (by omega) (by omega)).trans t1, t2⟩, hr, ⟨(g _ (by omega) (by omega)).trans d0, ⟨x1, (g _ (by omega) (by omega)).trans d1⟩, x2, (g _ (by omega) (by omega)).trans d2⟩, cP.fr2 hf (by omega) (by omega), hq, (g _ (by omega) (by omega)).trans cH, (g _ (by omega) (by omega)).trans cI, ⟨(g _ (by omega) (by omega)).trans u0, ⟨g1, g2, g3, g4, ⟨(g _ (by omega) (by omega)).trans a1, (g _ (by omega) (by omega)).trans a2, (g _ (by omega) (by omega)).trans a3, (g _ (by omega) (by omega)).trans a4⟩, gb⟩, un, ul⟩, ⟨(g _ (by omega) (by omega)).trans v0, ⟨k1, k2, k3, k4, ⟨(g _ (by omega) (by omega)).trans b1, (g _ (by omega) (by omega)).trans b2, (g _ (by omega) (by omega)).trans b3, (g _ (by omega) (by omega)).trans b4⟩, kb⟩, vn, vl⟩⟩
end
def argC (x : Int32) : Option Nat := if nI 32 ≤ x ∧ x ≤ nI 126 then some x.toNatClampNeg else none
theorem argC_some {x : Int32} (h1 : nI 32 ≤ x) (h2 : x ≤ nI 126) : ∃ c, 32 ≤ c ∧ c ≤ 126 ∧ x = nI c ∧ argC x = some c := by
  have h0 : ¬ x < 0 := by
    rw [fa_le, nI_toInt (by decide)] at h1
    rw [fa_lt]
    have : (0 : Int32).toInt = 0 := by decide
    omega
  obtain ⟨c, hc, rfl⟩ := nI_of h0
  have a := (nI_leI (by decide) hc).mp h1
  have b := (nI_leI hc (by decide)).mp h2
  exact ⟨c, a, b, rfl, by rw [argC, if_pos ⟨h1, h2⟩, nI_clamp hc]⟩
theorem argC_none {x : Int32} (h : ¬ (nI 32 ≤ x ∧ x ≤ nI 126)) : argC x = none := by rw [argC, if_neg h]
def setT (s : St) (n : Nat) (f : Nat → Nat) : St := (s.1, s.2.1, s.2.2.1, s.2.2.2.1, (n, f), s.2.2.2.2.2)
def writeA (s : St) (x : Int32) : Int32 := match argC x with
  | none => -1
  | some _ => if sTn s = 200 then -3 else nI (sTn s + 1)
def writeN (s : St) (x : Int32) : St := match argC x with
  | none => s
  | some c => if sTn s = 200 then s else setT s (sTn s + 1) (up (sTf s) (sTn s) c)
theorem char_nar {c : Nat} (hc : c < 128) : vp_nar .char ((nI c).toUInt32 % 65536).toInt32 = nI c := by
  rw [pk_vc, pk_char, pk_tn (by omega), Nat.mod_eq_of_lt (by omega)]
theorem cl_write {s : St} {h : SH} {x : Int32} {K : Option Value → SH → Prop} (hC : CAt h s) (hW : WfS s) (kk : ∀ h', CAt h' (writeN s x) → K (some (.int (writeA s x))) h') : Spc MX5_write [.ref 0, .int x] h K := by
  obtain ⟨kl, ks, P', r', hk, c0, cT, cR, cC, cP, cQ, cH, cI, cU, cK⟩ := id hC
  obtain ⟨wP, wT, wL, wH, wU, wK, wX, wSn, wSb, wSx⟩ := id hW
  have c0' : h[0]? = some (.inr (5, [.ref 1, .int (nI (sTn s)), .ref 2, .ref 14, .ref kl, .ref ks, .ref 13, .ref 25, .ref 26, .ref 31, .int (nI (sSn s)), .int (nI (sSb s)), .int (nI (sSx s))])) := c0
  obtain ⟨f1, f2, f3, f4, f5, f6, f7, p0, ⟨p1, p2, p3, p4, p5, p6, p7⟩, e1, e2⟩ := id cP
  have hT8 := wP.2.2.1
  have hL6 := wP.2.2.2.1
  have hT31 : pT (sP s) < 2 ^ 31 := by omega
  have hL31 : pL (sP s) < 2 ^ 31 := by omega
  have hd := lt256 wH.1 hT8
  have hlv := lt64 wH.2.1 hL6
  have hkl : 3 < kl ∧ kl + 7 < 13 ∨ 16 < kl ∧ kl + 7 < 25 := by rcases hk with ⟨rfl, rfl⟩ | ⟨rfl, rfl⟩ <;> omega
  have hks : 3 < ks ∧ ks + 7 < 13 ∨ 16 < ks ∧ ks + 7 < 25 := by rcases hk with ⟨rfl, rfl⟩ | ⟨rfl, rfl⟩ <;> omega
  have hkk : kl + 7 < ks ∨ ks + 7 < kl := by rcases hk with ⟨rfl, rfl⟩ | ⟨rfl, rfl⟩ <;> omega
  obtain ⟨u0, -⟩ := id cU
  obtain ⟨v0, -⟩ := id cK
  have u0' : h[26]? = some (.inr (2, [.int (nI (sUn s)), .int (nI 8), .ref 27, .ref 28, .ref 29, .ref 30])) := u0
  have v0' : h[31]? = some (.inr (2, [.int (nI (sKn s)), .int (nI 2), .ref 32, .ref 33, .ref 34, .ref 35])) := v0
  have hs0 := set_get c0
  obtain ⟨t0, ht0, htx⟩ := id cT
  have hn31 : sTn s < 2 ^ 31 := by omega
  have same : writeN s x = s → K (some (.int (writeA s x))) h := fun q => kk h (by rw [q]; exact hC)
  refine Spc.go VX5_write (by decide +kernel) (fun _ => Nat.le_of_ble_eq_true rfl) (fun _ => false) 120 ?_
  simp only [nX5_write, kX5_write_0, kX5_write_1, kX5_write_3, kX5_write_6, kX5_write_7, kX5_write_9, kX5_write_12, kX5_write_13, kX5_write_14, kX5_write_15, kX5_write_18, kX5_write_21, kX5_write_22, kX5_write_25, kX5_write_26, kX5_write_29, kX5_write_30, kX5_write_33, kX5_write_35, kX5_write_36, kX5_write_37, kX5_write_40, kX5_write_41, kX5_write_44, kX5_write_45, kX5_write_46, kX5_write_47, kX5_write_48, kX5_write_49, kX5_write_52, kX5_write_53, kX5_write_54, kX5_write_57, kX5_write_58, kX5_write_61, ex_1, ex_s, exo_some, xK, xKL, xLdI, xLdA, xLdL, xStI, xStA, xStL, xInc, xBin, xDiv, xBinL, xDivL, xLcmp, xI2l, xL2i, xI2c, xC_eq, xC_ne, xC_lt, xC_ge, xC_gt, xC_le, xZ_eq, xZ_ne, xZ_lt, xZ_ge, xZ_gt, xZ_le, xGo, xTsw, tsw, xDup, xDup2, xPop, xGf, xPfI, xPfR, xiaload, xcaload, xiastore, xcastore, xAlen, xRet, xRetZ, xRetV, xObj, xMmax, xMmin, xCallS, xCallV, xCallI, popN, cs, kont_some, kont_none, noL, not_false_eq_true, Nat.reduceEqDiff, Nat.reduceBEq, Nat.reduceAdd, Nat.reduceLT, Nat.reduceSub, ↓reduceIte, decide_eq_true_eq, Bool.false_eq_true, decide_false, decide_true, or_false, false_or, or_true, true_or, or_self, lsOf_int, lsOf_ref, lsOf_long, lsOf_nil, List.replicate_succ, List.replicate_zero, Nat.add_one_sub_one, List.getElem?_cons_zero, List.getElem?_cons_succ, List.set_cons_zero, List.set_cons_succ, List.length_cons, List.length_nil, cond_true, cond_false, Value.category, List.reverse_nil, List.reverse_cons, List.nil_append, List.cons_append, true_and, and_true, beq_self_eq_true, nI_add, pk_mul, nI_and, nI_or, nI_an, Nat.zero_le, Nat.reduceLeDiff, f_iadd, f_isub, f_imul, f_iand, f_ior, f_ixor, f_ishl, f_ishr, f_iushr, f_idiv, f_irem, f_ladd, f_lmul, f_lrem, c0', ht0, nI_n0 hn31, nI_ltI hn31 (show 200 < 2 ^ 31 by decide)]
  refine ⟨fun z => ?_, fun z => ⟨fun z2 => ?_, fun z2 => ?_⟩⟩
  · have e := argC_none (x := x) (fun q => absurd z (le_nlt q.1))
    have := same (by rw [writeN, e])
    rw [writeA, e] at this
    exact this
  · obtain ⟨c, hc1, hc2, rfl, e⟩ := argC_some (fa_of_nlt z) z2
    refine ⟨False.elim, fun _ => ⟨fun z3 => ?_, fun z3 => ?_⟩⟩
    · have hne : ¬ sTn s = 200 := by omega
      rw [nI_clamp hn31, char_nar (by omega)]
      simp only [nX5_write, kX5_write_0, kX5_write_1, kX5_write_3, kX5_write_6, kX5_write_7, kX5_write_9, kX5_write_12, kX5_write_13, kX5_write_14, kX5_write_15, kX5_write_18, kX5_write_21, kX5_write_22, kX5_write_25, kX5_write_26, kX5_write_29, kX5_write_30, kX5_write_33, kX5_write_35, kX5_write_36, kX5_write_37, kX5_write_40, kX5_write_41, kX5_write_44, kX5_write_45, kX5_write_46, kX5_write_47, kX5_write_48, kX5_write_49, kX5_write_52, kX5_write_53, kX5_write_54, kX5_write_57, kX5_write_58, kX5_write_61, ex_1, ex_s, exo_some, xK, xKL, xLdI, xLdA, xLdL, xStI, xStA, xStL, xInc, xBin, xDiv, xBinL, xDivL, xLcmp, xI2l, xL2i, xI2c, xC_eq, xC_ne, xC_lt, xC_ge, xC_gt, xC_le, xZ_eq, xZ_ne, xZ_lt, xZ_ge, xZ_gt, xZ_le, xGo, xTsw, tsw, xDup, xDup2, xPop, xGf, xPfI, xPfR, xiaload, xcaload, xiastore, xcastore, xAlen, xRet, xRetZ, xRetV, xObj, xMmax, xMmin, xCallS, xCallV, xCallI, popN, cs, kont_some, kont_none, noL, not_false_eq_true, Nat.reduceEqDiff, Nat.reduceBEq, Nat.reduceAdd, Nat.reduceLT, Nat.reduceSub, ↓reduceIte, decide_eq_true_eq, Bool.false_eq_true, decide_false, decide_true, or_false, false_or, or_true, true_or, or_self, lsOf_int, lsOf_ref, lsOf_long, lsOf_nil, List.replicate_succ, List.replicate_zero, Nat.add_one_sub_one, List.getElem?_cons_zero, List.getElem?_cons_succ, List.set_cons_zero, List.set_cons_succ, List.length_cons, List.length_nil, cond_true, cond_false, Value.category, List.reverse_nil, List.reverse_cons, List.nil_append, List.cons_append, true_and, and_true, beq_self_eq_true, nI_add, pk_mul, nI_and, nI_or, nI_an, Nat.zero_le, Nat.reduceLeDiff, f_iadd, f_isub, f_imul, f_iand, f_ior, f_ixor, f_ishl, f_ishr, f_iushr, f_idiv, f_irem, f_ladd, f_lmul, f_lrem, true_implies, false_implies, not_true_eq_false, and_self, ss, Option.isSome_some, List.set_set, sn, sn0, s0n, c0', ht0, List.getElem?_set_ne, ne_eq, Nat.reduceEqDiff, not_false_eq_true, hs0, c0']
      simp only [writeN, writeA, e, if_neg hne] at kk
      have hf : Fr 0 1 h ((h.set 1 (.inl (true, 200, upd t0 (sTn s) (nI c)))).set 0 (objC (setT s (sTn s + 1) (up (sTf s) (sTn s) c)) kl ks)) := (Fr.rf.set ⟨by omega, by omega⟩ _).set ⟨by omega, by omega⟩ _
      refine ⟨vp_in_nI (by omega) (by omega), kk _ ⟨kl, ks, P', r', hk, CA.low ⟨c0, cT, cR, cC, cP, cQ, cH, cI, cU, cK⟩ hk hf (ss (by rw [List.getElem?_set_ne (by decide), c0]; rfl)) ⟨upd t0 (sTn s) (nI c), ?_, fun j hj => ?_⟩ ⟨rfl, rfl, rfl, rfl⟩⟩⟩
      · rw [ne0 (by decide)]; exact set_get ht0 _
      · have hj : j < sTn s + 1 := hj
        show upd t0 (sTn s) (nI c) j = nI (up (sTf s) (sTn s) c j)
        simp only [upd_eq, up]
        by_cases w : j = sTn s
        · simp only [if_pos w]
        · simp only [if_neg w]; exact htx j (by omega)
    · have hne : sTn s = 200 := by omega
      have := same (by simp only [writeN, e, if_pos hne])
      simp only [writeA, e, if_pos hne] at this
      exact this
  · have e := argC_none (x := x) (fun q => absurd q.2 z2)
    have := same (by rw [writeN, e])
    rw [writeA, e] at this
    exact this
def wipeA (s : St) : Int32 := nI (sTn s)
def wipeN (s : St) : St := setT s 0 (sTf s)
theorem cl_wipe {s : St} {h : SH} {K : Option Value → SH → Prop} (hC : CAt h s) (hW : WfS s) (kk : ∀ h', CAt h' (wipeN s) → K (some (.int (wipeA s))) h') : Spc MX5_wipe [.ref 0] h K := by
  obtain ⟨kl, ks, P', r', hk, c0, cT, cR, cC, cP, cQ, cH, cI, cU, cK⟩ := id hC
  obtain ⟨wP, wT, wL, wH, wU, wK, wX, wSn, wSb, wSx⟩ := id hW
  have c0' : h[0]? = some (.inr (5, [.ref 1, .int (nI (sTn s)), .ref 2, .ref 14, .ref kl, .ref ks, .ref 13, .ref 25, .ref 26, .ref 31, .int (nI (sSn s)), .int (nI (sSb s)), .int (nI (sSx s))])) := c0
  obtain ⟨f1, f2, f3, f4, f5, f6, f7, p0, ⟨p1, p2, p3, p4, p5, p6, p7⟩, e1, e2⟩ := id cP
  have hT8 := wP.2.2.1
  have hL6 := wP.2.2.2.1
  have hT31 : pT (sP s) < 2 ^ 31 := by omega
  have hL31 : pL (sP s) < 2 ^ 31 := by omega
  have hd := lt256 wH.1 hT8
  have hlv := lt64 wH.2.1 hL6
  have hkl : 3 < kl ∧ kl + 7 < 13 ∨ 16 < kl ∧ kl + 7 < 25 := by rcases hk with ⟨rfl, rfl⟩ | ⟨rfl, rfl⟩ <;> omega
  have hks : 3 < ks ∧ ks + 7 < 13 ∨ 16 < ks ∧ ks + 7 < 25 := by rcases hk with ⟨rfl, rfl⟩ | ⟨rfl, rfl⟩ <;> omega
  have hkk : kl + 7 < ks ∨ ks + 7 < kl := by rcases hk with ⟨rfl, rfl⟩ | ⟨rfl, rfl⟩ <;> omega
  obtain ⟨u0, -⟩ := id cU
  obtain ⟨v0, -⟩ := id cK
  have u0' : h[26]? = some (.inr (2, [.int (nI (sUn s)), .int (nI 8), .ref 27, .ref 28, .ref 29, .ref 30])) := u0
  have v0' : h[31]? = some (.inr (2, [.int (nI (sKn s)), .int (nI 2), .ref 32, .ref 33, .ref 34, .ref 35])) := v0
  have hs0 := set_get c0
  obtain ⟨t0, ht0, htx⟩ := id cT
  refine Spc.go VX5_wipe (by decide +kernel) (fun _ => Nat.le_of_ble_eq_true rfl) (fun _ => false) 120 ?_
  simp only [nX5_wipe, kX5_wipe_0, kX5_wipe_1, kX5_wipe_4, kX5_wipe_5, kX5_wipe_6, kX5_wipe_7, kX5_wipe_10, kX5_wipe_11, ex_1, ex_s, exo_some, xK, xKL, xLdI, xLdA, xLdL, xStI, xStA, xStL, xInc, xBin, xDiv, xBinL, xDivL, xLcmp, xI2l, xL2i, xI2c, xC_eq, xC_ne, xC_lt, xC_ge, xC_gt, xC_le, xZ_eq, xZ_ne, xZ_lt, xZ_ge, xZ_gt, xZ_le, xGo, xTsw, tsw, xDup, xDup2, xPop, xGf, xPfI, xPfR, xiaload, xcaload, xiastore, xcastore, xAlen, xRet, xRetZ, xRetV, xObj, xMmax, xMmin, xCallS, xCallV, xCallI, popN, cs, kont_some, kont_none, noL, not_false_eq_true, Nat.reduceEqDiff, Nat.reduceBEq, Nat.reduceAdd, Nat.reduceLT, Nat.reduceSub, ↓reduceIte, decide_eq_true_eq, Bool.false_eq_true, decide_false, decide_true, or_false, false_or, or_true, true_or, or_self, lsOf_int, lsOf_ref, lsOf_long, lsOf_nil, List.replicate_succ, List.replicate_zero, Nat.add_one_sub_one, List.getElem?_cons_zero, List.getElem?_cons_succ, List.set_cons_zero, List.set_cons_succ, List.length_cons, List.length_nil, cond_true, cond_false, Value.category, List.reverse_nil, List.reverse_cons, List.nil_append, List.cons_append, true_and, and_true, beq_self_eq_true, nI_add, pk_mul, nI_and, nI_or, nI_an, Nat.zero_le, Nat.reduceLeDiff, f_iadd, f_isub, f_imul, f_iand, f_ior, f_ixor, f_ishl, f_ishr, f_iushr, f_idiv, f_irem, f_ladd, f_lmul, f_lrem, true_implies, false_implies, not_true_eq_false, and_self, ss, Option.isSome_some, List.set_set, sn, sn0, s0n, c0']
  refine kk _ ⟨kl, ks, P', r', hk, CA.low ⟨c0, cT, cR, cC, cP, cQ, cH, cI, cU, cK⟩ hk ((Fr.one _).wide (Nat.le_refl _) (by decide)) (hs0 _) ⟨t0, ?_, fun j hj => absurd hj (Nat.not_lt_zero _)⟩ ⟨rfl, rfl, rfl, rfl⟩⟩
  rw [ne0 (by decide)]; exact ht0
def faultA (s : St) : Int32 := oI (prs (sTf s) (sTn s) 200 0 pl0).1
def faultN (s : St) : St := s
theorem cl_fault {s : St} {h : SH} {K : Option Value → SH → Prop} (hC : CAt h s) (hW : WfS s) (kk : ∀ h', CAt h' (faultN s) → K (some (.int (faultA s))) h') : Spc MX5_fault [.ref 0] h K := by
  obtain ⟨kl, ks, P', r', hk, c0, cT, cR, cC, cP, cQ, cH, cI, cU, cK⟩ := id hC
  obtain ⟨wP, wT, wL, wH, wU, wK, wX, wSn, wSb, wSx⟩ := id hW
  have c0' : h[0]? = some (.inr (5, [.ref 1, .int (nI (sTn s)), .ref 2, .ref 14, .ref kl, .ref ks, .ref 13, .ref 25, .ref 26, .ref 31, .int (nI (sSn s)), .int (nI (sSb s)), .int (nI (sSx s))])) := c0
  obtain ⟨f1, f2, f3, f4, f5, f6, f7, p0, ⟨p1, p2, p3, p4, p5, p6, p7⟩, e1, e2⟩ := id cP
  have hT8 := wP.2.2.1
  have hL6 := wP.2.2.2.1
  have hT31 : pT (sP s) < 2 ^ 31 := by omega
  have hL31 : pL (sP s) < 2 ^ 31 := by omega
  have hd := lt256 wH.1 hT8
  have hlv := lt64 wH.2.1 hL6
  have hkl : 3 < kl ∧ kl + 7 < 13 ∨ 16 < kl ∧ kl + 7 < 25 := by rcases hk with ⟨rfl, rfl⟩ | ⟨rfl, rfl⟩ <;> omega
  have hks : 3 < ks ∧ ks + 7 < 13 ∨ 16 < ks ∧ ks + 7 < 25 := by rcases hk with ⟨rfl, rfl⟩ | ⟨rfl, rfl⟩ <;> omega
  have hkk : kl + 7 < ks ∨ ks + 7 < kl := by rcases hk with ⟨rfl, rfl⟩ | ⟨rfl, rfl⟩ <;> omega
  obtain ⟨u0, -⟩ := id cU
  obtain ⟨v0, -⟩ := id cK
  have u0' : h[26]? = some (.inr (2, [.int (nI (sUn s)), .int (nI 8), .ref 27, .ref 28, .ref 29, .ref 30])) := u0
  have v0' : h[31]? = some (.inr (2, [.int (nI (sKn s)), .int (nI 2), .ref 32, .ref 33, .ref 34, .ref 35])) := v0
  have hs0 := set_get c0
  obtain ⟨am, gg, r0, r1⟩ := id cR
  refine Spc.go VX5_fault (by decide +kernel) (fun _ => Nat.le_of_ble_eq_true rfl) (fun _ => false) 120 ?_
  simp only [nX5_fault, kX5_fault_0, kX5_fault_1, kX5_fault_4, kX5_fault_5, kX5_fault_8, kX5_fault_9, kX5_fault_12, kX5_fault_13, kX5_fault_16, kX5_fault_19, ex_1, ex_s, exo_some, xK, xKL, xLdI, xLdA, xLdL, xStI, xStA, xStL, xInc, xBin, xDiv, xBinL, xDivL, xLcmp, xI2l, xL2i, xI2c, xC_eq, xC_ne, xC_lt, xC_ge, xC_gt, xC_le, xZ_eq, xZ_ne, xZ_lt, xZ_ge, xZ_gt, xZ_le, xGo, xTsw, tsw, xDup, xDup2, xPop, xGf, xPfI, xPfR, xiaload, xcaload, xiastore, xcastore, xAlen, xRet, xRetZ, xRetV, xObj, xMmax, xMmin, xCallS, xCallV, xCallI, popN, cs, kont_some, kont_none, noL, not_false_eq_true, Nat.reduceEqDiff, Nat.reduceBEq, Nat.reduceAdd, Nat.reduceLT, Nat.reduceSub, ↓reduceIte, decide_eq_true_eq, Bool.false_eq_true, decide_false, decide_true, or_false, false_or, or_true, true_or, or_self, lsOf_int, lsOf_ref, lsOf_long, lsOf_nil, List.replicate_succ, List.replicate_zero, Nat.add_one_sub_one, List.getElem?_cons_zero, List.getElem?_cons_succ, List.set_cons_zero, List.set_cons_succ, List.length_cons, List.length_nil, cond_true, cond_false, Value.category, List.reverse_nil, List.reverse_cons, List.nil_append, List.cons_append, true_and, and_true, beq_self_eq_true, nI_add, pk_mul, nI_and, nI_or, nI_an, Nat.zero_le, Nat.reduceLeDiff, f_iadd, f_isub, f_imul, f_iand, f_ior, f_ixor, f_ishl, f_ishr, f_iushr, f_idiv, f_irem, f_ladd, f_lmul, f_lrem, true_implies, false_implies, not_true_eq_false, and_self, ss, Option.isSome_some, List.set_set, sn, sn0, s0n, c0', r0]
  refine sp_firstFault cR (cT.ch wX.1 wX.2) cQ (by decide) (by omega) (by omega) (fun h' hP2 hR2 hf => ?_)
  simp only [nX5_fault, kX5_fault_0, kX5_fault_1, kX5_fault_4, kX5_fault_5, kX5_fault_8, kX5_fault_9, kX5_fault_12, kX5_fault_13, kX5_fault_16, kX5_fault_19, ex_1, ex_s, exo_some, xK, xKL, xLdI, xLdA, xLdL, xStI, xStA, xStL, xInc, xBin, xDiv, xBinL, xDivL, xLcmp, xI2l, xL2i, xI2c, xC_eq, xC_ne, xC_lt, xC_ge, xC_gt, xC_le, xZ_eq, xZ_ne, xZ_lt, xZ_ge, xZ_gt, xZ_le, xGo, xTsw, tsw, xDup, xDup2, xPop, xGf, xPfI, xPfR, xiaload, xcaload, xiastore, xcastore, xAlen, xRet, xRetZ, xRetV, xObj, xMmax, xMmin, xCallS, xCallV, xCallI, popN, cs, kont_some, kont_none, noL, not_false_eq_true, Nat.reduceEqDiff, Nat.reduceBEq, Nat.reduceAdd, Nat.reduceLT, Nat.reduceSub, ↓reduceIte, decide_eq_true_eq, Bool.false_eq_true, decide_false, decide_true, or_false, false_or, or_true, true_or, or_self, lsOf_int, lsOf_ref, lsOf_long, lsOf_nil, List.replicate_succ, List.replicate_zero, Nat.add_one_sub_one, List.getElem?_cons_zero, List.getElem?_cons_succ, List.set_cons_zero, List.set_cons_succ, List.length_cons, List.length_nil, cond_true, cond_false, Value.category, List.reverse_nil, List.reverse_cons, List.nil_append, List.cons_append, true_and, and_true, beq_self_eq_true, nI_add, pk_mul, nI_and, nI_or, nI_an, Nat.zero_le, Nat.reduceLeDiff, f_iadd, f_isub, f_imul, f_iand, f_ior, f_ixor, f_ishl, f_ishr, f_iushr, f_idiv, f_irem, f_ladd, f_lmul, f_lrem, true_implies, false_implies, not_true_eq_false, and_self, ss, Option.isSome_some, List.set_set, sn, sn0, s0n]
  exact kk h' ⟨kl, ks, _, r', hk, CA.read ⟨c0, cT, cR, cC, cP, cQ, cH, cI, cU, cK⟩ hk hf hP2 hR2⟩
def seeA (s : St) (t : Int32) (b : Bool) : Int32 := match argN t (pT (sP s)) with
  | none => -1
  | some _ => if sSn s = 8 then -3 else nI (sSn s + 1)
def wS (s : St) (a b c : Nat) : St := (s.1, s.2.1, s.2.2.1, s.2.2.2.1, s.2.2.2.2.1, (a, b, c))
def seeN (s : St) (t : Int32) (b : Bool) : St := match argN t (pT (sP s)) with
  | none => s
  | some j => if sSn s = 8 then s else if b = true then wS s (sSn s + 1) (sSb s ||| 2 ^ j) (sSx s) else wS s (sSn s + 1) (sSb s) (sSx s ||| 2 ^ j)
theorem cl_see {s : St} {h : SH} {t : Int32} {b : Bool} {K : Option Value → SH → Prop} (hC : CAt h s) (hW : WfS s) (kk : ∀ h', CAt h' (seeN s t b) → K (some (.int (seeA s t b))) h') : Spc MX5_see [.ref 0, .int t, .int (nI b.toNat)] h K := by
  obtain ⟨kl, ks, P', r', hk, c0, cT, cR, cC, cP, cQ, cH, cI, cU, cK⟩ := id hC
  obtain ⟨wP, wT, wL, wH, wU, wK, wX, wSn, wSb, wSx⟩ := id hW
  have c0' : h[0]? = some (.inr (5, [.ref 1, .int (nI (sTn s)), .ref 2, .ref 14, .ref kl, .ref ks, .ref 13, .ref 25, .ref 26, .ref 31, .int (nI (sSn s)), .int (nI (sSb s)), .int (nI (sSx s))])) := c0
  obtain ⟨f1, f2, f3, f4, f5, f6, f7, p0, ⟨p1, p2, p3, p4, p5, p6, p7⟩, e1, e2⟩ := id cP
  have hT8 := wP.2.2.1
  have hL6 := wP.2.2.2.1
  have hT31 : pT (sP s) < 2 ^ 31 := by omega
  have hL31 : pL (sP s) < 2 ^ 31 := by omega
  have hd := lt256 wH.1 hT8
  have hlv := lt64 wH.2.1 hL6
  have hkl : 3 < kl ∧ kl + 7 < 13 ∨ 16 < kl ∧ kl + 7 < 25 := by rcases hk with ⟨rfl, rfl⟩ | ⟨rfl, rfl⟩ <;> omega
  have hks : 3 < ks ∧ ks + 7 < 13 ∨ 16 < ks ∧ ks + 7 < 25 := by rcases hk with ⟨rfl, rfl⟩ | ⟨rfl, rfl⟩ <;> omega
  have hkk : kl + 7 < ks ∨ ks + 7 < kl := by rcases hk with ⟨rfl, rfl⟩ | ⟨rfl, rfl⟩ <;> omega
  obtain ⟨u0, -⟩ := id cU
  obtain ⟨v0, -⟩ := id cK
  have u0' : h[26]? = some (.inr (2, [.int (nI (sUn s)), .int (nI 8), .ref 27, .ref 28, .ref 29, .ref 30])) := u0
  have v0' : h[31]? = some (.inr (2, [.int (nI (sKn s)), .int (nI 2), .ref 32, .ref 33, .ref 34, .ref 35])) := v0
  have hs0 := set_get c0
  obtain ⟨t0, ht0, htx⟩ := id cT
  have hT1 : ∀ c, TxAt (h.set 0 c) (sTn s) (sTf s) := fun c => ⟨t0, (ne0 (by decide) c).trans ht0, htx⟩
  refine Spc.go VX5_see (by decide +kernel) (fun _ => Nat.le_of_ble_eq_true rfl) (fun _ => false) 120 ?_
  simp only [nX5_see, kX5_see_0, kX5_see_1, kX5_see_4, kX5_see_5, kX5_see_8, kX5_see_11, kX5_see_12, kX5_see_13, kX5_see_14, kX5_see_17, kX5_see_19, kX5_see_22, kX5_see_24, kX5_see_25, kX5_see_26, kX5_see_29, kX5_see_30, kX5_see_31, kX5_see_34, kX5_see_35, kX5_see_36, kX5_see_37, kX5_see_38, kX5_see_41, kX5_see_44, kX5_see_45, kX5_see_46, kX5_see_49, kX5_see_50, kX5_see_51, kX5_see_52, kX5_see_53, kX5_see_56, kX5_see_57, kX5_see_58, kX5_see_61, kX5_see_62, kX5_see_63, kX5_see_66, kX5_see_67, kX5_see_70, ex_1, ex_s, exo_some, xK, xKL, xLdI, xLdA, xLdL, xStI, xStA, xStL, xInc, xBin, xDiv, xBinL, xDivL, xLcmp, xI2l, xL2i, xI2c, xC_eq, xC_ne, xC_lt, xC_ge, xC_gt, xC_le, xZ_eq, xZ_ne, xZ_lt, xZ_ge, xZ_gt, xZ_le, xGo, xTsw, tsw, xDup, xDup2, xPop, xGf, xPfI, xPfR, xiaload, xcaload, xiastore, xcastore, xAlen, xRet, xRetZ, xRetV, xObj, xMmax, xMmin, xCallS, xCallV, xCallI, popN, cs, kont_some, kont_none, noL, not_false_eq_true, Nat.reduceEqDiff, Nat.reduceBEq, Nat.reduceAdd, Nat.reduceLT, Nat.reduceSub, ↓reduceIte, decide_eq_true_eq, Bool.false_eq_true, decide_false, decide_true, or_false, false_or, or_true, true_or, or_self, lsOf_int, lsOf_ref, lsOf_long, lsOf_nil, List.replicate_succ, List.replicate_zero, Nat.add_one_sub_one, List.getElem?_cons_zero, List.getElem?_cons_succ, List.set_cons_zero, List.set_cons_succ, List.length_cons, List.length_nil, cond_true, cond_false, Value.category, List.reverse_nil, List.reverse_cons, List.nil_append, List.cons_append, true_and, and_true, beq_self_eq_true, nI_add, pk_mul, nI_and, nI_or, nI_an, Nat.zero_le, Nat.reduceLeDiff, f_iadd, f_isub, f_imul, f_iand, f_ior, f_ixor, f_ishl, f_ishr, f_iushr, f_idiv, f_irem, f_ladd, f_lmul, f_lrem, true_implies, false_implies, not_true_eq_false, and_self, ss, Option.isSome_some, List.set_set, sn, sn0, s0n, c0', p0]
  refine sp_isThing cP wP ?_
  simp only [nX5_see, kX5_see_0, kX5_see_1, kX5_see_4, kX5_see_5, kX5_see_8, kX5_see_11, kX5_see_12, kX5_see_13, kX5_see_14, kX5_see_17, kX5_see_19, kX5_see_22, kX5_see_24, kX5_see_25, kX5_see_26, kX5_see_29, kX5_see_30, kX5_see_31, kX5_see_34, kX5_see_35, kX5_see_36, kX5_see_37, kX5_see_38, kX5_see_41, kX5_see_44, kX5_see_45, kX5_see_46, kX5_see_49, kX5_see_50, kX5_see_51, kX5_see_52, kX5_see_53, kX5_see_56, kX5_see_57, kX5_see_58, kX5_see_61, kX5_see_62, kX5_see_63, kX5_see_66, kX5_see_67, kX5_see_70, ex_1, ex_s, exo_some, xK, xKL, xLdI, xLdA, xLdL, xStI, xStA, xStL, xInc, xBin, xDiv, xBinL, xDivL, xLcmp, xI2l, xL2i, xI2c, xC_eq, xC_ne, xC_lt, xC_ge, xC_gt, xC_le, xZ_eq, xZ_ne, xZ_lt, xZ_ge, xZ_gt, xZ_le, xGo, xTsw, tsw, xDup, xDup2, xPop, xGf, xPfI, xPfR, xiaload, xcaload, xiastore, xcastore, xAlen, xRet, xRetZ, xRetV, xObj, xMmax, xMmin, xCallS, xCallV, xCallI, popN, cs, kont_some, kont_none, noL, not_false_eq_true, Nat.reduceEqDiff, Nat.reduceBEq, Nat.reduceAdd, Nat.reduceLT, Nat.reduceSub, ↓reduceIte, decide_eq_true_eq, Bool.false_eq_true, decide_false, decide_true, or_false, false_or, or_true, true_or, or_self, lsOf_int, lsOf_ref, lsOf_long, lsOf_nil, List.replicate_succ, List.replicate_zero, Nat.add_one_sub_one, List.getElem?_cons_zero, List.getElem?_cons_succ, List.set_cons_zero, List.set_cons_succ, List.length_cons, List.length_nil, cond_true, cond_false, Value.category, List.reverse_nil, List.reverse_cons, List.nil_append, List.cons_append, true_and, and_true, beq_self_eq_true, nI_add, pk_mul, nI_and, nI_or, nI_an, Nat.zero_le, Nat.reduceLeDiff, f_iadd, f_isub, f_imul, f_iand, f_ior, f_ixor, f_ishl, f_ishr, f_iushr, f_idiv, f_irem, f_ladd, f_lmul, f_lrem, true_implies, false_implies, not_true_eq_false, and_self, ss, Option.isSome_some, List.set_set, sn, sn0, s0n, nI_b0, c0', nI_ltI (show sSn s < 2 ^ 31 by omega) (show 8 < 2 ^ 31 by decide)]
  cases hr : decide (0 ≤ t ∧ t < nI (pT (sP s))) with
  | false =>
    simp only [seeN, seeA, argN_none hr] at kk
    exact ⟨fun z => absurd rfl z, fun _ => kk h hC⟩
  | true =>
    obtain ⟨j, hj, rfl, hq⟩ := argN_some hT31 hr
    simp only [seeN, seeA, hq] at kk
    refine ⟨fun _ => ⟨fun z => ?_, fun z => ?_⟩, fun z => absurd z (by decide)⟩
    · have hne : ¬ sSn s = 8 := by omega
      simp only [if_neg hne] at kk
      simp only [nX5_see, kX5_see_0, kX5_see_1, kX5_see_4, kX5_see_5, kX5_see_8, kX5_see_11, kX5_see_12, kX5_see_13, kX5_see_14, kX5_see_17, kX5_see_19, kX5_see_22, kX5_see_24, kX5_see_25, kX5_see_26, kX5_see_29, kX5_see_30, kX5_see_31, kX5_see_34, kX5_see_35, kX5_see_36, kX5_see_37, kX5_see_38, kX5_see_41, kX5_see_44, kX5_see_45, kX5_see_46, kX5_see_49, kX5_see_50, kX5_see_51, kX5_see_52, kX5_see_53, kX5_see_56, kX5_see_57, kX5_see_58, kX5_see_61, kX5_see_62, kX5_see_63, kX5_see_66, kX5_see_67, kX5_see_70, ex_1, ex_s, exo_some, xK, xKL, xLdI, xLdA, xLdL, xStI, xStA, xStL, xInc, xBin, xDiv, xBinL, xDivL, xLcmp, xI2l, xL2i, xI2c, xC_eq, xC_ne, xC_lt, xC_ge, xC_gt, xC_le, xZ_eq, xZ_ne, xZ_lt, xZ_ge, xZ_gt, xZ_le, xGo, xTsw, tsw, xDup, xDup2, xPop, xGf, xPfI, xPfR, xiaload, xcaload, xiastore, xcastore, xAlen, xRet, xRetZ, xRetV, xObj, xMmax, xMmin, xCallS, xCallV, xCallI, popN, cs, kont_some, kont_none, noL, not_false_eq_true, Nat.reduceEqDiff, Nat.reduceBEq, Nat.reduceAdd, Nat.reduceLT, Nat.reduceSub, ↓reduceIte, decide_eq_true_eq, Bool.false_eq_true, decide_false, decide_true, or_false, false_or, or_true, true_or, or_self, lsOf_int, lsOf_ref, lsOf_long, lsOf_nil, List.replicate_succ, List.replicate_zero, Nat.add_one_sub_one, List.getElem?_cons_zero, List.getElem?_cons_succ, List.set_cons_zero, List.set_cons_succ, List.length_cons, List.length_nil, cond_true, cond_false, Value.category, List.reverse_nil, List.reverse_cons, List.nil_append, List.cons_append, true_and, and_true, beq_self_eq_true, nI_add, pk_mul, nI_and, nI_or, nI_an, Nat.zero_le, Nat.reduceLeDiff, f_iadd, f_isub, f_imul, f_iand, f_ior, f_ixor, f_ishl, f_ishr, f_iushr, f_idiv, f_irem, f_ladd, f_lmul, f_lrem, true_implies, false_implies, not_true_eq_false, and_self, ss, Option.isSome_some, List.set_set, sn, sn0, s0n, c0', hs0, nI_shl1 (show j < 31 by omega)]
      cases b with
      | true =>
        simp only [if_true] at kk
        refine ⟨fun q => absurd q (by decide), fun _ => kk _ ⟨kl, ks, P', r', hk, CA.low ⟨c0, cT, cR, cC, cP, cQ, cH, cI, cU, cK⟩ hk ((Fr.one _).wide (Nat.le_refl _) (by decide)) (hs0 _) (hT1 _) ⟨rfl, rfl, rfl, rfl⟩⟩⟩
      | false =>
        simp only [Bool.false_eq_true, if_false] at kk
        refine ⟨fun _ => kk _ ⟨kl, ks, P', r', hk, CA.low ⟨c0, cT, cR, cC, cP, cQ, cH, cI, cU, cK⟩ hk ((Fr.one _).wide (Nat.le_refl _) (by decide)) (hs0 _) (hT1 _) ⟨rfl, rfl, rfl, rfl⟩⟩, fun q => absurd rfl q⟩
    · have hne : sSn s = 8 := by omega
      simp only [if_pos hne] at kk
      exact kk h hC
def forgetA (s : St) : Int32 := nI (sSn s)
def forgetN (s : St) : St := wS s 0 0 0
theorem cl_forget {s : St} {h : SH} {K : Option Value → SH → Prop} (hC : CAt h s) (hW : WfS s) (kk : ∀ h', CAt h' (forgetN s) → K (some (.int (forgetA s))) h') : Spc MX5_forget [.ref 0] h K := by
  obtain ⟨kl, ks, P', r', hk, c0, cT, cR, cC, cP, cQ, cH, cI, cU, cK⟩ := id hC
  obtain ⟨wP, wT, wL, wH, wU, wK, wX, wSn, wSb, wSx⟩ := id hW
  have c0' : h[0]? = some (.inr (5, [.ref 1, .int (nI (sTn s)), .ref 2, .ref 14, .ref kl, .ref ks, .ref 13, .ref 25, .ref 26, .ref 31, .int (nI (sSn s)), .int (nI (sSb s)), .int (nI (sSx s))])) := c0
  obtain ⟨f1, f2, f3, f4, f5, f6, f7, p0, ⟨p1, p2, p3, p4, p5, p6, p7⟩, e1, e2⟩ := id cP
  have hT8 := wP.2.2.1
  have hL6 := wP.2.2.2.1
  have hT31 : pT (sP s) < 2 ^ 31 := by omega
  have hL31 : pL (sP s) < 2 ^ 31 := by omega
  have hd := lt256 wH.1 hT8
  have hlv := lt64 wH.2.1 hL6
  have hkl : 3 < kl ∧ kl + 7 < 13 ∨ 16 < kl ∧ kl + 7 < 25 := by rcases hk with ⟨rfl, rfl⟩ | ⟨rfl, rfl⟩ <;> omega
  have hks : 3 < ks ∧ ks + 7 < 13 ∨ 16 < ks ∧ ks + 7 < 25 := by rcases hk with ⟨rfl, rfl⟩ | ⟨rfl, rfl⟩ <;> omega
  have hkk : kl + 7 < ks ∨ ks + 7 < kl := by rcases hk with ⟨rfl, rfl⟩ | ⟨rfl, rfl⟩ <;> omega
  obtain ⟨u0, -⟩ := id cU
  obtain ⟨v0, -⟩ := id cK
  have u0' : h[26]? = some (.inr (2, [.int (nI (sUn s)), .int (nI 8), .ref 27, .ref 28, .ref 29, .ref 30])) := u0
  have v0' : h[31]? = some (.inr (2, [.int (nI (sKn s)), .int (nI 2), .ref 32, .ref 33, .ref 34, .ref 35])) := v0
  have hs0 := set_get c0
  obtain ⟨t0, ht0, htx⟩ := id cT
  have hT1 : ∀ c, TxAt (h.set 0 c) (sTn s) (sTf s) := fun c => ⟨t0, (ne0 (by decide) c).trans ht0, htx⟩
  refine Spc.go VX5_forget (by decide +kernel) (fun _ => Nat.le_of_ble_eq_true rfl) (fun _ => false) 120 ?_
  simp only [nX5_forget, kX5_forget_0, kX5_forget_1, kX5_forget_4, kX5_forget_5, kX5_forget_6, kX5_forget_7, kX5_forget_10, kX5_forget_11, kX5_forget_12, kX5_forget_15, kX5_forget_16, kX5_forget_17, kX5_forget_20, kX5_forget_21, ex_1, ex_s, exo_some, xK, xKL, xLdI, xLdA, xLdL, xStI, xStA, xStL, xInc, xBin, xDiv, xBinL, xDivL, xLcmp, xI2l, xL2i, xI2c, xC_eq, xC_ne, xC_lt, xC_ge, xC_gt, xC_le, xZ_eq, xZ_ne, xZ_lt, xZ_ge, xZ_gt, xZ_le, xGo, xTsw, tsw, xDup, xDup2, xPop, xGf, xPfI, xPfR, xiaload, xcaload, xiastore, xcastore, xAlen, xRet, xRetZ, xRetV, xObj, xMmax, xMmin, xCallS, xCallV, xCallI, popN, cs, kont_some, kont_none, noL, not_false_eq_true, Nat.reduceEqDiff, Nat.reduceBEq, Nat.reduceAdd, Nat.reduceLT, Nat.reduceSub, ↓reduceIte, decide_eq_true_eq, Bool.false_eq_true, decide_false, decide_true, or_false, false_or, or_true, true_or, or_self, lsOf_int, lsOf_ref, lsOf_long, lsOf_nil, List.replicate_succ, List.replicate_zero, Nat.add_one_sub_one, List.getElem?_cons_zero, List.getElem?_cons_succ, List.set_cons_zero, List.set_cons_succ, List.length_cons, List.length_nil, cond_true, cond_false, Value.category, List.reverse_nil, List.reverse_cons, List.nil_append, List.cons_append, true_and, and_true, beq_self_eq_true, nI_add, pk_mul, nI_and, nI_or, nI_an, Nat.zero_le, Nat.reduceLeDiff, f_iadd, f_isub, f_imul, f_iand, f_ior, f_ixor, f_ishl, f_ishr, f_iushr, f_idiv, f_irem, f_ladd, f_lmul, f_lrem, true_implies, false_implies, not_true_eq_false, and_self, ss, Option.isSome_some, List.set_set, sn, sn0, s0n, c0', hs0]
  exact kk _ ⟨kl, ks, P', r', hk, CA.low ⟨c0, cT, cR, cC, cP, cQ, cH, cI, cU, cK⟩ hk ((Fr.one _).wide (Nat.le_refl _) (by decide)) (hs0 _) (hT1 _) ⟨rfl, rfl, rfl, rfl⟩⟩
def mindU (s : St) : St := wU s (pushN 8 (sUn s)) (pushI 8 (sUn s) (sUf s) (sH s))
def putA (s : St) (t : Int32) : Int32 := match argN t (pT (sP s)) with
  | none => -1
  | some j => if canPutN (sP s) (sH s) j = true then nI (pR (sP s)) - nI (roomN (sP s) (dr (sH s) ||| 2 ^ j)) else -2
def putN (s : St) (t : Int32) : St := match argN t (pT (sP s)) with
  | none => s
  | some j => if canPutN (sP s) (sH s) j = true then wH (mindU s) (putH (sP s) (sH s) j) else s
def outA (s : St) (t : Int32) : Int32 := match argN t (pT (sP s)) with
  | none => -1
  | some j => if (dr (sH s)).testBit j = true then nI (pR (sP s)) - nI (roomN (sP s) (an (dr (sH s)) (2 ^ j))) else -2
def outN (s : St) (t : Int32) : St := match argN t (pT (sP s)) with
  | none => s
  | some j => if (dr (sH s)).testBit j = true then wH (mindU s) (outH (sH s) j) else s
def liveA (s : St) (l : Int32) : Int32 := match argN l (pL (sP s)) with
  | none => -1
  | some j => if canLiveN (sP s) (sH s) j = true then nI (goneN (sP s) j (dr (sH s))) else -2
def liveN (s : St) (l : Int32) : St := match argN l (pL (sP s)) with
  | none => s
  | some j => if canLiveN (sP s) (sH s) j = true then wH (mindU s) (liveH (sP s) (sH s) j) else s
theorem WfU.push {s : St} {P : Pl} (h : sUn s ≤ 8 ∧ ∀ i, i < sUn s → WfH P (sUf s i)) (hr : WfH P (sH s)) : pushN 8 (sUn s) ≤ 8 ∧ ∀ i, i < pushN 8 (sUn s) → WfH P (pushI 8 (sUn s) (sUf s) (sH s) i) := by
  constructor
  · unfold pushN; split <;> omega
  · intro i hi
    unfold pushN at hi
    unfold pushI
    split
    · next q =>
      rw [if_pos q] at hi
      split
      · exact hr
      · exact h.2 i (by omega)
    · next q =>
      rw [if_neg q] at hi
      split
      · exact hr
      · exact h.2 (i + 1) (by omega)
theorem WfS.put {s : St} {r : Hr} (hW : WfS s) (hr : WfH (sP s) r) : WfS (wH (mindU s) r) := by
  obtain ⟨wP, wT, wL, wH, wU, wK, wX, wSn, wSb, wSx⟩ := hW
  exact ⟨wP, wT, wL, hr, WfU.push wU wH, wK, wX, wSn, wSb, wSx⟩
theorem cl_put {s : St} {h : SH} {t : Int32} {K : Option Value → SH → Prop} (hC : CAt h s) (hW : WfS s) (kk : ∀ h', CAt h' (putN s t) → K (some (.int (putA s t))) h') : Spc MX5_put [.ref 0, .int t] h K := by
  obtain ⟨kl, ks, P', r', hk, c0, cT, cR, cC, cP, cQ, cH, cI, cU, cK⟩ := id hC
  obtain ⟨wP, wT, wL, wH, wU, wK, wX, wSn, wSb, wSx⟩ := id hW
  have c0' : h[0]? = some (.inr (5, [.ref 1, .int (nI (sTn s)), .ref 2, .ref 14, .ref kl, .ref ks, .ref 13, .ref 25, .ref 26, .ref 31, .int (nI (sSn s)), .int (nI (sSb s)), .int (nI (sSx s))])) := c0
  obtain ⟨f1, f2, f3, f4, f5, f6, f7, p0, ⟨p1, p2, p3, p4, p5, p6, p7⟩, e1, e2⟩ := id cP
  have hT8 := wP.2.2.1
  have hL6 := wP.2.2.2.1
  have hT31 : pT (sP s) < 2 ^ 31 := by omega
  have hL31 : pL (sP s) < 2 ^ 31 := by omega
  have hd := lt256 wH.1 hT8
  have hlv := lt64 wH.2.1 hL6
  have hkl : 3 < kl ∧ kl + 7 < 13 ∨ 16 < kl ∧ kl + 7 < 25 := by rcases hk with ⟨rfl, rfl⟩ | ⟨rfl, rfl⟩ <;> omega
  have hks : 3 < ks ∧ ks + 7 < 13 ∨ 16 < ks ∧ ks + 7 < 25 := by rcases hk with ⟨rfl, rfl⟩ | ⟨rfl, rfl⟩ <;> omega
  have hkk : kl + 7 < ks ∨ ks + 7 < kl := by rcases hk with ⟨rfl, rfl⟩ | ⟨rfl, rfl⟩ <;> omega
  obtain ⟨u0, -⟩ := id cU
  obtain ⟨v0, -⟩ := id cK
  have u0' : h[26]? = some (.inr (2, [.int (nI (sUn s)), .int (nI 8), .ref 27, .ref 28, .ref 29, .ref 30])) := u0
  have v0' : h[31]? = some (.inr (2, [.int (nI (sKn s)), .int (nI 2), .ref 32, .ref 33, .ref 34, .ref 35])) := v0
  have hs0 := set_get c0
  refine Spc.go VX5_put (by decide +kernel) (fun _ => Nat.le_of_ble_eq_true rfl) (fun _ => false) 120 ?_
  simp only [nX5_put, kX5_put_0, kX5_put_1, kX5_put_4, kX5_put_5, kX5_put_8, kX5_put_11, kX5_put_12, kX5_put_13, kX5_put_14, kX5_put_17, kX5_put_18, kX5_put_21, kX5_put_22, kX5_put_25, kX5_put_28, kX5_put_30, kX5_put_31, kX5_put_32, kX5_put_35, kX5_put_36, kX5_put_39, kX5_put_42, kX5_put_43, kX5_put_46, kX5_put_47, kX5_put_50, kX5_put_51, kX5_put_54, kX5_put_55, kX5_put_58, ex_1, ex_s, exo_some, xK, xKL, xLdI, xLdA, xLdL, xStI, xStA, xStL, xInc, xBin, xDiv, xBinL, xDivL, xLcmp, xI2l, xL2i, xI2c, xC_eq, xC_ne, xC_lt, xC_ge, xC_gt, xC_le, xZ_eq, xZ_ne, xZ_lt, xZ_ge, xZ_gt, xZ_le, xGo, xTsw, tsw, xDup, xDup2, xPop, xGf, xPfI, xPfR, xiaload, xcaload, xiastore, xcastore, xAlen, xRet, xRetZ, xRetV, xObj, xMmax, xMmin, xCallS, xCallV, xCallI, popN, cs, kont_some, kont_none, noL, not_false_eq_true, Nat.reduceEqDiff, Nat.reduceBEq, Nat.reduceAdd, Nat.reduceLT, Nat.reduceSub, ↓reduceIte, decide_eq_true_eq, Bool.false_eq_true, decide_false, decide_true, or_false, false_or, or_true, true_or, or_self, lsOf_int, lsOf_ref, lsOf_long, lsOf_nil, List.replicate_succ, List.replicate_zero, Nat.add_one_sub_one, List.getElem?_cons_zero, List.getElem?_cons_succ, List.set_cons_zero, List.set_cons_succ, List.length_cons, List.length_nil, cond_true, cond_false, Value.category, List.reverse_nil, List.reverse_cons, List.nil_append, List.cons_append, true_and, and_true, beq_self_eq_true, nI_add, pk_mul, nI_and, nI_or, nI_an, Nat.zero_le, Nat.reduceLeDiff, f_iadd, f_isub, f_imul, f_iand, f_ior, f_ixor, f_ishl, f_ishr, f_iushr, f_idiv, f_irem, f_ladd, f_lmul, f_lrem, true_implies, false_implies, not_true_eq_false, and_self, ss, Option.isSome_some, List.set_set, sn, sn0, s0n, c0', p0]
  refine sp_isThing cP wP ?_
  simp only [nX5_put, kX5_put_0, kX5_put_1, kX5_put_4, kX5_put_5, kX5_put_8, kX5_put_11, kX5_put_12, kX5_put_13, kX5_put_14, kX5_put_17, kX5_put_18, kX5_put_21, kX5_put_22, kX5_put_25, kX5_put_28, kX5_put_30, kX5_put_31, kX5_put_32, kX5_put_35, kX5_put_36, kX5_put_39, kX5_put_42, kX5_put_43, kX5_put_46, kX5_put_47, kX5_put_50, kX5_put_51, kX5_put_54, kX5_put_55, kX5_put_58, ex_1, ex_s, exo_some, xK, xKL, xLdI, xLdA, xLdL, xStI, xStA, xStL, xInc, xBin, xDiv, xBinL, xDivL, xLcmp, xI2l, xL2i, xI2c, xC_eq, xC_ne, xC_lt, xC_ge, xC_gt, xC_le, xZ_eq, xZ_ne, xZ_lt, xZ_ge, xZ_gt, xZ_le, xGo, xTsw, tsw, xDup, xDup2, xPop, xGf, xPfI, xPfR, xiaload, xcaload, xiastore, xcastore, xAlen, xRet, xRetZ, xRetV, xObj, xMmax, xMmin, xCallS, xCallV, xCallI, popN, cs, kont_some, kont_none, noL, not_false_eq_true, Nat.reduceEqDiff, Nat.reduceBEq, Nat.reduceAdd, Nat.reduceLT, Nat.reduceSub, ↓reduceIte, decide_eq_true_eq, Bool.false_eq_true, decide_false, decide_true, or_false, false_or, or_true, true_or, or_self, lsOf_int, lsOf_ref, lsOf_long, lsOf_nil, List.replicate_succ, List.replicate_zero, Nat.add_one_sub_one, List.getElem?_cons_zero, List.getElem?_cons_succ, List.set_cons_zero, List.set_cons_succ, List.length_cons, List.length_nil, cond_true, cond_false, Value.category, List.reverse_nil, List.reverse_cons, List.nil_append, List.cons_append, true_and, and_true, beq_self_eq_true, nI_add, pk_mul, nI_and, nI_or, nI_an, Nat.zero_le, Nat.reduceLeDiff, f_iadd, f_isub, f_imul, f_iand, f_ior, f_ixor, f_ishl, f_ishr, f_iushr, f_idiv, f_irem, f_ladd, f_lmul, f_lrem, true_implies, false_implies, not_true_eq_false, and_self, ss, Option.isSome_some, List.set_set, sn, sn0, s0n, nI_b0, c0', cH, hrC]
  cases hr : decide (0 ≤ t ∧ t < nI (pT (sP s))) with
  | false =>
    simp only [putN, putA, argN_none hr] at kk
    exact ⟨fun z => absurd rfl z, fun _ => kk h hC⟩
  | true =>
    obtain ⟨j, hj, rfl, hq⟩ := argN_some (by omega) hr
    simp only [putN, putA, hq] at kk
    refine ⟨fun _ => sp_canPutBy cP wP cH wH hj ?_, fun z => absurd z (by decide)⟩
    simp only [nX5_put, kX5_put_0, kX5_put_1, kX5_put_4, kX5_put_5, kX5_put_8, kX5_put_11, kX5_put_12, kX5_put_13, kX5_put_14, kX5_put_17, kX5_put_18, kX5_put_21, kX5_put_22, kX5_put_25, kX5_put_28, kX5_put_30, kX5_put_31, kX5_put_32, kX5_put_35, kX5_put_36, kX5_put_39, kX5_put_42, kX5_put_43, kX5_put_46, kX5_put_47, kX5_put_50, kX5_put_51, kX5_put_54, kX5_put_55, kX5_put_58, ex_1, ex_s, exo_some, xK, xKL, xLdI, xLdA, xLdL, xStI, xStA, xStL, xInc, xBin, xDiv, xBinL, xDivL, xLcmp, xI2l, xL2i, xI2c, xC_eq, xC_ne, xC_lt, xC_ge, xC_gt, xC_le, xZ_eq, xZ_ne, xZ_lt, xZ_ge, xZ_gt, xZ_le, xGo, xTsw, tsw, xDup, xDup2, xPop, xGf, xPfI, xPfR, xiaload, xcaload, xiastore, xcastore, xAlen, xRet, xRetZ, xRetV, xObj, xMmax, xMmin, xCallS, xCallV, xCallI, popN, cs, kont_some, kont_none, noL, not_false_eq_true, Nat.reduceEqDiff, Nat.reduceBEq, Nat.reduceAdd, Nat.reduceLT, Nat.reduceSub, ↓reduceIte, decide_eq_true_eq, Bool.false_eq_true, decide_false, decide_true, or_false, false_or, or_true, true_or, or_self, lsOf_int, lsOf_ref, lsOf_long, lsOf_nil, List.replicate_succ, List.replicate_zero, Nat.add_one_sub_one, List.getElem?_cons_zero, List.getElem?_cons_succ, List.set_cons_zero, List.set_cons_succ, List.length_cons, List.length_nil, cond_true, cond_false, Value.category, List.reverse_nil, List.reverse_cons, List.nil_append, List.cons_append, true_and, and_true, beq_self_eq_true, nI_add, pk_mul, nI_and, nI_or, nI_an, Nat.zero_le, Nat.reduceLeDiff, f_iadd, f_isub, f_imul, f_iand, f_ior, f_ixor, f_ishl, f_ishr, f_iushr, f_idiv, f_irem, f_ladd, f_lmul, f_lrem, true_implies, false_implies, not_true_eq_false, and_self, ss, Option.isSome_some, List.set_set, sn, sn0, s0n, nI_b0, c0', u0']
    cases ho : canPutN (sP s) (sH s) j with
    | false =>
      simp only [ho, Bool.false_eq_true, if_false] at kk
      exact ⟨fun z => absurd rfl z, fun _ => kk h hC⟩
    | true =>
      simp only [ho, if_true] at kk
      refine ⟨fun _ => sp_add cU (by decide) cH (by decide) (fun h1 hp1 hf1 => ?_), fun z => absurd z (by decide)⟩
      have C1 := CA.past ⟨c0, cT, cR, cC, cP, cQ, cH, cI, cU, cK⟩ hk hf1 hp1
      obtain ⟨d0, dT, dR, dC, dP, dQ, dH, dI, dU, dK⟩ := id C1
      have dH : h1[13]? = some (hrC (sH s)) := dH
      have dP : PlanAt h1 kl (sP s) := dP
      have d0' : h1[0]? = some (.inr (5, [.ref 1, .int (nI (sTn s)), .ref 2, .ref 14, .ref kl, .ref ks, .ref 13, .ref 25, .ref 26, .ref 31, .int (nI (sSn s)), .int (nI (sSb s)), .int (nI (sSx s))])) := d0
      simp only [nX5_put, kX5_put_0, kX5_put_1, kX5_put_4, kX5_put_5, kX5_put_8, kX5_put_11, kX5_put_12, kX5_put_13, kX5_put_14, kX5_put_17, kX5_put_18, kX5_put_21, kX5_put_22, kX5_put_25, kX5_put_28, kX5_put_30, kX5_put_31, kX5_put_32, kX5_put_35, kX5_put_36, kX5_put_39, kX5_put_42, kX5_put_43, kX5_put_46, kX5_put_47, kX5_put_50, kX5_put_51, kX5_put_54, kX5_put_55, kX5_put_58, ex_1, ex_s, exo_some, xK, xKL, xLdI, xLdA, xLdL, xStI, xStA, xStL, xInc, xBin, xDiv, xBinL, xDivL, xLcmp, xI2l, xL2i, xI2c, xC_eq, xC_ne, xC_lt, xC_ge, xC_gt, xC_le, xZ_eq, xZ_ne, xZ_lt, xZ_ge, xZ_gt, xZ_le, xGo, xTsw, tsw, xDup, xDup2, xPop, xGf, xPfI, xPfR, xiaload, xcaload, xiastore, xcastore, xAlen, xRet, xRetZ, xRetV, xObj, xMmax, xMmin, xCallS, xCallV, xCallI, popN, cs, kont_some, kont_none, noL, not_false_eq_true, Nat.reduceEqDiff, Nat.reduceBEq, Nat.reduceAdd, Nat.reduceLT, Nat.reduceSub, ↓reduceIte, decide_eq_true_eq, Bool.false_eq_true, decide_false, decide_true, or_false, false_or, or_true, true_or, or_self, lsOf_int, lsOf_ref, lsOf_long, lsOf_nil, List.replicate_succ, List.replicate_zero, Nat.add_one_sub_one, List.getElem?_cons_zero, List.getElem?_cons_succ, List.set_cons_zero, List.set_cons_succ, List.length_cons, List.length_nil, cond_true, cond_false, Value.category, List.reverse_nil, List.reverse_cons, List.nil_append, List.cons_append, true_and, and_true, beq_self_eq_true, nI_add, pk_mul, nI_and, nI_or, nI_an, Nat.zero_le, Nat.reduceLeDiff, f_iadd, f_isub, f_imul, f_iand, f_ior, f_ixor, f_ishl, f_ishr, f_iushr, f_idiv, f_irem, f_ladd, f_lmul, f_lrem, true_implies, false_implies, not_true_eq_false, and_self, ss, Option.isSome_some, List.set_set, sn, sn0, s0n, d0', dH, hrC]
      refine sp_putBy dP wP (by omega) dH hj (by simp [canPutN] at ho; show co (sP s) j ≤ cn (sH s); omega) ?_
      have C2 := CA.hour C1 hk (putH (sP s) (sH s) j)
      have C2' : CAt _ _ := ⟨kl, ks, P', r', hk, C2⟩
      obtain ⟨g0, -⟩ := id C2
      have g0' : (h1.set 13 (hrC (putH (sP s) (sH s) j)))[0]? = some (.inr (5, [.ref 1, .int (nI (sTn s)), .ref 2, .ref 14, .ref kl, .ref ks, .ref 13, .ref 25, .ref 26, .ref 31, .int (nI (sSn s)), .int (nI (sSb s)), .int (nI (sSx s))])) := g0
      simp only [nX5_put, kX5_put_0, kX5_put_1, kX5_put_4, kX5_put_5, kX5_put_8, kX5_put_11, kX5_put_12, kX5_put_13, kX5_put_14, kX5_put_17, kX5_put_18, kX5_put_21, kX5_put_22, kX5_put_25, kX5_put_28, kX5_put_30, kX5_put_31, kX5_put_32, kX5_put_35, kX5_put_36, kX5_put_39, kX5_put_42, kX5_put_43, kX5_put_46, kX5_put_47, kX5_put_50, kX5_put_51, kX5_put_54, kX5_put_55, kX5_put_58, ex_1, ex_s, exo_some, xK, xKL, xLdI, xLdA, xLdL, xStI, xStA, xStL, xInc, xBin, xDiv, xBinL, xDivL, xLcmp, xI2l, xL2i, xI2c, xC_eq, xC_ne, xC_lt, xC_ge, xC_gt, xC_le, xZ_eq, xZ_ne, xZ_lt, xZ_ge, xZ_gt, xZ_le, xGo, xTsw, tsw, xDup, xDup2, xPop, xGf, xPfI, xPfR, xiaload, xcaload, xiastore, xcastore, xAlen, xRet, xRetZ, xRetV, xObj, xMmax, xMmin, xCallS, xCallV, xCallI, popN, cs, kont_some, kont_none, noL, not_false_eq_true, Nat.reduceEqDiff, Nat.reduceBEq, Nat.reduceAdd, Nat.reduceLT, Nat.reduceSub, ↓reduceIte, decide_eq_true_eq, Bool.false_eq_true, decide_false, decide_true, or_false, false_or, or_true, true_or, or_self, lsOf_int, lsOf_ref, lsOf_long, lsOf_nil, List.replicate_succ, List.replicate_zero, Nat.add_one_sub_one, List.getElem?_cons_zero, List.getElem?_cons_succ, List.set_cons_zero, List.set_cons_succ, List.length_cons, List.length_nil, cond_true, cond_false, Value.category, List.reverse_nil, List.reverse_cons, List.nil_append, List.cons_append, true_and, and_true, beq_self_eq_true, nI_add, pk_mul, nI_and, nI_or, nI_an, Nat.zero_le, Nat.reduceLeDiff, f_iadd, f_isub, f_imul, f_iand, f_ior, f_ixor, f_ishl, f_ishr, f_iushr, f_idiv, f_irem, f_ladd, f_lmul, f_lrem, true_implies, false_implies, not_true_eq_false, and_self, ss, Option.isSome_some, List.set_set, sn, sn0, s0n, g0']
      refine cl_roomLeft C2' (hW.put (wH.put hj)) ?_
      simp only [nX5_put, kX5_put_0, kX5_put_1, kX5_put_4, kX5_put_5, kX5_put_8, kX5_put_11, kX5_put_12, kX5_put_13, kX5_put_14, kX5_put_17, kX5_put_18, kX5_put_21, kX5_put_22, kX5_put_25, kX5_put_28, kX5_put_30, kX5_put_31, kX5_put_32, kX5_put_35, kX5_put_36, kX5_put_39, kX5_put_42, kX5_put_43, kX5_put_46, kX5_put_47, kX5_put_50, kX5_put_51, kX5_put_54, kX5_put_55, kX5_put_58, ex_1, ex_s, exo_some, xK, xKL, xLdI, xLdA, xLdL, xStI, xStA, xStL, xInc, xBin, xDiv, xBinL, xDivL, xLcmp, xI2l, xL2i, xI2c, xC_eq, xC_ne, xC_lt, xC_ge, xC_gt, xC_le, xZ_eq, xZ_ne, xZ_lt, xZ_ge, xZ_gt, xZ_le, xGo, xTsw, tsw, xDup, xDup2, xPop, xGf, xPfI, xPfR, xiaload, xcaload, xiastore, xcastore, xAlen, xRet, xRetZ, xRetV, xObj, xMmax, xMmin, xCallS, xCallV, xCallI, popN, cs, kont_some, kont_none, noL, not_false_eq_true, Nat.reduceEqDiff, Nat.reduceBEq, Nat.reduceAdd, Nat.reduceLT, Nat.reduceSub, ↓reduceIte, decide_eq_true_eq, Bool.false_eq_true, decide_false, decide_true, or_false, false_or, or_true, true_or, or_self, lsOf_int, lsOf_ref, lsOf_long, lsOf_nil, List.replicate_succ, List.replicate_zero, Nat.add_one_sub_one, List.getElem?_cons_zero, List.getElem?_cons_succ, List.set_cons_zero, List.set_cons_succ, List.length_cons, List.length_nil, cond_true, cond_false, Value.category, List.reverse_nil, List.reverse_cons, List.nil_append, List.cons_append, true_and, and_true, beq_self_eq_true, nI_add, pk_mul, nI_and, nI_or, nI_an, Nat.zero_le, Nat.reduceLeDiff, f_iadd, f_isub, f_imul, f_iand, f_ior, f_ixor, f_ishl, f_ishr, f_iushr, f_idiv, f_irem, f_ladd, f_lmul, f_lrem, true_implies, false_implies, not_true_eq_false, and_self, ss, Option.isSome_some, List.set_set, sn, sn0, s0n]
      exact kk _ C2'
theorem cl_out {s : St} {h : SH} {t : Int32} {K : Option Value → SH → Prop} (hC : CAt h s) (hW : WfS s) (kk : ∀ h', CAt h' (outN s t) → K (some (.int (outA s t))) h') : Spc MX5_out [.ref 0, .int t] h K := by
  obtain ⟨kl, ks, P', r', hk, c0, cT, cR, cC, cP, cQ, cH, cI, cU, cK⟩ := id hC
  obtain ⟨wP, wT, wL, wH, wU, wK, wX, wSn, wSb, wSx⟩ := id hW
  have c0' : h[0]? = some (.inr (5, [.ref 1, .int (nI (sTn s)), .ref 2, .ref 14, .ref kl, .ref ks, .ref 13, .ref 25, .ref 26, .ref 31, .int (nI (sSn s)), .int (nI (sSb s)), .int (nI (sSx s))])) := c0
  obtain ⟨f1, f2, f3, f4, f5, f6, f7, p0, ⟨p1, p2, p3, p4, p5, p6, p7⟩, e1, e2⟩ := id cP
  have hT8 := wP.2.2.1
  have hL6 := wP.2.2.2.1
  have hT31 : pT (sP s) < 2 ^ 31 := by omega
  have hL31 : pL (sP s) < 2 ^ 31 := by omega
  have hd := lt256 wH.1 hT8
  have hlv := lt64 wH.2.1 hL6
  have hkl : 3 < kl ∧ kl + 7 < 13 ∨ 16 < kl ∧ kl + 7 < 25 := by rcases hk with ⟨rfl, rfl⟩ | ⟨rfl, rfl⟩ <;> omega
  have hks : 3 < ks ∧ ks + 7 < 13 ∨ 16 < ks ∧ ks + 7 < 25 := by rcases hk with ⟨rfl, rfl⟩ | ⟨rfl, rfl⟩ <;> omega
  have hkk : kl + 7 < ks ∨ ks + 7 < kl := by rcases hk with ⟨rfl, rfl⟩ | ⟨rfl, rfl⟩ <;> omega
  obtain ⟨u0, -⟩ := id cU
  obtain ⟨v0, -⟩ := id cK
  have u0' : h[26]? = some (.inr (2, [.int (nI (sUn s)), .int (nI 8), .ref 27, .ref 28, .ref 29, .ref 30])) := u0
  have v0' : h[31]? = some (.inr (2, [.int (nI (sKn s)), .int (nI 2), .ref 32, .ref 33, .ref 34, .ref 35])) := v0
  have hs0 := set_get c0
  refine Spc.go VX5_out (by decide +kernel) (fun _ => Nat.le_of_ble_eq_true rfl) (fun _ => false) 120 ?_
  simp only [nX5_out, kX5_out_0, kX5_out_1, kX5_out_4, kX5_out_5, kX5_out_8, kX5_out_11, kX5_out_12, kX5_out_13, kX5_out_14, kX5_out_17, kX5_out_20, kX5_out_21, kX5_out_24, kX5_out_27, kX5_out_29, kX5_out_30, kX5_out_31, kX5_out_34, kX5_out_35, kX5_out_38, kX5_out_41, kX5_out_42, kX5_out_45, kX5_out_46, kX5_out_49, kX5_out_50, kX5_out_53, ex_1, ex_s, exo_some, xK, xKL, xLdI, xLdA, xLdL, xStI, xStA, xStL, xInc, xBin, xDiv, xBinL, xDivL, xLcmp, xI2l, xL2i, xI2c, xC_eq, xC_ne, xC_lt, xC_ge, xC_gt, xC_le, xZ_eq, xZ_ne, xZ_lt, xZ_ge, xZ_gt, xZ_le, xGo, xTsw, tsw, xDup, xDup2, xPop, xGf, xPfI, xPfR, xiaload, xcaload, xiastore, xcastore, xAlen, xRet, xRetZ, xRetV, xObj, xMmax, xMmin, xCallS, xCallV, xCallI, popN, cs, kont_some, kont_none, noL, not_false_eq_true, Nat.reduceEqDiff, Nat.reduceBEq, Nat.reduceAdd, Nat.reduceLT, Nat.reduceSub, ↓reduceIte, decide_eq_true_eq, Bool.false_eq_true, decide_false, decide_true, or_false, false_or, or_true, true_or, or_self, lsOf_int, lsOf_ref, lsOf_long, lsOf_nil, List.replicate_succ, List.replicate_zero, Nat.add_one_sub_one, List.getElem?_cons_zero, List.getElem?_cons_succ, List.set_cons_zero, List.set_cons_succ, List.length_cons, List.length_nil, cond_true, cond_false, Value.category, List.reverse_nil, List.reverse_cons, List.nil_append, List.cons_append, true_and, and_true, beq_self_eq_true, nI_add, pk_mul, nI_and, nI_or, nI_an, Nat.zero_le, Nat.reduceLeDiff, f_iadd, f_isub, f_imul, f_iand, f_ior, f_ixor, f_ishl, f_ishr, f_iushr, f_idiv, f_irem, f_ladd, f_lmul, f_lrem, true_implies, false_implies, not_true_eq_false, and_self, ss, Option.isSome_some, List.set_set, sn, sn0, s0n, c0', p0]
  refine sp_isThing cP wP ?_
  simp only [nX5_out, kX5_out_0, kX5_out_1, kX5_out_4, kX5_out_5, kX5_out_8, kX5_out_11, kX5_out_12, kX5_out_13, kX5_out_14, kX5_out_17, kX5_out_20, kX5_out_21, kX5_out_24, kX5_out_27, kX5_out_29, kX5_out_30, kX5_out_31, kX5_out_34, kX5_out_35, kX5_out_38, kX5_out_41, kX5_out_42, kX5_out_45, kX5_out_46, kX5_out_49, kX5_out_50, kX5_out_53, ex_1, ex_s, exo_some, xK, xKL, xLdI, xLdA, xLdL, xStI, xStA, xStL, xInc, xBin, xDiv, xBinL, xDivL, xLcmp, xI2l, xL2i, xI2c, xC_eq, xC_ne, xC_lt, xC_ge, xC_gt, xC_le, xZ_eq, xZ_ne, xZ_lt, xZ_ge, xZ_gt, xZ_le, xGo, xTsw, tsw, xDup, xDup2, xPop, xGf, xPfI, xPfR, xiaload, xcaload, xiastore, xcastore, xAlen, xRet, xRetZ, xRetV, xObj, xMmax, xMmin, xCallS, xCallV, xCallI, popN, cs, kont_some, kont_none, noL, not_false_eq_true, Nat.reduceEqDiff, Nat.reduceBEq, Nat.reduceAdd, Nat.reduceLT, Nat.reduceSub, ↓reduceIte, decide_eq_true_eq, Bool.false_eq_true, decide_false, decide_true, or_false, false_or, or_true, true_or, or_self, lsOf_int, lsOf_ref, lsOf_long, lsOf_nil, List.replicate_succ, List.replicate_zero, Nat.add_one_sub_one, List.getElem?_cons_zero, List.getElem?_cons_succ, List.set_cons_zero, List.set_cons_succ, List.length_cons, List.length_nil, cond_true, cond_false, Value.category, List.reverse_nil, List.reverse_cons, List.nil_append, List.cons_append, true_and, and_true, beq_self_eq_true, nI_add, pk_mul, nI_and, nI_or, nI_an, Nat.zero_le, Nat.reduceLeDiff, f_iadd, f_isub, f_imul, f_iand, f_ior, f_ixor, f_ishl, f_ishr, f_iushr, f_idiv, f_irem, f_ladd, f_lmul, f_lrem, true_implies, false_implies, not_true_eq_false, and_self, ss, Option.isSome_some, List.set_set, sn, sn0, s0n, nI_b0, c0', cH, hrC]
  cases hr : decide (0 ≤ t ∧ t < nI (pT (sP s))) with
  | false =>
    simp only [outN, outA, argN_none hr] at kk
    exact ⟨fun z => absurd rfl z, fun _ => kk h hC⟩
  | true =>
    obtain ⟨j, hj, rfl, hq⟩ := argN_some (by omega) hr
    simp only [outN, outA, hq] at kk
    refine ⟨fun _ => sp_has (by omega) (by omega) ?_, fun z => absurd z (by decide)⟩
    simp only [nX5_out, kX5_out_0, kX5_out_1, kX5_out_4, kX5_out_5, kX5_out_8, kX5_out_11, kX5_out_12, kX5_out_13, kX5_out_14, kX5_out_17, kX5_out_20, kX5_out_21, kX5_out_24, kX5_out_27, kX5_out_29, kX5_out_30, kX5_out_31, kX5_out_34, kX5_out_35, kX5_out_38, kX5_out_41, kX5_out_42, kX5_out_45, kX5_out_46, kX5_out_49, kX5_out_50, kX5_out_53, ex_1, ex_s, exo_some, xK, xKL, xLdI, xLdA, xLdL, xStI, xStA, xStL, xInc, xBin, xDiv, xBinL, xDivL, xLcmp, xI2l, xL2i, xI2c, xC_eq, xC_ne, xC_lt, xC_ge, xC_gt, xC_le, xZ_eq, xZ_ne, xZ_lt, xZ_ge, xZ_gt, xZ_le, xGo, xTsw, tsw, xDup, xDup2, xPop, xGf, xPfI, xPfR, xiaload, xcaload, xiastore, xcastore, xAlen, xRet, xRetZ, xRetV, xObj, xMmax, xMmin, xCallS, xCallV, xCallI, popN, cs, kont_some, kont_none, noL, not_false_eq_true, Nat.reduceEqDiff, Nat.reduceBEq, Nat.reduceAdd, Nat.reduceLT, Nat.reduceSub, ↓reduceIte, decide_eq_true_eq, Bool.false_eq_true, decide_false, decide_true, or_false, false_or, or_true, true_or, or_self, lsOf_int, lsOf_ref, lsOf_long, lsOf_nil, List.replicate_succ, List.replicate_zero, Nat.add_one_sub_one, List.getElem?_cons_zero, List.getElem?_cons_succ, List.set_cons_zero, List.set_cons_succ, List.length_cons, List.length_nil, cond_true, cond_false, Value.category, List.reverse_nil, List.reverse_cons, List.nil_append, List.cons_append, true_and, and_true, beq_self_eq_true, nI_add, pk_mul, nI_and, nI_or, nI_an, Nat.zero_le, Nat.reduceLeDiff, f_iadd, f_isub, f_imul, f_iand, f_ior, f_ixor, f_ishl, f_ishr, f_iushr, f_idiv, f_irem, f_ladd, f_lmul, f_lrem, true_implies, false_implies, not_true_eq_false, and_self, ss, Option.isSome_some, List.set_set, sn, sn0, s0n, nI_b0, c0', u0']
    cases ho : (dr (sH s)).testBit j with
    | false =>
      simp only [ho, Bool.false_eq_true, if_false] at kk
      exact ⟨fun z => absurd rfl z, fun _ => kk h hC⟩
    | true =>
      simp only [ho, if_true] at kk
      refine ⟨fun _ => sp_add cU (by decide) cH (by decide) (fun h1 hp1 hf1 => ?_), fun z => absurd z (by decide)⟩
      have C1 := CA.past ⟨c0, cT, cR, cC, cP, cQ, cH, cI, cU, cK⟩ hk hf1 hp1
      obtain ⟨d0, dT, dR, dC, dP, dQ, dH, dI, dU, dK⟩ := id C1
      have dH : h1[13]? = some (hrC (sH s)) := dH
      have dP : PlanAt h1 kl (sP s) := dP
      have d0' : h1[0]? = some (.inr (5, [.ref 1, .int (nI (sTn s)), .ref 2, .ref 14, .ref kl, .ref ks, .ref 13, .ref 25, .ref 26, .ref 31, .int (nI (sSn s)), .int (nI (sSb s)), .int (nI (sSx s))])) := d0
      simp only [nX5_out, kX5_out_0, kX5_out_1, kX5_out_4, kX5_out_5, kX5_out_8, kX5_out_11, kX5_out_12, kX5_out_13, kX5_out_14, kX5_out_17, kX5_out_20, kX5_out_21, kX5_out_24, kX5_out_27, kX5_out_29, kX5_out_30, kX5_out_31, kX5_out_34, kX5_out_35, kX5_out_38, kX5_out_41, kX5_out_42, kX5_out_45, kX5_out_46, kX5_out_49, kX5_out_50, kX5_out_53, ex_1, ex_s, exo_some, xK, xKL, xLdI, xLdA, xLdL, xStI, xStA, xStL, xInc, xBin, xDiv, xBinL, xDivL, xLcmp, xI2l, xL2i, xI2c, xC_eq, xC_ne, xC_lt, xC_ge, xC_gt, xC_le, xZ_eq, xZ_ne, xZ_lt, xZ_ge, xZ_gt, xZ_le, xGo, xTsw, tsw, xDup, xDup2, xPop, xGf, xPfI, xPfR, xiaload, xcaload, xiastore, xcastore, xAlen, xRet, xRetZ, xRetV, xObj, xMmax, xMmin, xCallS, xCallV, xCallI, popN, cs, kont_some, kont_none, noL, not_false_eq_true, Nat.reduceEqDiff, Nat.reduceBEq, Nat.reduceAdd, Nat.reduceLT, Nat.reduceSub, ↓reduceIte, decide_eq_true_eq, Bool.false_eq_true, decide_false, decide_true, or_false, false_or, or_true, true_or, or_self, lsOf_int, lsOf_ref, lsOf_long, lsOf_nil, List.replicate_succ, List.replicate_zero, Nat.add_one_sub_one, List.getElem?_cons_zero, List.getElem?_cons_succ, List.set_cons_zero, List.set_cons_succ, List.length_cons, List.length_nil, cond_true, cond_false, Value.category, List.reverse_nil, List.reverse_cons, List.nil_append, List.cons_append, true_and, and_true, beq_self_eq_true, nI_add, pk_mul, nI_and, nI_or, nI_an, Nat.zero_le, Nat.reduceLeDiff, f_iadd, f_isub, f_imul, f_iand, f_ior, f_ixor, f_ishl, f_ishr, f_iushr, f_idiv, f_irem, f_ladd, f_lmul, f_lrem, true_implies, false_implies, not_true_eq_false, and_self, ss, Option.isSome_some, List.set_set, sn, sn0, s0n, d0', dH, hrC]
      refine sp_takeOut dH (by omega) ?_
      have C2 := CA.hour C1 hk (outH (sH s) j)
      have C2' : CAt _ _ := ⟨kl, ks, P', r', hk, C2⟩
      obtain ⟨g0, -⟩ := id C2
      have g0' : (h1.set 13 (hrC (outH (sH s) j)))[0]? = some (.inr (5, [.ref 1, .int (nI (sTn s)), .ref 2, .ref 14, .ref kl, .ref ks, .ref 13, .ref 25, .ref 26, .ref 31, .int (nI (sSn s)), .int (nI (sSb s)), .int (nI (sSx s))])) := g0
      simp only [nX5_out, kX5_out_0, kX5_out_1, kX5_out_4, kX5_out_5, kX5_out_8, kX5_out_11, kX5_out_12, kX5_out_13, kX5_out_14, kX5_out_17, kX5_out_20, kX5_out_21, kX5_out_24, kX5_out_27, kX5_out_29, kX5_out_30, kX5_out_31, kX5_out_34, kX5_out_35, kX5_out_38, kX5_out_41, kX5_out_42, kX5_out_45, kX5_out_46, kX5_out_49, kX5_out_50, kX5_out_53, ex_1, ex_s, exo_some, xK, xKL, xLdI, xLdA, xLdL, xStI, xStA, xStL, xInc, xBin, xDiv, xBinL, xDivL, xLcmp, xI2l, xL2i, xI2c, xC_eq, xC_ne, xC_lt, xC_ge, xC_gt, xC_le, xZ_eq, xZ_ne, xZ_lt, xZ_ge, xZ_gt, xZ_le, xGo, xTsw, tsw, xDup, xDup2, xPop, xGf, xPfI, xPfR, xiaload, xcaload, xiastore, xcastore, xAlen, xRet, xRetZ, xRetV, xObj, xMmax, xMmin, xCallS, xCallV, xCallI, popN, cs, kont_some, kont_none, noL, not_false_eq_true, Nat.reduceEqDiff, Nat.reduceBEq, Nat.reduceAdd, Nat.reduceLT, Nat.reduceSub, ↓reduceIte, decide_eq_true_eq, Bool.false_eq_true, decide_false, decide_true, or_false, false_or, or_true, true_or, or_self, lsOf_int, lsOf_ref, lsOf_long, lsOf_nil, List.replicate_succ, List.replicate_zero, Nat.add_one_sub_one, List.getElem?_cons_zero, List.getElem?_cons_succ, List.set_cons_zero, List.set_cons_succ, List.length_cons, List.length_nil, cond_true, cond_false, Value.category, List.reverse_nil, List.reverse_cons, List.nil_append, List.cons_append, true_and, and_true, beq_self_eq_true, nI_add, pk_mul, nI_and, nI_or, nI_an, Nat.zero_le, Nat.reduceLeDiff, f_iadd, f_isub, f_imul, f_iand, f_ior, f_ixor, f_ishl, f_ishr, f_iushr, f_idiv, f_irem, f_ladd, f_lmul, f_lrem, true_implies, false_implies, not_true_eq_false, and_self, ss, Option.isSome_some, List.set_set, sn, sn0, s0n, g0']
      refine cl_roomLeft C2' (hW.put (wH.out)) ?_
      simp only [nX5_out, kX5_out_0, kX5_out_1, kX5_out_4, kX5_out_5, kX5_out_8, kX5_out_11, kX5_out_12, kX5_out_13, kX5_out_14, kX5_out_17, kX5_out_20, kX5_out_21, kX5_out_24, kX5_out_27, kX5_out_29, kX5_out_30, kX5_out_31, kX5_out_34, kX5_out_35, kX5_out_38, kX5_out_41, kX5_out_42, kX5_out_45, kX5_out_46, kX5_out_49, kX5_out_50, kX5_out_53, ex_1, ex_s, exo_some, xK, xKL, xLdI, xLdA, xLdL, xStI, xStA, xStL, xInc, xBin, xDiv, xBinL, xDivL, xLcmp, xI2l, xL2i, xI2c, xC_eq, xC_ne, xC_lt, xC_ge, xC_gt, xC_le, xZ_eq, xZ_ne, xZ_lt, xZ_ge, xZ_gt, xZ_le, xGo, xTsw, tsw, xDup, xDup2, xPop, xGf, xPfI, xPfR, xiaload, xcaload, xiastore, xcastore, xAlen, xRet, xRetZ, xRetV, xObj, xMmax, xMmin, xCallS, xCallV, xCallI, popN, cs, kont_some, kont_none, noL, not_false_eq_true, Nat.reduceEqDiff, Nat.reduceBEq, Nat.reduceAdd, Nat.reduceLT, Nat.reduceSub, ↓reduceIte, decide_eq_true_eq, Bool.false_eq_true, decide_false, decide_true, or_false, false_or, or_true, true_or, or_self, lsOf_int, lsOf_ref, lsOf_long, lsOf_nil, List.replicate_succ, List.replicate_zero, Nat.add_one_sub_one, List.getElem?_cons_zero, List.getElem?_cons_succ, List.set_cons_zero, List.set_cons_succ, List.length_cons, List.length_nil, cond_true, cond_false, Value.category, List.reverse_nil, List.reverse_cons, List.nil_append, List.cons_append, true_and, and_true, beq_self_eq_true, nI_add, pk_mul, nI_and, nI_or, nI_an, Nat.zero_le, Nat.reduceLeDiff, f_iadd, f_isub, f_imul, f_iand, f_ior, f_ixor, f_ishl, f_ishr, f_iushr, f_idiv, f_irem, f_ladd, f_lmul, f_lrem, true_implies, false_implies, not_true_eq_false, and_self, ss, Option.isSome_some, List.set_set, sn, sn0, s0n]
      exact kk _ C2'
theorem cl_live {s : St} {h : SH} {l : Int32} {K : Option Value → SH → Prop} (hC : CAt h s) (hW : WfS s) (kk : ∀ h', CAt h' (liveN s l) → K (some (.int (liveA s l))) h') : Spc MX5_live [.ref 0, .int l] h K := by
  obtain ⟨kl, ks, P', r', hk, c0, cT, cR, cC, cP, cQ, cH, cI, cU, cK⟩ := id hC
  obtain ⟨wP, wT, wL, wH, wU, wK, wX, wSn, wSb, wSx⟩ := id hW
  have c0' : h[0]? = some (.inr (5, [.ref 1, .int (nI (sTn s)), .ref 2, .ref 14, .ref kl, .ref ks, .ref 13, .ref 25, .ref 26, .ref 31, .int (nI (sSn s)), .int (nI (sSb s)), .int (nI (sSx s))])) := c0
  obtain ⟨f1, f2, f3, f4, f5, f6, f7, p0, ⟨p1, p2, p3, p4, p5, p6, p7⟩, e1, e2⟩ := id cP
  have hT8 := wP.2.2.1
  have hL6 := wP.2.2.2.1
  have hT31 : pT (sP s) < 2 ^ 31 := by omega
  have hL31 : pL (sP s) < 2 ^ 31 := by omega
  have hd := lt256 wH.1 hT8
  have hlv := lt64 wH.2.1 hL6
  have hkl : 3 < kl ∧ kl + 7 < 13 ∨ 16 < kl ∧ kl + 7 < 25 := by rcases hk with ⟨rfl, rfl⟩ | ⟨rfl, rfl⟩ <;> omega
  have hks : 3 < ks ∧ ks + 7 < 13 ∨ 16 < ks ∧ ks + 7 < 25 := by rcases hk with ⟨rfl, rfl⟩ | ⟨rfl, rfl⟩ <;> omega
  have hkk : kl + 7 < ks ∨ ks + 7 < kl := by rcases hk with ⟨rfl, rfl⟩ | ⟨rfl, rfl⟩ <;> omega
  obtain ⟨u0, -⟩ := id cU
  obtain ⟨v0, -⟩ := id cK
  have u0' : h[26]? = some (.inr (2, [.int (nI (sUn s)), .int (nI 8), .ref 27, .ref 28, .ref 29, .ref 30])) := u0
  have v0' : h[31]? = some (.inr (2, [.int (nI (sKn s)), .int (nI 2), .ref 32, .ref 33, .ref 34, .ref 35])) := v0
  have hs0 := set_get c0
  refine Spc.go VX5_live (by decide +kernel) (fun _ => Nat.le_of_ble_eq_true rfl) (fun _ => false) 120 ?_
  simp only [nX5_live, kX5_live_0, kX5_live_1, kX5_live_4, kX5_live_5, kX5_live_8, kX5_live_11, kX5_live_12, kX5_live_13, kX5_live_14, kX5_live_17, kX5_live_18, kX5_live_21, kX5_live_22, kX5_live_25, kX5_live_28, kX5_live_30, kX5_live_31, kX5_live_32, kX5_live_35, kX5_live_36, kX5_live_39, kX5_live_42, kX5_live_43, kX5_live_46, kX5_live_47, kX5_live_50, kX5_live_51, kX5_live_54, ex_1, ex_s, exo_some, xK, xKL, xLdI, xLdA, xLdL, xStI, xStA, xStL, xInc, xBin, xDiv, xBinL, xDivL, xLcmp, xI2l, xL2i, xI2c, xC_eq, xC_ne, xC_lt, xC_ge, xC_gt, xC_le, xZ_eq, xZ_ne, xZ_lt, xZ_ge, xZ_gt, xZ_le, xGo, xTsw, tsw, xDup, xDup2, xPop, xGf, xPfI, xPfR, xiaload, xcaload, xiastore, xcastore, xAlen, xRet, xRetZ, xRetV, xObj, xMmax, xMmin, xCallS, xCallV, xCallI, popN, cs, kont_some, kont_none, noL, not_false_eq_true, Nat.reduceEqDiff, Nat.reduceBEq, Nat.reduceAdd, Nat.reduceLT, Nat.reduceSub, ↓reduceIte, decide_eq_true_eq, Bool.false_eq_true, decide_false, decide_true, or_false, false_or, or_true, true_or, or_self, lsOf_int, lsOf_ref, lsOf_long, lsOf_nil, List.replicate_succ, List.replicate_zero, Nat.add_one_sub_one, List.getElem?_cons_zero, List.getElem?_cons_succ, List.set_cons_zero, List.set_cons_succ, List.length_cons, List.length_nil, cond_true, cond_false, Value.category, List.reverse_nil, List.reverse_cons, List.nil_append, List.cons_append, true_and, and_true, beq_self_eq_true, nI_add, pk_mul, nI_and, nI_or, nI_an, Nat.zero_le, Nat.reduceLeDiff, f_iadd, f_isub, f_imul, f_iand, f_ior, f_ixor, f_ishl, f_ishr, f_iushr, f_idiv, f_irem, f_ladd, f_lmul, f_lrem, true_implies, false_implies, not_true_eq_false, and_self, ss, Option.isSome_some, List.set_set, sn, sn0, s0n, c0', p0]
  refine sp_isLife cP wP ?_
  simp only [nX5_live, kX5_live_0, kX5_live_1, kX5_live_4, kX5_live_5, kX5_live_8, kX5_live_11, kX5_live_12, kX5_live_13, kX5_live_14, kX5_live_17, kX5_live_18, kX5_live_21, kX5_live_22, kX5_live_25, kX5_live_28, kX5_live_30, kX5_live_31, kX5_live_32, kX5_live_35, kX5_live_36, kX5_live_39, kX5_live_42, kX5_live_43, kX5_live_46, kX5_live_47, kX5_live_50, kX5_live_51, kX5_live_54, ex_1, ex_s, exo_some, xK, xKL, xLdI, xLdA, xLdL, xStI, xStA, xStL, xInc, xBin, xDiv, xBinL, xDivL, xLcmp, xI2l, xL2i, xI2c, xC_eq, xC_ne, xC_lt, xC_ge, xC_gt, xC_le, xZ_eq, xZ_ne, xZ_lt, xZ_ge, xZ_gt, xZ_le, xGo, xTsw, tsw, xDup, xDup2, xPop, xGf, xPfI, xPfR, xiaload, xcaload, xiastore, xcastore, xAlen, xRet, xRetZ, xRetV, xObj, xMmax, xMmin, xCallS, xCallV, xCallI, popN, cs, kont_some, kont_none, noL, not_false_eq_true, Nat.reduceEqDiff, Nat.reduceBEq, Nat.reduceAdd, Nat.reduceLT, Nat.reduceSub, ↓reduceIte, decide_eq_true_eq, Bool.false_eq_true, decide_false, decide_true, or_false, false_or, or_true, true_or, or_self, lsOf_int, lsOf_ref, lsOf_long, lsOf_nil, List.replicate_succ, List.replicate_zero, Nat.add_one_sub_one, List.getElem?_cons_zero, List.getElem?_cons_succ, List.set_cons_zero, List.set_cons_succ, List.length_cons, List.length_nil, cond_true, cond_false, Value.category, List.reverse_nil, List.reverse_cons, List.nil_append, List.cons_append, true_and, and_true, beq_self_eq_true, nI_add, pk_mul, nI_and, nI_or, nI_an, Nat.zero_le, Nat.reduceLeDiff, f_iadd, f_isub, f_imul, f_iand, f_ior, f_ixor, f_ishl, f_ishr, f_iushr, f_idiv, f_irem, f_ladd, f_lmul, f_lrem, true_implies, false_implies, not_true_eq_false, and_self, ss, Option.isSome_some, List.set_set, sn, sn0, s0n, nI_b0, c0', cH, hrC]
  cases hr : decide (0 ≤ l ∧ l < nI (pL (sP s))) with
  | false =>
    simp only [liveN, liveA, argN_none hr] at kk
    exact ⟨fun z => absurd rfl z, fun _ => kk h hC⟩
  | true =>
    obtain ⟨j, hj, rfl, hq⟩ := argN_some (by omega) hr
    simp only [liveN, liveA, hq] at kk
    refine ⟨fun _ => sp_canBeLived cP wP cH wH hj ?_, fun z => absurd z (by decide)⟩
    simp only [nX5_live, kX5_live_0, kX5_live_1, kX5_live_4, kX5_live_5, kX5_live_8, kX5_live_11, kX5_live_12, kX5_live_13, kX5_live_14, kX5_live_17, kX5_live_18, kX5_live_21, kX5_live_22, kX5_live_25, kX5_live_28, kX5_live_30, kX5_live_31, kX5_live_32, kX5_live_35, kX5_live_36, kX5_live_39, kX5_live_42, kX5_live_43, kX5_live_46, kX5_live_47, kX5_live_50, kX5_live_51, kX5_live_54, ex_1, ex_s, exo_some, xK, xKL, xLdI, xLdA, xLdL, xStI, xStA, xStL, xInc, xBin, xDiv, xBinL, xDivL, xLcmp, xI2l, xL2i, xI2c, xC_eq, xC_ne, xC_lt, xC_ge, xC_gt, xC_le, xZ_eq, xZ_ne, xZ_lt, xZ_ge, xZ_gt, xZ_le, xGo, xTsw, tsw, xDup, xDup2, xPop, xGf, xPfI, xPfR, xiaload, xcaload, xiastore, xcastore, xAlen, xRet, xRetZ, xRetV, xObj, xMmax, xMmin, xCallS, xCallV, xCallI, popN, cs, kont_some, kont_none, noL, not_false_eq_true, Nat.reduceEqDiff, Nat.reduceBEq, Nat.reduceAdd, Nat.reduceLT, Nat.reduceSub, ↓reduceIte, decide_eq_true_eq, Bool.false_eq_true, decide_false, decide_true, or_false, false_or, or_true, true_or, or_self, lsOf_int, lsOf_ref, lsOf_long, lsOf_nil, List.replicate_succ, List.replicate_zero, Nat.add_one_sub_one, List.getElem?_cons_zero, List.getElem?_cons_succ, List.set_cons_zero, List.set_cons_succ, List.length_cons, List.length_nil, cond_true, cond_false, Value.category, List.reverse_nil, List.reverse_cons, List.nil_append, List.cons_append, true_and, and_true, beq_self_eq_true, nI_add, pk_mul, nI_and, nI_or, nI_an, Nat.zero_le, Nat.reduceLeDiff, f_iadd, f_isub, f_imul, f_iand, f_ior, f_ixor, f_ishl, f_ishr, f_iushr, f_idiv, f_irem, f_ladd, f_lmul, f_lrem, true_implies, false_implies, not_true_eq_false, and_self, ss, Option.isSome_some, List.set_set, sn, sn0, s0n, nI_b0, c0', u0']
    cases ho : canLiveN (sP s) (sH s) j with
    | false =>
      simp only [ho, Bool.false_eq_true, if_false] at kk
      exact ⟨fun z => absurd rfl z, fun _ => kk h hC⟩
    | true =>
      simp only [ho, if_true] at kk
      refine ⟨fun _ => sp_add cU (by decide) cH (by decide) (fun h1 hp1 hf1 => ?_), fun z => absurd z (by decide)⟩
      have C1 := CA.past ⟨c0, cT, cR, cC, cP, cQ, cH, cI, cU, cK⟩ hk hf1 hp1
      obtain ⟨d0, dT, dR, dC, dP, dQ, dH, dI, dU, dK⟩ := id C1
      have dH : h1[13]? = some (hrC (sH s)) := dH
      have dP : PlanAt h1 kl (sP s) := dP
      have d0' : h1[0]? = some (.inr (5, [.ref 1, .int (nI (sTn s)), .ref 2, .ref 14, .ref kl, .ref ks, .ref 13, .ref 25, .ref 26, .ref 31, .int (nI (sSn s)), .int (nI (sSb s)), .int (nI (sSx s))])) := d0
      simp only [nX5_live, kX5_live_0, kX5_live_1, kX5_live_4, kX5_live_5, kX5_live_8, kX5_live_11, kX5_live_12, kX5_live_13, kX5_live_14, kX5_live_17, kX5_live_18, kX5_live_21, kX5_live_22, kX5_live_25, kX5_live_28, kX5_live_30, kX5_live_31, kX5_live_32, kX5_live_35, kX5_live_36, kX5_live_39, kX5_live_42, kX5_live_43, kX5_live_46, kX5_live_47, kX5_live_50, kX5_live_51, kX5_live_54, ex_1, ex_s, exo_some, xK, xKL, xLdI, xLdA, xLdL, xStI, xStA, xStL, xInc, xBin, xDiv, xBinL, xDivL, xLcmp, xI2l, xL2i, xI2c, xC_eq, xC_ne, xC_lt, xC_ge, xC_gt, xC_le, xZ_eq, xZ_ne, xZ_lt, xZ_ge, xZ_gt, xZ_le, xGo, xTsw, tsw, xDup, xDup2, xPop, xGf, xPfI, xPfR, xiaload, xcaload, xiastore, xcastore, xAlen, xRet, xRetZ, xRetV, xObj, xMmax, xMmin, xCallS, xCallV, xCallI, popN, cs, kont_some, kont_none, noL, not_false_eq_true, Nat.reduceEqDiff, Nat.reduceBEq, Nat.reduceAdd, Nat.reduceLT, Nat.reduceSub, ↓reduceIte, decide_eq_true_eq, Bool.false_eq_true, decide_false, decide_true, or_false, false_or, or_true, true_or, or_self, lsOf_int, lsOf_ref, lsOf_long, lsOf_nil, List.replicate_succ, List.replicate_zero, Nat.add_one_sub_one, List.getElem?_cons_zero, List.getElem?_cons_succ, List.set_cons_zero, List.set_cons_succ, List.length_cons, List.length_nil, cond_true, cond_false, Value.category, List.reverse_nil, List.reverse_cons, List.nil_append, List.cons_append, true_and, and_true, beq_self_eq_true, nI_add, pk_mul, nI_and, nI_or, nI_an, Nat.zero_le, Nat.reduceLeDiff, f_iadd, f_isub, f_imul, f_iand, f_ior, f_ixor, f_ishl, f_ishr, f_iushr, f_idiv, f_irem, f_ladd, f_lmul, f_lrem, true_implies, false_implies, not_true_eq_false, and_self, ss, Option.isSome_some, List.set_set, sn, sn0, s0n, d0', dH, hrC]
      refine sp_liveLife dP wP (by omega) dH hj ?_
      have C2 := CA.hour C1 hk (liveH (sP s) (sH s) j)
      have C2' : CAt _ _ := ⟨kl, ks, P', r', hk, C2⟩
      obtain ⟨g0, -⟩ := id C2
      simp only [nX5_live, kX5_live_0, kX5_live_1, kX5_live_4, kX5_live_5, kX5_live_8, kX5_live_11, kX5_live_12, kX5_live_13, kX5_live_14, kX5_live_17, kX5_live_18, kX5_live_21, kX5_live_22, kX5_live_25, kX5_live_28, kX5_live_30, kX5_live_31, kX5_live_32, kX5_live_35, kX5_live_36, kX5_live_39, kX5_live_42, kX5_live_43, kX5_live_46, kX5_live_47, kX5_live_50, kX5_live_51, kX5_live_54, ex_1, ex_s, exo_some, xK, xKL, xLdI, xLdA, xLdL, xStI, xStA, xStL, xInc, xBin, xDiv, xBinL, xDivL, xLcmp, xI2l, xL2i, xI2c, xC_eq, xC_ne, xC_lt, xC_ge, xC_gt, xC_le, xZ_eq, xZ_ne, xZ_lt, xZ_ge, xZ_gt, xZ_le, xGo, xTsw, tsw, xDup, xDup2, xPop, xGf, xPfI, xPfR, xiaload, xcaload, xiastore, xcastore, xAlen, xRet, xRetZ, xRetV, xObj, xMmax, xMmin, xCallS, xCallV, xCallI, popN, cs, kont_some, kont_none, noL, not_false_eq_true, Nat.reduceEqDiff, Nat.reduceBEq, Nat.reduceAdd, Nat.reduceLT, Nat.reduceSub, ↓reduceIte, decide_eq_true_eq, Bool.false_eq_true, decide_false, decide_true, or_false, false_or, or_true, true_or, or_self, lsOf_int, lsOf_ref, lsOf_long, lsOf_nil, List.replicate_succ, List.replicate_zero, Nat.add_one_sub_one, List.getElem?_cons_zero, List.getElem?_cons_succ, List.set_cons_zero, List.set_cons_succ, List.length_cons, List.length_nil, cond_true, cond_false, Value.category, List.reverse_nil, List.reverse_cons, List.nil_append, List.cons_append, true_and, and_true, beq_self_eq_true, nI_add, pk_mul, nI_and, nI_or, nI_an, Nat.zero_le, Nat.reduceLeDiff, f_iadd, f_isub, f_imul, f_iand, f_ior, f_ixor, f_ishl, f_ishr, f_iushr, f_idiv, f_irem, f_ladd, f_lmul, f_lrem, true_implies, false_implies, not_true_eq_false, and_self, ss, Option.isSome_some, List.set_set, sn, sn0, s0n]
      exact kk _ C2'
