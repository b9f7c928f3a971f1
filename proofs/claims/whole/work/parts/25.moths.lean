/-! ===== sums of products over sets ===== -/
def prd (f : Nat → Nat) : Nat → Nat
  | 0 => 1
  | n + 1 => prd f n * f n
theorem prd_cong {f g : Nat → Nat} : ∀ {n : Nat}, (∀ i, i < n → f i = g i) → prd f n = prd g n
  | 0, _ => rfl
  | n + 1, h => by rw [prd, prd, prd_cong (fun i hi => h i (by omega)), h n (by omega)]
theorem prd_ones {f : Nat → Nat} {T : Nat} (h : ∀ t, T ≤ t → f t = 1) : ∀ d, prd f (T + d) = prd f T
  | 0 => rfl
  | d + 1 => by rw [Nat.add_succ, prd, prd_ones h d, h _ (by omega), Nat.mul_one]
theorem prd_le {f : Nat → Nat} {c : Nat} : ∀ {n : Nat}, (∀ i, i < n → f i ≤ c) → prd f n ≤ c ^ n
  | 0, _ => Nat.le_refl _
  | n + 1, h => by rw [prd, Nat.pow_succ]; exact Nat.mul_le_mul (prd_le (fun i hi => h i (by omega))) (h n (by omega))
theorem prd_zero {f : Nat → Nat} : ∀ {n i : Nat}, i < n → f i = 0 → prd f n = 0
  | n + 1, i, hi, h => by
    rw [prd]
    by_cases e : i = n
    · subst e; rw [h, Nat.mul_zero]
    · rw [prd_zero (show i < n by omega) h, Nat.zero_mul]
theorem prd_pow (c : Nat) (p : Nat → Bool) : ∀ n, prd (fun t => if p t = true then c else 1) n = c ^ fb_ct p n
  | 0 => rfl
  | n + 1 => by
    rw [prd, prd_pow c p n, fb_ct_succ]
    cases p n with
    | true => simp [Nat.pow_succ]
    | false => simp
def wyv (a b : Nat) (d s : Bool) : Nat := if d = true then (if s = true then a else b) else if s = true then 0 else 1
theorem prd_sub {a b : Nat} {d s : Nat → Bool} : ∀ {n : Nat}, (∀ t, t < n → s t = true → d t = true) → prd (fun t => wyv a b (d t) (s t)) n = a ^ fb_ct s n * b ^ fb_ct (fun t => d t && !s t) n
  | 0, _ => rfl
  | n + 1, h => by
    have h1 := h n (by omega)
    rw [prd, prd_sub (fun t ht => h t (by omega)), fb_ct_succ, fb_ct_succ]
    unfold wyv
    cases hs : s n with
    | true =>
      have hd := h1 hs
      simp only [hd, if_true, Bool.not_true, Bool.and_false, Bool.false_eq_true, if_false, Nat.add_zero, Nat.pow_succ]
      rw [Nat.mul_assoc, Nat.mul_assoc, Nat.mul_comm a]
    | false =>
      cases hd : d n with
      | true => simp [Nat.pow_succ, Nat.mul_assoc]
      | false => simp
theorem sum_mulr (f : Nat → Nat) (c : Nat) : ∀ n, fb_sm (fun k => f k * c) n = fb_sm f n * c
  | 0 => by simp [fb_sm]
  | n + 1 => by rw [fb_sm_succ, fb_sm_succ, sum_mulr f c n, Nat.add_mul]
theorem tb_hi {S n : Nat} (h : S < 2 ^ n) : S.testBit n = false := Nat.testBit_lt_two_pow h
theorem sum_prd (v : Nat → Bool → Nat) : ∀ n, fb_sm (fun S => prd (fun t => v t (S.testBit t)) n) (2 ^ n) = prd (fun t => v t false + v t true) n
  | 0 => by simp [fb_sm, prd]
  | n + 1 => by
    have e : 2 ^ (n + 1) = 2 ^ n + 2 ^ n := by omega
    have h1 : fb_sm (fun S => prd (fun t => v t (S.testBit t)) (n + 1)) (2 ^ n) = fb_sm (fun S => prd (fun t => v t (S.testBit t)) n) (2 ^ n) * v n false := by
      rw [← sum_mulr]
      exact fb_sm_cong (fun S hS => by rw [prd, tb_hi hS])
    have h2 : fb_sm (fun S => prd (fun t => v t ((2 ^ n + S).testBit t)) (n + 1)) (2 ^ n) = fb_sm (fun S => prd (fun t => v t (S.testBit t)) n) (2 ^ n) * v n true := by
      rw [← sum_mulr]
      exact fb_sm_cong (fun S hS => by
        rw [prd, Nat.testBit_two_pow_add_eq, tb_hi hS]
        congr 1
        exact prd_cong (fun t ht => by rw [Nat.testBit_two_pow_add_gt ht]))
    rw [e, fb_sm_split, h1, h2, sum_prd v n, ← Nat.mul_add, prd]
/-- a sum over all sets doesn't change when each set is turned over by one set -/
theorem sum_xor (D : Nat) : ∀ (n : Nat) (g : Nat → Nat), D < 2 ^ n → fb_sm (fun S => g (D ^^^ S)) (2 ^ n) = fb_sm g (2 ^ n) := by
  intro n
  induction n generalizing D with
  | zero =>
    intro g hD
    have e : D = 0 := by omega
    subst e
    simp
  | succ n ih =>
    intro g hD
    have e : 2 ^ (n + 1) = 2 ^ n + 2 ^ n := by omega
    have px : ∀ {a : Nat}, a < 2 ^ n → 2 ^ n + a = 2 ^ n ^^^ a := fun {a} ha => by
      apply Nat.eq_of_testBit_eq
      intro i
      rw [Nat.testBit_xor, Nat.testBit_two_pow]
      by_cases h : i = n
      · subst h
        rw [Nat.testBit_two_pow_add_eq, tb_hi ha]
        simp
      · by_cases h2 : i < n
        · rw [Nat.testBit_two_pow_add_gt h2, decide_eq_false (by omega)]
          simp
        · have a1 : 2 ^ n + a < 2 ^ i := by
            have := Nat.pow_le_pow_right (n := 2) (by decide) (show n + 1 ≤ i by omega)
            omega
          have a2 : a < 2 ^ i := by omega
          rw [Nat.testBit_lt_two_pow a1, Nat.testBit_lt_two_pow a2, decide_eq_false (by omega)]
          rfl
    by_cases hd : D < 2 ^ n
    · rw [e, fb_sm_split, fb_sm_split, ih D g hd, ← ih D (fun k => g (2 ^ n + k)) hd]
      congr 1
      refine fb_sm_cong (fun S hS => ?_)
      show g (D ^^^ (2 ^ n + S)) = g (2 ^ n + (D ^^^ S))
      rw [px hS, px (Nat.xor_lt_two_pow hd hS), ← Nat.xor_assoc, Nat.xor_comm D, Nat.xor_assoc]
    · have hE : D - 2 ^ n < 2 ^ n := by omega
      have eD : D = 2 ^ n ^^^ (D - 2 ^ n) := by rw [← px hE]; omega
      have s1 : fb_sm (fun S => g (D ^^^ S)) (2 ^ n) = fb_sm (fun k => g (2 ^ n + k)) (2 ^ n) := by
        rw [← ih (D - 2 ^ n) (fun k => g (2 ^ n + k)) hE]
        refine fb_sm_cong (fun S hS => ?_)
        show g (D ^^^ S) = g (2 ^ n + ((D - 2 ^ n) ^^^ S))
        rw [px (Nat.xor_lt_two_pow hE hS), ← Nat.xor_assoc, ← eD]
      have s2 : fb_sm (fun S => g (D ^^^ (2 ^ n + S))) (2 ^ n) = fb_sm g (2 ^ n) := by
        rw [← ih (D - 2 ^ n) g hE]
        refine fb_sm_cong (fun S hS => ?_)
        show g (D ^^^ (2 ^ n + S)) = g ((D - 2 ^ n) ^^^ S)
        rw [px hS, ← Nat.xor_assoc]
        congr 2
        calc D ^^^ 2 ^ n = (2 ^ n ^^^ (D - 2 ^ n)) ^^^ 2 ^ n := by rw [← eD]
          _ = D - 2 ^ n := by rw [Nat.xor_comm, ← Nat.xor_assoc, Nat.xor_self, Nat.zero_xor]
      rw [e, fb_sm_split, fb_sm_split, s1, s2, Nat.add_comm]
/-! ===== moths ===== -/
def mthF (P : Pl) (D l x S : Nat) : Nat := if (decide (an S D = 0) && canN P l S) = true then (10 - x) ^ ones S * x ^ (ones D - ones S) else 0
def mthS (P : Pl) (D l x : Nat) : Nat := fb_sm (mthF P D l x) (D + 1)
theorem an_zero {S D : Nat} : an S D = 0 ↔ ∀ t, S.testBit t = true → D.testBit t = true := by
  constructor
  · intro h t ht
    have := an_tb S D t
    rw [h, ht, Nat.zero_testBit] at this
    cases hd : D.testBit t with
    | true => rfl
    | false => rw [hd] at this; cases this
  · intro h
    apply Nat.eq_of_testBit_eq
    intro t
    rw [an_tb, Nat.zero_testBit]
    cases hs : S.testBit t with
    | true => rw [h t hs]; rfl
    | false => rfl
theorem ones_sub8 {S D : Nat} (h : ∀ t, S.testBit t = true → D.testBit t = true) : ones S + fb_ct (fun t => D.testBit t && !S.testBit t) 8 = ones D := by
  unfold ones
  rw [← fb_ct_or (fun k _ q => by rcases q with ⟨a, b⟩; rw [a] at b; simp at b)]
  exact fb_ct_cong (fun k _ => by
    cases hs : S.testBit k with
    | true => rw [h k hs]; rfl
    | false => simp)
/-- one set's share as a product over the things -/
def mthP (D x T S : Nat) : Nat := prd (fun t => wyv (10 - x) x (D.testBit t) (S.testBit t)) T
theorem mthP_eq {D x T S : Nat} (hD : D < 2 ^ T) (hT : T ≤ 8) (hS : S < 2 ^ T) : mthP D x T S = if an S D = 0 then (10 - x) ^ ones S * x ^ (ones D - ones S) else 0 := by
  by_cases h : an S D = 0
  · rw [if_pos h]
    have hs := an_zero.mp h
    have e := ones_sub8 hs
    have e2 : ones D - ones S = fb_ct (fun t => D.testBit t && !S.testBit t) 8 := by omega
    have e3 : 8 = T + (8 - T) := by omega
    rw [e2]
    unfold ones mthP
    rw [← prd_sub (fun t _ => hs t), e3]
    refine (prd_ones (fun t ht => ?_) _).symm
    have a : D.testBit t = false := Nat.testBit_lt_two_pow (Nat.lt_of_lt_of_le hD (Nat.pow_le_pow_right (by decide) ht))
    have b : S.testBit t = false := Nat.testBit_lt_two_pow (Nat.lt_of_lt_of_le hS (Nat.pow_le_pow_right (by decide) ht))
    rw [a, b]; rfl
  · rw [if_neg h]
    have : ∃ t, t < T ∧ S.testBit t = true ∧ D.testBit t = false := by
      apply Classical.byContradiction
      intro q
      refine h (an_zero.mpr (fun t ht => ?_))
      cases hd : D.testBit t with
      | true => rfl
      | false =>
        refine absurd ⟨t, ?_, ht, hd⟩ q
        apply Classical.byContradiction
        intro z
        rw [Nat.testBit_lt_two_pow (Nat.lt_of_lt_of_le hS (Nat.pow_le_pow_right (by decide) (show T ≤ t by omega)))] at ht
        cases ht
    obtain ⟨t, ht, a, b⟩ := this
    exact prd_zero ht (by rw [a, b]; rfl)
theorem mthF_eq {P : Pl} {D l x T S : Nat} (hD : D < 2 ^ T) (hT : T ≤ 8) (hS : S < 2 ^ T) : mthF P D l x S = if canN P l S = true then mthP D x T S else 0 := by
  rw [mthP_eq hD hT hS, mthF]
  by_cases h : an S D = 0 <;> cases canN P l S <;> simp [h]
theorem mthS_eq {P : Pl} {D l x T : Nat} (hD : D < 2 ^ T) : mthS P D l x = fb_sm (mthF P D l x) (2 ^ T) := by
  have e : 2 ^ T = (D + 1) + (2 ^ T - (D + 1)) := by omega
  rw [e, fb_sm_split, mthS]
  have : fb_sm (fun k => mthF P D l x (D + 1 + k)) (2 ^ T - (D + 1)) = 0 := by
    have h : ∀ k, k < 2 ^ T - (D + 1) → (fun k => mthF P D l x (D + 1 + k)) k ≤ 0 := fun k _ => by
      show mthF P D l x (D + 1 + k) ≤ 0
      have hne : ¬ an (D + 1 + k) D = 0 := fun q => by
        have hs := an_zero.mp q
        have : D + 1 + k ≤ D := Nat.le_of_testBit hs
        omega
      rw [mthF, decide_eq_false hne]
      simp
    have := fb_sm_bound h
    omega
  omega
theorem mthS_le {P : Pl} {D l x T : Nat} (hD : D < 2 ^ T) (hT : T ≤ 8) (hx : x ≤ 10) : mthS P D l x ≤ 100000000 := by
  rw [mthS_eq hD]
  have h1 : fb_sm (mthF P D l x) (2 ^ T) ≤ fb_sm (fun S => mthP D x T S) (2 ^ T) := fb_sm_le (fun S hS => by
    rw [mthF_eq hD hT hS]
    split
    · exact Nat.le_refl _
    · exact Nat.zero_le _)
  have h2 : fb_sm (fun S => mthP D x T S) (2 ^ T) = prd (fun t => wyv (10 - x) x (D.testBit t) false + wyv (10 - x) x (D.testBit t) true) T := sum_prd (fun t b => wyv (10 - x) x (D.testBit t) b) T
  have h3 : prd (fun t => wyv (10 - x) x (D.testBit t) false + wyv (10 - x) x (D.testBit t) true) T ≤ 10 ^ T := prd_le (fun t _ => by
    unfold wyv
    cases D.testBit t <;> simp <;> omega)
  have h4 : 10 ^ T ≤ 10 ^ 8 := Nat.pow_le_pow_right (by decide) hT
  omega
def mothsA (s : St) (l x part : Int32) : Int32 := match argN l (pL (sP s)), argN x 11, argN part 2 with
  | some a, some b, some c => nI (partN (mthS (sP s) (dr (sH s)) a b) (10 ^ ones (dr (sH s))) c)
  | _, _, _ => -1
theorem cl_chance {s : St} {h : SH} {l x : Nat} {K : Option Value → SH → Prop} (hC : CAt h s) (hW : WfS s) (hl : l < pL (sP s)) (hx : x ≤ 10) (kk : K (some (.int (nI (mthS (sP s) (dr (sH s)) l x)))) h) : Spc MX5_chanceBehindMoths [.ref 0, .int (nI l), .int (nI x)] h K := by
  obtain ⟨kl, ks, P', r', hk, c0, cT, cR, cC, cP, cQ, cH, cI, cU, cK⟩ := id hC
  obtain ⟨wP, wT, wL, wH, wU, wK, wX, wSn, wSb, wSx⟩ := id hW
  have c0' : h[0]? = some (.inr (5, [.ref 1, .int (nI (sTn s)), .ref 2, .ref 14, .ref kl, .ref ks, .ref 13, .ref 25, .ref 26, .ref 31, .int (nI (sSn s)), .int (nI (sSb s)), .int (nI (sSx s))])) := c0
  obtain ⟨f1, f2, f3, f4, f5, f6, f7, p0, ⟨p1, p2, p3, p4, p5, p6, p7⟩, e1, e2⟩ := id cP
  have hT8 := wP.2.2.1
  have hL6 := wP.2.2.2.1
  have hT31 : pT (sP s) < 2 ^ 31 := by omega
  have hL31 : pL (sP s) < 2 ^ 31 := by omega
  have hd := lt256 wH.1 hT8
  have hlv := lt64 wH.2.1 hL6
  have hkl : 3 < kl ∧ kl + 7 < 13 ∨ 16 < kl ∧ kl + 7 < 25 := by rcases hk with ⟨rfl, rfl⟩ | ⟨rfl, rfl⟩ <;> omega
  have hks : 3 < ks ∧ ks + 7 < 13 ∨ 16 < ks ∧ ks + 7 < 25 := by rcases hk with ⟨rfl, rfl⟩ | ⟨rfl, rfl⟩ <;> omega
  have hkk : kl + 7 < ks ∨ ks + 7 < kl := by rcases hk with ⟨rfl, rfl⟩ | ⟨rfl, rfl⟩ <;> omega
  obtain ⟨u0, -⟩ := id cU
  obtain ⟨v0, -⟩ := id cK
  have u0' : h[26]? = some (.inr (2, [.int (nI (sUn s)), .int (nI 8), .ref 27, .ref 28, .ref 29, .ref 30])) := u0
  have v0' : h[31]? = some (.inr (2, [.int (nI (sKn s)), .int (nI 2), .ref 32, .ref 33, .ref 34, .ref 35])) := v0
  have hs0 := set_get c0
  have key := loopN (P := fun k => ∀ o, SW MX5_chanceBehindMoths K 0 0 17 [some (.ref 0), some (.int (nI l)), some (.int (nI x)), some (.int (nI (ones (dr (sH s))))), some (.int (nI (fb_sm (mthF (sP s) (dr (sH s)) l x) k))), some (.int (nI k)), o] [] h) (dr (sH s) + 1) (by
      intro o
      refine SW.go VX5_chanceBehindMoths (Nat.zero_le _) (Nat.zero_le _) (fun q => decide (q = 17)) 120 ?_
      simp only [nX5_chanceBehindMoths, kX5_chanceBehindMoths_0, kX5_chanceBehindMoths_1, kX5_chanceBehindMoths_4, kX5_chanceBehindMoths_7, kX5_chanceBehindMoths_10, kX5_chanceBehindMoths_11, kX5_chanceBehindMoths_12, kX5_chanceBehindMoths_14, kX5_chanceBehindMoths_15, kX5_chanceBehindMoths_17, kX5_chanceBehindMoths_19, kX5_chanceBehindMoths_20, kX5_chanceBehindMoths_23, kX5_chanceBehindMoths_26, kX5_chanceBehindMoths_29, kX5_chanceBehindMoths_31, kX5_chanceBehindMoths_32, kX5_chanceBehindMoths_35, kX5_chanceBehindMoths_38, kX5_chanceBehindMoths_39, kX5_chanceBehindMoths_40, kX5_chanceBehindMoths_41, kX5_chanceBehindMoths_44, kX5_chanceBehindMoths_45, kX5_chanceBehindMoths_48, kX5_chanceBehindMoths_49, kX5_chanceBehindMoths_51, kX5_chanceBehindMoths_54, kX5_chanceBehindMoths_57, kX5_chanceBehindMoths_59, kX5_chanceBehindMoths_62, kX5_chanceBehindMoths_64, kX5_chanceBehindMoths_66, kX5_chanceBehindMoths_68, kX5_chanceBehindMoths_69, kX5_chanceBehindMoths_70, kX5_chanceBehindMoths_72, kX5_chanceBehindMoths_75, kX5_chanceBehindMoths_76, kX5_chanceBehindMoths_77, kX5_chanceBehindMoths_79, kX5_chanceBehindMoths_80, kX5_chanceBehindMoths_83, kX5_chanceBehindMoths_84, kX5_chanceBehindMoths_85, kX5_chanceBehindMoths_87, kX5_chanceBehindMoths_90, kX5_chanceBehindMoths_93, kX5_chanceBehindMoths_95, ex_1, ex_s, exo_some, xK, xKL, xLdI, xLdA, xLdL, xStI, xStA, xStL, xInc, xBin, xDiv, xBinL, xDivL, xLcmp, xI2l, xL2i, xI2c, xC_eq, xC_ne, xC_lt, xC_ge, xC_gt, xC_le, xZ_eq, xZ_ne, xZ_lt, xZ_ge, xZ_gt, xZ_le, xGo, xTsw, tsw, xDup, xDup2, xPop, xGf, xPfI, xPfR, xiaload, xcaload, xiastore, xcastore, xAlen, xRet, xRetZ, xRetV, xObj, xMmax, xMmin, xCallS, xCallV, xCallI, popN, cs, kont_some, kont_none, noL, not_false_eq_true, Nat.reduceEqDiff, Nat.reduceBEq, Nat.reduceAdd, Nat.reduceLT, Nat.reduceSub, ↓reduceIte, decide_eq_true_eq, Bool.false_eq_true, decide_false, decide_true, or_false, false_or, or_true, true_or, or_self, lsOf_int, lsOf_ref, lsOf_long, lsOf_nil, List.replicate_succ, List.replicate_zero, Nat.add_one_sub_one, List.getElem?_cons_zero, List.getElem?_cons_succ, List.set_cons_zero, List.set_cons_succ, List.length_cons, List.length_nil, cond_true, cond_false, Value.category, List.reverse_nil, List.reverse_cons, List.nil_append, List.cons_append, true_and, and_true, beq_self_eq_true, nI_add, pk_mul, nI_and, nI_or, nI_an, Nat.zero_le, Nat.reduceLeDiff, f_iadd, f_isub, f_imul, f_iand, f_ior, f_ixor, f_ishl, f_ishr, f_iushr, f_idiv, f_irem, f_ladd, f_lmul, f_lrem, true_implies, false_implies, not_true_eq_false, and_self, ss, Option.isSome_some, List.set_set, sn, sn0, s0n, c0', p0, cH, hrC, nI_ltI (show dr (sH s) < 2 ^ 31 by omega) (show dr (sH s) + 1 < 2 ^ 31 by omega)]
      exact ⟨fun _ => kk, fun q => absurd (Nat.lt_succ_self _) q⟩) (fun k hk2 ih => by
      intro o
      have hk8 : k < 256 := by omega
      rw [fb_sm_succ, mthF] at ih
      refine SW.go VX5_chanceBehindMoths (Nat.zero_le _) (Nat.zero_le _) (fun q => decide (q = 17)) 120 ?_
      simp only [nX5_chanceBehindMoths, kX5_chanceBehindMoths_0, kX5_chanceBehindMoths_1, kX5_chanceBehindMoths_4, kX5_chanceBehindMoths_7, kX5_chanceBehindMoths_10, kX5_chanceBehindMoths_11, kX5_chanceBehindMoths_12, kX5_chanceBehindMoths_14, kX5_chanceBehindMoths_15, kX5_chanceBehindMoths_17, kX5_chanceBehindMoths_19, kX5_chanceBehindMoths_20, kX5_chanceBehindMoths_23, kX5_chanceBehindMoths_26, kX5_chanceBehindMoths_29, kX5_chanceBehindMoths_31, kX5_chanceBehindMoths_32, kX5_chanceBehindMoths_35, kX5_chanceBehindMoths_38, kX5_chanceBehindMoths_39, kX5_chanceBehindMoths_40, kX5_chanceBehindMoths_41, kX5_chanceBehindMoths_44, kX5_chanceBehindMoths_45, kX5_chanceBehindMoths_48, kX5_chanceBehindMoths_49, kX5_chanceBehindMoths_51, kX5_chanceBehindMoths_54, kX5_chanceBehindMoths_57, kX5_chanceBehindMoths_59, kX5_chanceBehindMoths_62, kX5_chanceBehindMoths_64, kX5_chanceBehindMoths_66, kX5_chanceBehindMoths_68, kX5_chanceBehindMoths_69, kX5_chanceBehindMoths_70, kX5_chanceBehindMoths_72, kX5_chanceBehindMoths_75, kX5_chanceBehindMoths_76, kX5_chanceBehindMoths_77, kX5_chanceBehindMoths_79, kX5_chanceBehindMoths_80, kX5_chanceBehindMoths_83, kX5_chanceBehindMoths_84, kX5_chanceBehindMoths_85, kX5_chanceBehindMoths_87, kX5_chanceBehindMoths_90, kX5_chanceBehindMoths_93, kX5_chanceBehindMoths_95, ex_1, ex_s, exo_some, xK, xKL, xLdI, xLdA, xLdL, xStI, xStA, xStL, xInc, xBin, xDiv, xBinL, xDivL, xLcmp, xI2l, xL2i, xI2c, xC_eq, xC_ne, xC_lt, xC_ge, xC_gt, xC_le, xZ_eq, xZ_ne, xZ_lt, xZ_ge, xZ_gt, xZ_le, xGo, xTsw, tsw, xDup, xDup2, xPop, xGf, xPfI, xPfR, xiaload, xcaload, xiastore, xcastore, xAlen, xRet, xRetZ, xRetV, xObj, xMmax, xMmin, xCallS, xCallV, xCallI, popN, cs, kont_some, kont_none, noL, not_false_eq_true, Nat.reduceEqDiff, Nat.reduceBEq, Nat.reduceAdd, Nat.reduceLT, Nat.reduceSub, ↓reduceIte, decide_eq_true_eq, Bool.false_eq_true, decide_false, decide_true, or_false, false_or, or_true, true_or, or_self, lsOf_int, lsOf_ref, lsOf_long, lsOf_nil, List.replicate_succ, List.replicate_zero, Nat.add_one_sub_one, List.getElem?_cons_zero, List.getElem?_cons_succ, List.set_cons_zero, List.set_cons_succ, List.length_cons, List.length_nil, cond_true, cond_false, Value.category, List.reverse_nil, List.reverse_cons, List.nil_append, List.cons_append, true_and, and_true, beq_self_eq_true, nI_add, pk_mul, nI_and, nI_or, nI_an, Nat.zero_le, Nat.reduceLeDiff, f_iadd, f_isub, f_imul, f_iand, f_ior, f_ixor, f_ishl, f_ishr, f_iushr, f_idiv, f_irem, f_ladd, f_lmul, f_lrem, true_implies, false_implies, not_true_eq_false, and_self, ss, Option.isSome_some, List.set_set, sn, sn0, s0n, c0', p0, cH, hrC, nI_ltI (show dr (sH s) < 2 ^ 31 by omega) (show k < 2 ^ 31 by omega), nI_z (show an k (dr (sH s)) < 2 ^ 31 by have := an256 (b := dr (sH s)) (show k < 256 by omega); omega)]
      refine ⟨fun q => absurd q (by omega), fun _ => ⟨fun q => ?_, fun q => sp_canBe cP wP hl hk8 ?_⟩⟩
      · simp only [decide_eq_false q, Bool.false_and, Bool.false_eq_true, if_false, Nat.add_zero] at ih
        exact ih _
      · simp only [decide_eq_true q, Bool.true_and] at ih
        simp only [nX5_chanceBehindMoths, kX5_chanceBehindMoths_0, kX5_chanceBehindMoths_1, kX5_chanceBehindMoths_4, kX5_chanceBehindMoths_7, kX5_chanceBehindMoths_10, kX5_chanceBehindMoths_11, kX5_chanceBehindMoths_12, kX5_chanceBehindMoths_14, kX5_chanceBehindMoths_15, kX5_chanceBehindMoths_17, kX5_chanceBehindMoths_19, kX5_chanceBehindMoths_20, kX5_chanceBehindMoths_23, kX5_chanceBehindMoths_26, kX5_chanceBehindMoths_29, kX5_chanceBehindMoths_31, kX5_chanceBehindMoths_32, kX5_chanceBehindMoths_35, kX5_chanceBehindMoths_38, kX5_chanceBehindMoths_39, kX5_chanceBehindMoths_40, kX5_chanceBehindMoths_41, kX5_chanceBehindMoths_44, kX5_chanceBehindMoths_45, kX5_chanceBehindMoths_48, kX5_chanceBehindMoths_49, kX5_chanceBehindMoths_51, kX5_chanceBehindMoths_54, kX5_chanceBehindMoths_57, kX5_chanceBehindMoths_59, kX5_chanceBehindMoths_62, kX5_chanceBehindMoths_64, kX5_chanceBehindMoths_66, kX5_chanceBehindMoths_68, kX5_chanceBehindMoths_69, kX5_chanceBehindMoths_70, kX5_chanceBehindMoths_72, kX5_chanceBehindMoths_75, kX5_chanceBehindMoths_76, kX5_chanceBehindMoths_77, kX5_chanceBehindMoths_79, kX5_chanceBehindMoths_80, kX5_chanceBehindMoths_83, kX5_chanceBehindMoths_84, kX5_chanceBehindMoths_85, kX5_chanceBehindMoths_87, kX5_chanceBehindMoths_90, kX5_chanceBehindMoths_93, kX5_chanceBehindMoths_95, ex_1, ex_s, exo_some, xK, xKL, xLdI, xLdA, xLdL, xStI, xStA, xStL, xInc, xBin, xDiv, xBinL, xDivL, xLcmp, xI2l, xL2i, xI2c, xC_eq, xC_ne, xC_lt, xC_ge, xC_gt, xC_le, xZ_eq, xZ_ne, xZ_lt, xZ_ge, xZ_gt, xZ_le, xGo, xTsw, tsw, xDup, xDup2, xPop, xGf, xPfI, xPfR, xiaload, xcaload, xiastore, xcastore, xAlen, xRet, xRetZ, xRetV, xObj, xMmax, xMmin, xCallS, xCallV, xCallI, popN, cs, kont_some, kont_none, noL, not_false_eq_true, Nat.reduceEqDiff, Nat.reduceBEq, Nat.reduceAdd, Nat.reduceLT, Nat.reduceSub, ↓reduceIte, decide_eq_true_eq, Bool.false_eq_true, decide_false, decide_true, or_false, false_or, or_true, true_or, or_self, lsOf_int, lsOf_ref, lsOf_long, lsOf_nil, List.replicate_succ, List.replicate_zero, Nat.add_one_sub_one, List.getElem?_cons_zero, List.getElem?_cons_succ, List.set_cons_zero, List.set_cons_succ, List.length_cons, List.length_nil, cond_true, cond_false, Value.category, List.reverse_nil, List.reverse_cons, List.nil_append, List.cons_append, true_and, and_true, beq_self_eq_true, nI_add, pk_mul, nI_and, nI_or, nI_an, Nat.zero_le, Nat.reduceLeDiff, f_iadd, f_isub, f_imul, f_iand, f_ior, f_ixor, f_ishl, f_ishr, f_iushr, f_idiv, f_irem, f_ladd, f_lmul, f_lrem, true_implies, false_implies, not_true_eq_false, and_self, ss, Option.isSome_some, List.set_set, sn, sn0, s0n, nI_b0]
        cases hc : canN (sP s) l k with
        | false =>
          simp only [hc, Bool.false_eq_true, if_false, Nat.add_zero] at ih
          exact ⟨fun _ => ih _, fun z => absurd rfl z⟩
        | true =>
          simp only [hc, if_true] at ih
          refine ⟨fun z => absurd z (by decide), fun _ => sp_bitCount hk8 ?_⟩
          simp only [nX5_chanceBehindMoths, kX5_chanceBehindMoths_0, kX5_chanceBehindMoths_1, kX5_chanceBehindMoths_4, kX5_chanceBehindMoths_7, kX5_chanceBehindMoths_10, kX5_chanceBehindMoths_11, kX5_chanceBehindMoths_12, kX5_chanceBehindMoths_14, kX5_chanceBehindMoths_15, kX5_chanceBehindMoths_17, kX5_chanceBehindMoths_19, kX5_chanceBehindMoths_20, kX5_chanceBehindMoths_23, kX5_chanceBehindMoths_26, kX5_chanceBehindMoths_29, kX5_chanceBehindMoths_31, kX5_chanceBehindMoths_32, kX5_chanceBehindMoths_35, kX5_chanceBehindMoths_38, kX5_chanceBehindMoths_39, kX5_chanceBehindMoths_40, kX5_chanceBehindMoths_41, kX5_chanceBehindMoths_44, kX5_chanceBehindMoths_45, kX5_chanceBehindMoths_48, kX5_chanceBehindMoths_49, kX5_chanceBehindMoths_51, kX5_chanceBehindMoths_54, kX5_chanceBehindMoths_57, kX5_chanceBehindMoths_59, kX5_chanceBehindMoths_62, kX5_chanceBehindMoths_64, kX5_chanceBehindMoths_66, kX5_chanceBehindMoths_68, kX5_chanceBehindMoths_69, kX5_chanceBehindMoths_70, kX5_chanceBehindMoths_72, kX5_chanceBehindMoths_75, kX5_chanceBehindMoths_76, kX5_chanceBehindMoths_77, kX5_chanceBehindMoths_79, kX5_chanceBehindMoths_80, kX5_chanceBehindMoths_83, kX5_chanceBehindMoths_84, kX5_chanceBehindMoths_85, kX5_chanceBehindMoths_87, kX5_chanceBehindMoths_90, kX5_chanceBehindMoths_93, kX5_chanceBehindMoths_95, ex_1, ex_s, exo_some, xK, xKL, xLdI, xLdA, xLdL, xStI, xStA, xStL, xInc, xBin, xDiv, xBinL, xDivL, xLcmp, xI2l, xL2i, xI2c, xC_eq, xC_ne, xC_lt, xC_ge, xC_gt, xC_le, xZ_eq, xZ_ne, xZ_lt, xZ_ge, xZ_gt, xZ_le, xGo, xTsw, tsw, xDup, xDup2, xPop, xGf, xPfI, xPfR, xiaload, xcaload, xiastore, xcastore, xAlen, xRet, xRetZ, xRetV, xObj, xMmax, xMmin, xCallS, xCallV, xCallI, popN, cs, kont_some, kont_none, noL, not_false_eq_true, Nat.reduceEqDiff, Nat.reduceBEq, Nat.reduceAdd, Nat.reduceLT, Nat.reduceSub, ↓reduceIte, decide_eq_true_eq, Bool.false_eq_true, decide_false, decide_true, or_false, false_or, or_true, true_or, or_self, lsOf_int, lsOf_ref, lsOf_long, lsOf_nil, List.replicate_succ, List.replicate_zero, Nat.add_one_sub_one, List.getElem?_cons_zero, List.getElem?_cons_succ, List.set_cons_zero, List.set_cons_succ, List.length_cons, List.length_nil, cond_true, cond_false, Value.category, List.reverse_nil, List.reverse_cons, List.nil_append, List.cons_append, true_and, and_true, beq_self_eq_true, nI_add, pk_mul, nI_and, nI_or, nI_an, Nat.zero_le, Nat.reduceLeDiff, f_iadd, f_isub, f_imul, f_iand, f_ior, f_ixor, f_ishl, f_ishr, f_iushr, f_idiv, f_irem, f_ladd, f_lmul, f_lrem, true_implies, false_implies, not_true_eq_false, and_self, ss, Option.isSome_some, List.set_set, sn, sn0, s0n, pk_sub hx]
          have ho := ones_sub8 (an_zero.mp q)
          have o1 := ones_le k
          have o2 := ones_le (dr (sH s))
          refine sp_power (by omega) ?_
          simp only [nX5_chanceBehindMoths, kX5_chanceBehindMoths_0, kX5_chanceBehindMoths_1, kX5_chanceBehindMoths_4, kX5_chanceBehindMoths_7, kX5_chanceBehindMoths_10, kX5_chanceBehindMoths_11, kX5_chanceBehindMoths_12, kX5_chanceBehindMoths_14, kX5_chanceBehindMoths_15, kX5_chanceBehindMoths_17, kX5_chanceBehindMoths_19, kX5_chanceBehindMoths_20, kX5_chanceBehindMoths_23, kX5_chanceBehindMoths_26, kX5_chanceBehindMoths_29, kX5_chanceBehindMoths_31, kX5_chanceBehindMoths_32, kX5_chanceBehindMoths_35, kX5_chanceBehindMoths_38, kX5_chanceBehindMoths_39, kX5_chanceBehindMoths_40, kX5_chanceBehindMoths_41, kX5_chanceBehindMoths_44, kX5_chanceBehindMoths_45, kX5_chanceBehindMoths_48, kX5_chanceBehindMoths_49, kX5_chanceBehindMoths_51, kX5_chanceBehindMoths_54, kX5_chanceBehindMoths_57, kX5_chanceBehindMoths_59, kX5_chanceBehindMoths_62, kX5_chanceBehindMoths_64, kX5_chanceBehindMoths_66, kX5_chanceBehindMoths_68, kX5_chanceBehindMoths_69, kX5_chanceBehindMoths_70, kX5_chanceBehindMoths_72, kX5_chanceBehindMoths_75, kX5_chanceBehindMoths_76, kX5_chanceBehindMoths_77, kX5_chanceBehindMoths_79, kX5_chanceBehindMoths_80, kX5_chanceBehindMoths_83, kX5_chanceBehindMoths_84, kX5_chanceBehindMoths_85, kX5_chanceBehindMoths_87, kX5_chanceBehindMoths_90, kX5_chanceBehindMoths_93, kX5_chanceBehindMoths_95, ex_1, ex_s, exo_some, xK, xKL, xLdI, xLdA, xLdL, xStI, xStA, xStL, xInc, xBin, xDiv, xBinL, xDivL, xLcmp, xI2l, xL2i, xI2c, xC_eq, xC_ne, xC_lt, xC_ge, xC_gt, xC_le, xZ_eq, xZ_ne, xZ_lt, xZ_ge, xZ_gt, xZ_le, xGo, xTsw, tsw, xDup, xDup2, xPop, xGf, xPfI, xPfR, xiaload, xcaload, xiastore, xcastore, xAlen, xRet, xRetZ, xRetV, xObj, xMmax, xMmin, xCallS, xCallV, xCallI, popN, cs, kont_some, kont_none, noL, not_false_eq_true, Nat.reduceEqDiff, Nat.reduceBEq, Nat.reduceAdd, Nat.reduceLT, Nat.reduceSub, ↓reduceIte, decide_eq_true_eq, Bool.false_eq_true, decide_false, decide_true, or_false, false_or, or_true, true_or, or_self, lsOf_int, lsOf_ref, lsOf_long, lsOf_nil, List.replicate_succ, List.replicate_zero, Nat.add_one_sub_one, List.getElem?_cons_zero, List.getElem?_cons_succ, List.set_cons_zero, List.set_cons_succ, List.length_cons, List.length_nil, cond_true, cond_false, Value.category, List.reverse_nil, List.reverse_cons, List.nil_append, List.cons_append, true_and, and_true, beq_self_eq_true, nI_add, pk_mul, nI_and, nI_or, nI_an, Nat.zero_le, Nat.reduceLeDiff, f_iadd, f_isub, f_imul, f_iand, f_ior, f_ixor, f_ishl, f_ishr, f_iushr, f_idiv, f_irem, f_ladd, f_lmul, f_lrem, true_implies, false_implies, not_true_eq_false, and_self, ss, Option.isSome_some, List.set_set, sn, sn0, s0n, pk_sub (show ones k ≤ ones (dr (sH s)) by omega)]
          refine sp_power (by omega) ?_
          simp only [nX5_chanceBehindMoths, kX5_chanceBehindMoths_0, kX5_chanceBehindMoths_1, kX5_chanceBehindMoths_4, kX5_chanceBehindMoths_7, kX5_chanceBehindMoths_10, kX5_chanceBehindMoths_11, kX5_chanceBehindMoths_12, kX5_chanceBehindMoths_14, kX5_chanceBehindMoths_15, kX5_chanceBehindMoths_17, kX5_chanceBehindMoths_19, kX5_chanceBehindMoths_20, kX5_chanceBehindMoths_23, kX5_chanceBehindMoths_26, kX5_chanceBehindMoths_29, kX5_chanceBehindMoths_31, kX5_chanceBehindMoths_32, kX5_chanceBehindMoths_35, kX5_chanceBehindMoths_38, kX5_chanceBehindMoths_39, kX5_chanceBehindMoths_40, kX5_chanceBehindMoths_41, kX5_chanceBehindMoths_44, kX5_chanceBehindMoths_45, kX5_chanceBehindMoths_48, kX5_chanceBehindMoths_49, kX5_chanceBehindMoths_51, kX5_chanceBehindMoths_54, kX5_chanceBehindMoths_57, kX5_chanceBehindMoths_59, kX5_chanceBehindMoths_62, kX5_chanceBehindMoths_64, kX5_chanceBehindMoths_66, kX5_chanceBehindMoths_68, kX5_chanceBehindMoths_69, kX5_chanceBehindMoths_70, kX5_chanceBehindMoths_72, kX5_chanceBehindMoths_75, kX5_chanceBehindMoths_76, kX5_chanceBehindMoths_77, kX5_chanceBehindMoths_79, kX5_chanceBehindMoths_80, kX5_chanceBehindMoths_83, kX5_chanceBehindMoths_84, kX5_chanceBehindMoths_85, kX5_chanceBehindMoths_87, kX5_chanceBehindMoths_90, kX5_chanceBehindMoths_93, kX5_chanceBehindMoths_95, ex_1, ex_s, exo_some, xK, xKL, xLdI, xLdA, xLdL, xStI, xStA, xStL, xInc, xBin, xDiv, xBinL, xDivL, xLcmp, xI2l, xL2i, xI2c, xC_eq, xC_ne, xC_lt, xC_ge, xC_gt, xC_le, xZ_eq, xZ_ne, xZ_lt, xZ_ge, xZ_gt, xZ_le, xGo, xTsw, tsw, xDup, xDup2, xPop, xGf, xPfI, xPfR, xiaload, xcaload, xiastore, xcastore, xAlen, xRet, xRetZ, xRetV, xObj, xMmax, xMmin, xCallS, xCallV, xCallI, popN, cs, kont_some, kont_none, noL, not_false_eq_true, Nat.reduceEqDiff, Nat.reduceBEq, Nat.reduceAdd, Nat.reduceLT, Nat.reduceSub, ↓reduceIte, decide_eq_true_eq, Bool.false_eq_true, decide_false, decide_true, or_false, false_or, or_true, true_or, or_self, lsOf_int, lsOf_ref, lsOf_long, lsOf_nil, List.replicate_succ, List.replicate_zero, Nat.add_one_sub_one, List.getElem?_cons_zero, List.getElem?_cons_succ, List.set_cons_zero, List.set_cons_succ, List.length_cons, List.length_nil, cond_true, cond_false, Value.category, List.reverse_nil, List.reverse_cons, List.nil_append, List.cons_append, true_and, and_true, beq_self_eq_true, nI_add, pk_mul, nI_and, nI_or, nI_an, Nat.zero_le, Nat.reduceLeDiff, f_iadd, f_isub, f_imul, f_iand, f_ior, f_ixor, f_ishl, f_ishr, f_iushr, f_idiv, f_irem, f_ladd, f_lmul, f_lrem, true_implies, false_implies, not_true_eq_false, and_self, ss, Option.isSome_some, List.set_set, sn, sn0, s0n]
          exact ih _)
  refine Spc.go VX5_chanceBehindMoths (by decide +kernel) (fun _ => Nat.le_of_ble_eq_true rfl) (fun q => decide (q = 17)) 120 ?_
  simp only [nX5_chanceBehindMoths, kX5_chanceBehindMoths_0, kX5_chanceBehindMoths_1, kX5_chanceBehindMoths_4, kX5_chanceBehindMoths_7, kX5_chanceBehindMoths_10, kX5_chanceBehindMoths_11, kX5_chanceBehindMoths_12, kX5_chanceBehindMoths_14, kX5_chanceBehindMoths_15, kX5_chanceBehindMoths_17, kX5_chanceBehindMoths_19, kX5_chanceBehindMoths_20, kX5_chanceBehindMoths_23, kX5_chanceBehindMoths_26, kX5_chanceBehindMoths_29, kX5_chanceBehindMoths_31, kX5_chanceBehindMoths_32, kX5_chanceBehindMoths_35, kX5_chanceBehindMoths_38, kX5_chanceBehindMoths_39, kX5_chanceBehindMoths_40, kX5_chanceBehindMoths_41, kX5_chanceBehindMoths_44, kX5_chanceBehindMoths_45, kX5_chanceBehindMoths_48, kX5_chanceBehindMoths_49, kX5_chanceBehindMoths_51, kX5_chanceBehindMoths_54, kX5_chanceBehindMoths_57, kX5_chanceBehindMoths_59, kX5_chanceBehindMoths_62, kX5_chanceBehindMoths_64, kX5_chanceBehindMoths_66, kX5_chanceBehindMoths_68, kX5_chanceBehindMoths_69, kX5_chanceBehindMoths_70, kX5_chanceBehindMoths_72, kX5_chanceBehindMoths_75, kX5_chanceBehindMoths_76, kX5_chanceBehindMoths_77, kX5_chanceBehindMoths_79, kX5_chanceBehindMoths_80, kX5_chanceBehindMoths_83, kX5_chanceBehindMoths_84, kX5_chanceBehindMoths_85, kX5_chanceBehindMoths_87, kX5_chanceBehindMoths_90, kX5_chanceBehindMoths_93, kX5_chanceBehindMoths_95, ex_1, ex_s, exo_some, xK, xKL, xLdI, xLdA, xLdL, xStI, xStA, xStL, xInc, xBin, xDiv, xBinL, xDivL, xLcmp, xI2l, xL2i, xI2c, xC_eq, xC_ne, xC_lt, xC_ge, xC_gt, xC_le, xZ_eq, xZ_ne, xZ_lt, xZ_ge, xZ_gt, xZ_le, xGo, xTsw, tsw, xDup, xDup2, xPop, xGf, xPfI, xPfR, xiaload, xcaload, xiastore, xcastore, xAlen, xRet, xRetZ, xRetV, xObj, xMmax, xMmin, xCallS, xCallV, xCallI, popN, cs, kont_some, kont_none, noL, not_false_eq_true, Nat.reduceEqDiff, Nat.reduceBEq, Nat.reduceAdd, Nat.reduceLT, Nat.reduceSub, ↓reduceIte, decide_eq_true_eq, Bool.false_eq_true, decide_false, decide_true, or_false, false_or, or_true, true_or, or_self, lsOf_int, lsOf_ref, lsOf_long, lsOf_nil, List.replicate_succ, List.replicate_zero, Nat.add_one_sub_one, List.getElem?_cons_zero, List.getElem?_cons_succ, List.set_cons_zero, List.set_cons_succ, List.length_cons, List.length_nil, cond_true, cond_false, Value.category, List.reverse_nil, List.reverse_cons, List.nil_append, List.cons_append, true_and, and_true, beq_self_eq_true, nI_add, pk_mul, nI_and, nI_or, nI_an, Nat.zero_le, Nat.reduceLeDiff, f_iadd, f_isub, f_imul, f_iand, f_ior, f_ixor, f_ishl, f_ishr, f_iushr, f_idiv, f_irem, f_ladd, f_lmul, f_lrem, true_implies, false_implies, not_true_eq_false, and_self, ss, Option.isSome_some, List.set_set, sn, sn0, s0n, c0', p0, cH, hrC]
  refine sp_bitCount hd ?_
  simp only [nX5_chanceBehindMoths, kX5_chanceBehindMoths_0, kX5_chanceBehindMoths_1, kX5_chanceBehindMoths_4, kX5_chanceBehindMoths_7, kX5_chanceBehindMoths_10, kX5_chanceBehindMoths_11, kX5_chanceBehindMoths_12, kX5_chanceBehindMoths_14, kX5_chanceBehindMoths_15, kX5_chanceBehindMoths_17, kX5_chanceBehindMoths_19, kX5_chanceBehindMoths_20, kX5_chanceBehindMoths_23, kX5_chanceBehindMoths_26, kX5_chanceBehindMoths_29, kX5_chanceBehindMoths_31, kX5_chanceBehindMoths_32, kX5_chanceBehindMoths_35, kX5_chanceBehindMoths_38, kX5_chanceBehindMoths_39, kX5_chanceBehindMoths_40, kX5_chanceBehindMoths_41, kX5_chanceBehindMoths_44, kX5_chanceBehindMoths_45, kX5_chanceBehindMoths_48, kX5_chanceBehindMoths_49, kX5_chanceBehindMoths_51, kX5_chanceBehindMoths_54, kX5_chanceBehindMoths_57, kX5_chanceBehindMoths_59, kX5_chanceBehindMoths_62, kX5_chanceBehindMoths_64, kX5_chanceBehindMoths_66, kX5_chanceBehindMoths_68, kX5_chanceBehindMoths_69, kX5_chanceBehindMoths_70, kX5_chanceBehindMoths_72, kX5_chanceBehindMoths_75, kX5_chanceBehindMoths_76, kX5_chanceBehindMoths_77, kX5_chanceBehindMoths_79, kX5_chanceBehindMoths_80, kX5_chanceBehindMoths_83, kX5_chanceBehindMoths_84, kX5_chanceBehindMoths_85, kX5_chanceBehindMoths_87, kX5_chanceBehindMoths_90, kX5_chanceBehindMoths_93, kX5_chanceBehindMoths_95, ex_1, ex_s, exo_some, xK, xKL, xLdI, xLdA, xLdL, xStI, xStA, xStL, xInc, xBin, xDiv, xBinL, xDivL, xLcmp, xI2l, xL2i, xI2c, xC_eq, xC_ne, xC_lt, xC_ge, xC_gt, xC_le, xZ_eq, xZ_ne, xZ_lt, xZ_ge, xZ_gt, xZ_le, xGo, xTsw, tsw, xDup, xDup2, xPop, xGf, xPfI, xPfR, xiaload, xcaload, xiastore, xcastore, xAlen, xRet, xRetZ, xRetV, xObj, xMmax, xMmin, xCallS, xCallV, xCallI, popN, cs, kont_some, kont_none, noL, not_false_eq_true, Nat.reduceEqDiff, Nat.reduceBEq, Nat.reduceAdd, Nat.reduceLT, Nat.reduceSub, ↓reduceIte, decide_eq_true_eq, Bool.false_eq_true, decide_false, decide_true, or_false, false_or, or_true, true_or, or_self, lsOf_int, lsOf_ref, lsOf_long, lsOf_nil, List.replicate_succ, List.replicate_zero, Nat.add_one_sub_one, List.getElem?_cons_zero, List.getElem?_cons_succ, List.set_cons_zero, List.set_cons_succ, List.length_cons, List.length_nil, cond_true, cond_false, Value.category, List.reverse_nil, List.reverse_cons, List.nil_append, List.cons_append, true_and, and_true, beq_self_eq_true, nI_add, pk_mul, nI_and, nI_or, nI_an, Nat.zero_le, Nat.reduceLeDiff, f_iadd, f_isub, f_imul, f_iand, f_ior, f_ixor, f_ishl, f_ishr, f_iushr, f_idiv, f_irem, f_ladd, f_lmul, f_lrem, true_implies, false_implies, not_true_eq_false, and_self, ss, Option.isSome_some, List.set_set, sn, sn0, s0n]
  exact key 0 (Nat.zero_le _) _
theorem cl_moths {s : St} {h : SH} {l x part : Int32} {K : Option Value → SH → Prop} (hC : CAt h s) (hW : WfS s) (kk : K (some (.int (mothsA s l x part))) h) : Spc MX5_moths [.ref 0, .int l, .int x, .int part] h K := by
  obtain ⟨kl, ks, P', r', hk, c0, cT, cR, cC, cP, cQ, cH, cI, cU, cK⟩ := id hC
  obtain ⟨wP, wT, wL, wH, wU, wK, wX, wSn, wSb, wSx⟩ := id hW
  have c0' : h[0]? = some (.inr (5, [.ref 1, .int (nI (sTn s)), .ref 2, .ref 14, .ref kl, .ref ks, .ref 13, .ref 25, .ref 26, .ref 31, .int (nI (sSn s)), .int (nI (sSb s)), .int (nI (sSx s))])) := c0
  obtain ⟨f1, f2, f3, f4, f5, f6, f7, p0, ⟨p1, p2, p3, p4, p5, p6, p7⟩, e1, e2⟩ := id cP
  have hT8 := wP.2.2.1
  have hL6 := wP.2.2.2.1
  have hT31 : pT (sP s) < 2 ^ 31 := by omega
  have hL31 : pL (sP s) < 2 ^ 31 := by omega
  have hd := lt256 wH.1 hT8
  have hlv := lt64 wH.2.1 hL6
  have hkl : 3 < kl ∧ kl + 7 < 13 ∨ 16 < kl ∧ kl + 7 < 25 := by rcases hk with ⟨rfl, rfl⟩ | ⟨rfl, rfl⟩ <;> omega
  have hks : 3 < ks ∧ ks + 7 < 13 ∨ 16 < ks ∧ ks + 7 < 25 := by rcases hk with ⟨rfl, rfl⟩ | ⟨rfl, rfl⟩ <;> omega
  have hkk : kl + 7 < ks ∨ ks + 7 < kl := by rcases hk with ⟨rfl, rfl⟩ | ⟨rfl, rfl⟩ <;> omega
  obtain ⟨u0, -⟩ := id cU
  obtain ⟨v0, -⟩ := id cK
  have u0' : h[26]? = some (.inr (2, [.int (nI (sUn s)), .int (nI 8), .ref 27, .ref 28, .ref 29, .ref 30])) := u0
  have v0' : h[31]? = some (.inr (2, [.int (nI (sKn s)), .int (nI 2), .ref 32, .ref 33, .ref 34, .ref 35])) := v0
  have hs0 := set_get c0
  have bad : argN l (pL (sP s)) = none ∨ argN x 11 = none ∨ argN part 2 = none → K (some (.int (-1))) h := fun q => by
    rcases q with q | q | q
    · simp only [mothsA, q] at kk; exact kk
    · cases e : argN l (pL (sP s)) <;> simp only [mothsA, q, e] at kk <;> exact kk
    · cases e : argN l (pL (sP s)) <;> cases e2 : argN x 11 <;> simp only [mothsA, q, e, e2] at kk <;> exact kk
  refine Spc.go VX5_moths (by decide +kernel) (fun _ => Nat.le_of_ble_eq_true rfl) (fun _ => false) 120 ?_
  simp only [nX5_moths, kX5_moths_0, kX5_moths_1, kX5_moths_4, kX5_moths_5, kX5_moths_8, kX5_moths_11, kX5_moths_12, kX5_moths_15, kX5_moths_16, kX5_moths_18, kX5_moths_21, kX5_moths_22, kX5_moths_25, kX5_moths_28, kX5_moths_29, kX5_moths_30, kX5_moths_32, kX5_moths_33, kX5_moths_36, kX5_moths_39, kX5_moths_42, kX5_moths_45, kX5_moths_47, kX5_moths_48, kX5_moths_49, kX5_moths_50, kX5_moths_53, kX5_moths_55, kX5_moths_56, kX5_moths_59, ex_1, ex_s, exo_some, xK, xKL, xLdI, xLdA, xLdL, xStI, xStA, xStL, xInc, xBin, xDiv, xBinL, xDivL, xLcmp, xI2l, xL2i, xI2c, xC_eq, xC_ne, xC_lt, xC_ge, xC_gt, xC_le, xZ_eq, xZ_ne, xZ_lt, xZ_ge, xZ_gt, xZ_le, xGo, xTsw, tsw, xDup, xDup2, xPop, xGf, xPfI, xPfR, xiaload, xcaload, xiastore, xcastore, xAlen, xRet, xRetZ, xRetV, xObj, xMmax, xMmin, xCallS, xCallV, xCallI, popN, cs, kont_some, kont_none, noL, not_false_eq_true, Nat.reduceEqDiff, Nat.reduceBEq, Nat.reduceAdd, Nat.reduceLT, Nat.reduceSub, ↓reduceIte, decide_eq_true_eq, Bool.false_eq_true, decide_false, decide_true, or_false, false_or, or_true, true_or, or_self, lsOf_int, lsOf_ref, lsOf_long, lsOf_nil, List.replicate_succ, List.replicate_zero, Nat.add_one_sub_one, List.getElem?_cons_zero, List.getElem?_cons_succ, List.set_cons_zero, List.set_cons_succ, List.length_cons, List.length_nil, cond_true, cond_false, Value.category, List.reverse_nil, List.reverse_cons, List.nil_append, List.cons_append, true_and, and_true, beq_self_eq_true, nI_add, pk_mul, nI_and, nI_or, nI_an, Nat.zero_le, Nat.reduceLeDiff, f_iadd, f_isub, f_imul, f_iand, f_ior, f_ixor, f_ishl, f_ishr, f_iushr, f_idiv, f_irem, f_ladd, f_lmul, f_lrem, true_implies, false_implies, not_true_eq_false, and_self, ss, Option.isSome_some, List.set_set, sn, sn0, s0n, c0', p0]
  refine sp_isLife cP wP ?_
  simp only [nX5_moths, kX5_moths_0, kX5_moths_1, kX5_moths_4, kX5_moths_5, kX5_moths_8, kX5_moths_11, kX5_moths_12, kX5_moths_15, kX5_moths_16, kX5_moths_18, kX5_moths_21, kX5_moths_22, kX5_moths_25, kX5_moths_28, kX5_moths_29, kX5_moths_30, kX5_moths_32, kX5_moths_33, kX5_moths_36, kX5_moths_39, kX5_moths_42, kX5_moths_45, kX5_moths_47, kX5_moths_48, kX5_moths_49, kX5_moths_50, kX5_moths_53, kX5_moths_55, kX5_moths_56, kX5_moths_59, ex_1, ex_s, exo_some, xK, xKL, xLdI, xLdA, xLdL, xStI, xStA, xStL, xInc, xBin, xDiv, xBinL, xDivL, xLcmp, xI2l, xL2i, xI2c, xC_eq, xC_ne, xC_lt, xC_ge, xC_gt, xC_le, xZ_eq, xZ_ne, xZ_lt, xZ_ge, xZ_gt, xZ_le, xGo, xTsw, tsw, xDup, xDup2, xPop, xGf, xPfI, xPfR, xiaload, xcaload, xiastore, xcastore, xAlen, xRet, xRetZ, xRetV, xObj, xMmax, xMmin, xCallS, xCallV, xCallI, popN, cs, kont_some, kont_none, noL, not_false_eq_true, Nat.reduceEqDiff, Nat.reduceBEq, Nat.reduceAdd, Nat.reduceLT, Nat.reduceSub, ↓reduceIte, decide_eq_true_eq, Bool.false_eq_true, decide_false, decide_true, or_false, false_or, or_true, true_or, or_self, lsOf_int, lsOf_ref, lsOf_long, lsOf_nil, List.replicate_succ, List.replicate_zero, Nat.add_one_sub_one, List.getElem?_cons_zero, List.getElem?_cons_succ, List.set_cons_zero, List.set_cons_succ, List.length_cons, List.length_nil, cond_true, cond_false, Value.category, List.reverse_nil, List.reverse_cons, List.nil_append, List.cons_append, true_and, and_true, beq_self_eq_true, nI_add, pk_mul, nI_and, nI_or, nI_an, Nat.zero_le, Nat.reduceLeDiff, f_iadd, f_isub, f_imul, f_iand, f_ior, f_ixor, f_ishl, f_ishr, f_iushr, f_idiv, f_irem, f_ladd, f_lmul, f_lrem, true_implies, false_implies, not_true_eq_false, and_self, ss, Option.isSome_some, List.set_set, sn, sn0, s0n, nI_b0, c0', cH, hrC, nI_0z]
  cases hr : decide (0 ≤ l ∧ l < nI (pL (sP s))) with
  | false =>
    exact ⟨fun _ => bad (Or.inl (argN_none hr)), fun z => absurd rfl z⟩
  | true =>
    obtain ⟨a, ha, rfl, hq⟩ := argN_some (by omega) hr
    refine ⟨fun z => absurd z (by decide), fun _ => ⟨fun q1 => bad (Or.inr (Or.inl (rng_lo q1))), fun q1 => ⟨fun q2 => bad (Or.inr (Or.inl (rng_hi (by decide) q2))), fun q2 => sp_isPart ?_⟩⟩⟩
    obtain ⟨b, hb, rfl, eb⟩ := rng_in (n := 10) (by decide) q1 q2
    rw [two_iff]
    simp only [nX5_moths, kX5_moths_0, kX5_moths_1, kX5_moths_4, kX5_moths_5, kX5_moths_8, kX5_moths_11, kX5_moths_12, kX5_moths_15, kX5_moths_16, kX5_moths_18, kX5_moths_21, kX5_moths_22, kX5_moths_25, kX5_moths_28, kX5_moths_29, kX5_moths_30, kX5_moths_32, kX5_moths_33, kX5_moths_36, kX5_moths_39, kX5_moths_42, kX5_moths_45, kX5_moths_47, kX5_moths_48, kX5_moths_49, kX5_moths_50, kX5_moths_53, kX5_moths_55, kX5_moths_56, kX5_moths_59, ex_1, ex_s, exo_some, xK, xKL, xLdI, xLdA, xLdL, xStI, xStA, xStL, xInc, xBin, xDiv, xBinL, xDivL, xLcmp, xI2l, xL2i, xI2c, xC_eq, xC_ne, xC_lt, xC_ge, xC_gt, xC_le, xZ_eq, xZ_ne, xZ_lt, xZ_ge, xZ_gt, xZ_le, xGo, xTsw, tsw, xDup, xDup2, xPop, xGf, xPfI, xPfR, xiaload, xcaload, xiastore, xcastore, xAlen, xRet, xRetZ, xRetV, xObj, xMmax, xMmin, xCallS, xCallV, xCallI, popN, cs, kont_some, kont_none, noL, not_false_eq_true, Nat.reduceEqDiff, Nat.reduceBEq, Nat.reduceAdd, Nat.reduceLT, Nat.reduceSub, ↓reduceIte, decide_eq_true_eq, Bool.false_eq_true, decide_false, decide_true, or_false, false_or, or_true, true_or, or_self, lsOf_int, lsOf_ref, lsOf_long, lsOf_nil, List.replicate_succ, List.replicate_zero, Nat.add_one_sub_one, List.getElem?_cons_zero, List.getElem?_cons_succ, List.set_cons_zero, List.set_cons_succ, List.length_cons, List.length_nil, cond_true, cond_false, Value.category, List.reverse_nil, List.reverse_cons, List.nil_append, List.cons_append, true_and, and_true, beq_self_eq_true, nI_add, pk_mul, nI_and, nI_or, nI_an, Nat.zero_le, Nat.reduceLeDiff, f_iadd, f_isub, f_imul, f_iand, f_ior, f_ixor, f_ishl, f_ishr, f_iushr, f_idiv, f_irem, f_ladd, f_lmul, f_lrem, true_implies, false_implies, not_true_eq_false, and_self, ss, Option.isSome_some, List.set_set, sn, sn0, s0n, nI_b0, c0', cH, hrC]
    cases hr2 : decide (0 ≤ part ∧ part < nI 2) with
    | false => exact ⟨fun z => absurd rfl z, fun _ => bad (Or.inr (Or.inr (argN_none hr2)))⟩
    | true =>
      obtain ⟨c, hc, rfl, ec⟩ := argN_some (by decide) hr2
      simp only [mothsA, hq, eb, ec] at kk
      have o2 := ones_le (dr (sH s))
      refine ⟨fun _ => sp_bitCount hd ?_, fun z => absurd z (by decide)⟩
      simp only [nX5_moths, kX5_moths_0, kX5_moths_1, kX5_moths_4, kX5_moths_5, kX5_moths_8, kX5_moths_11, kX5_moths_12, kX5_moths_15, kX5_moths_16, kX5_moths_18, kX5_moths_21, kX5_moths_22, kX5_moths_25, kX5_moths_28, kX5_moths_29, kX5_moths_30, kX5_moths_32, kX5_moths_33, kX5_moths_36, kX5_moths_39, kX5_moths_42, kX5_moths_45, kX5_moths_47, kX5_moths_48, kX5_moths_49, kX5_moths_50, kX5_moths_53, kX5_moths_55, kX5_moths_56, kX5_moths_59, ex_1, ex_s, exo_some, xK, xKL, xLdI, xLdA, xLdL, xStI, xStA, xStL, xInc, xBin, xDiv, xBinL, xDivL, xLcmp, xI2l, xL2i, xI2c, xC_eq, xC_ne, xC_lt, xC_ge, xC_gt, xC_le, xZ_eq, xZ_ne, xZ_lt, xZ_ge, xZ_gt, xZ_le, xGo, xTsw, tsw, xDup, xDup2, xPop, xGf, xPfI, xPfR, xiaload, xcaload, xiastore, xcastore, xAlen, xRet, xRetZ, xRetV, xObj, xMmax, xMmin, xCallS, xCallV, xCallI, popN, cs, kont_some, kont_none, noL, not_false_eq_true, Nat.reduceEqDiff, Nat.reduceBEq, Nat.reduceAdd, Nat.reduceLT, Nat.reduceSub, ↓reduceIte, decide_eq_true_eq, Bool.false_eq_true, decide_false, decide_true, or_false, false_or, or_true, true_or, or_self, lsOf_int, lsOf_ref, lsOf_long, lsOf_nil, List.replicate_succ, List.replicate_zero, Nat.add_one_sub_one, List.getElem?_cons_zero, List.getElem?_cons_succ, List.set_cons_zero, List.set_cons_succ, List.length_cons, List.length_nil, cond_true, cond_false, Value.category, List.reverse_nil, List.reverse_cons, List.nil_append, List.cons_append, true_and, and_true, beq_self_eq_true, nI_add, pk_mul, nI_and, nI_or, nI_an, Nat.zero_le, Nat.reduceLeDiff, f_iadd, f_isub, f_imul, f_iand, f_ior, f_ixor, f_ishl, f_ishr, f_iushr, f_idiv, f_irem, f_ladd, f_lmul, f_lrem, true_implies, false_implies, not_true_eq_false, and_self, ss, Option.isSome_some, List.set_set, sn, sn0, s0n]
      refine sp_power (by omega) ?_
      simp only [nX5_moths, kX5_moths_0, kX5_moths_1, kX5_moths_4, kX5_moths_5, kX5_moths_8, kX5_moths_11, kX5_moths_12, kX5_moths_15, kX5_moths_16, kX5_moths_18, kX5_moths_21, kX5_moths_22, kX5_moths_25, kX5_moths_28, kX5_moths_29, kX5_moths_30, kX5_moths_32, kX5_moths_33, kX5_moths_36, kX5_moths_39, kX5_moths_42, kX5_moths_45, kX5_moths_47, kX5_moths_48, kX5_moths_49, kX5_moths_50, kX5_moths_53, kX5_moths_55, kX5_moths_56, kX5_moths_59, ex_1, ex_s, exo_some, xK, xKL, xLdI, xLdA, xLdL, xStI, xStA, xStL, xInc, xBin, xDiv, xBinL, xDivL, xLcmp, xI2l, xL2i, xI2c, xC_eq, xC_ne, xC_lt, xC_ge, xC_gt, xC_le, xZ_eq, xZ_ne, xZ_lt, xZ_ge, xZ_gt, xZ_le, xGo, xTsw, tsw, xDup, xDup2, xPop, xGf, xPfI, xPfR, xiaload, xcaload, xiastore, xcastore, xAlen, xRet, xRetZ, xRetV, xObj, xMmax, xMmin, xCallS, xCallV, xCallI, popN, cs, kont_some, kont_none, noL, not_false_eq_true, Nat.reduceEqDiff, Nat.reduceBEq, Nat.reduceAdd, Nat.reduceLT, Nat.reduceSub, ↓reduceIte, decide_eq_true_eq, Bool.false_eq_true, decide_false, decide_true, or_false, false_or, or_true, true_or, or_self, lsOf_int, lsOf_ref, lsOf_long, lsOf_nil, List.replicate_succ, List.replicate_zero, Nat.add_one_sub_one, List.getElem?_cons_zero, List.getElem?_cons_succ, List.set_cons_zero, List.set_cons_succ, List.length_cons, List.length_nil, cond_true, cond_false, Value.category, List.reverse_nil, List.reverse_cons, List.nil_append, List.cons_append, true_and, and_true, beq_self_eq_true, nI_add, pk_mul, nI_and, nI_or, nI_an, Nat.zero_le, Nat.reduceLeDiff, f_iadd, f_isub, f_imul, f_iand, f_ior, f_ixor, f_ishl, f_ishr, f_iushr, f_idiv, f_irem, f_ladd, f_lmul, f_lrem, true_implies, false_implies, not_true_eq_false, and_self, ss, Option.isSome_some, List.set_set, sn, sn0, s0n, c0']
      refine cl_chance hC hW ha hb ?_
      simp only [nX5_moths, kX5_moths_0, kX5_moths_1, kX5_moths_4, kX5_moths_5, kX5_moths_8, kX5_moths_11, kX5_moths_12, kX5_moths_15, kX5_moths_16, kX5_moths_18, kX5_moths_21, kX5_moths_22, kX5_moths_25, kX5_moths_28, kX5_moths_29, kX5_moths_30, kX5_moths_32, kX5_moths_33, kX5_moths_36, kX5_moths_39, kX5_moths_42, kX5_moths_45, kX5_moths_47, kX5_moths_48, kX5_moths_49, kX5_moths_50, kX5_moths_53, kX5_moths_55, kX5_moths_56, kX5_moths_59, ex_1, ex_s, exo_some, xK, xKL, xLdI, xLdA, xLdL, xStI, xStA, xStL, xInc, xBin, xDiv, xBinL, xDivL, xLcmp, xI2l, xL2i, xI2c, xC_eq, xC_ne, xC_lt, xC_ge, xC_gt, xC_le, xZ_eq, xZ_ne, xZ_lt, xZ_ge, xZ_gt, xZ_le, xGo, xTsw, tsw, xDup, xDup2, xPop, xGf, xPfI, xPfR, xiaload, xcaload, xiastore, xcastore, xAlen, xRet, xRetZ, xRetV, xObj, xMmax, xMmin, xCallS, xCallV, xCallI, popN, cs, kont_some, kont_none, noL, not_false_eq_true, Nat.reduceEqDiff, Nat.reduceBEq, Nat.reduceAdd, Nat.reduceLT, Nat.reduceSub, ↓reduceIte, decide_eq_true_eq, Bool.false_eq_true, decide_false, decide_true, or_false, false_or, or_true, true_or, or_self, lsOf_int, lsOf_ref, lsOf_long, lsOf_nil, List.replicate_succ, List.replicate_zero, Nat.add_one_sub_one, List.getElem?_cons_zero, List.getElem?_cons_succ, List.set_cons_zero, List.set_cons_succ, List.length_cons, List.length_nil, cond_true, cond_false, Value.category, List.reverse_nil, List.reverse_cons, List.nil_append, List.cons_append, true_and, and_true, beq_self_eq_true, nI_add, pk_mul, nI_and, nI_or, nI_an, Nat.zero_le, Nat.reduceLeDiff, f_iadd, f_isub, f_imul, f_iand, f_ior, f_ixor, f_ishl, f_ishr, f_iushr, f_idiv, f_irem, f_ladd, f_lmul, f_lrem, true_implies, false_implies, not_true_eq_false, and_self, ss, Option.isSome_some, List.set_set, sn, sn0, s0n]
      have b1 := mthS_le (P := sP s) (l := a) wH.1 hT8 hb
      have b2 : 10 ^ ones (dr (sH s)) ≤ 10 ^ 8 := Nat.pow_le_pow_right (by decide) o2
      refine sp_lowestTerms (by omega) (by omega) (by omega) ?_
      simp only [nX5_moths, kX5_moths_0, kX5_moths_1, kX5_moths_4, kX5_moths_5, kX5_moths_8, kX5_moths_11, kX5_moths_12, kX5_moths_15, kX5_moths_16, kX5_moths_18, kX5_moths_21, kX5_moths_22, kX5_moths_25, kX5_moths_28, kX5_moths_29, kX5_moths_30, kX5_moths_32, kX5_moths_33, kX5_moths_36, kX5_moths_39, kX5_moths_42, kX5_moths_45, kX5_moths_47, kX5_moths_48, kX5_moths_49, kX5_moths_50, kX5_moths_53, kX5_moths_55, kX5_moths_56, kX5_moths_59, ex_1, ex_s, exo_some, xK, xKL, xLdI, xLdA, xLdL, xStI, xStA, xStL, xInc, xBin, xDiv, xBinL, xDivL, xLcmp, xI2l, xL2i, xI2c, xC_eq, xC_ne, xC_lt, xC_ge, xC_gt, xC_le, xZ_eq, xZ_ne, xZ_lt, xZ_ge, xZ_gt, xZ_le, xGo, xTsw, tsw, xDup, xDup2, xPop, xGf, xPfI, xPfR, xiaload, xcaload, xiastore, xcastore, xAlen, xRet, xRetZ, xRetV, xObj, xMmax, xMmin, xCallS, xCallV, xCallI, popN, cs, kont_some, kont_none, noL, not_false_eq_true, Nat.reduceEqDiff, Nat.reduceBEq, Nat.reduceAdd, Nat.reduceLT, Nat.reduceSub, ↓reduceIte, decide_eq_true_eq, Bool.false_eq_true, decide_false, decide_true, or_false, false_or, or_true, true_or, or_self, lsOf_int, lsOf_ref, lsOf_long, lsOf_nil, List.replicate_succ, List.replicate_zero, Nat.add_one_sub_one, List.getElem?_cons_zero, List.getElem?_cons_succ, List.set_cons_zero, List.set_cons_succ, List.length_cons, List.length_nil, cond_true, cond_false, Value.category, List.reverse_nil, List.reverse_cons, List.nil_append, List.cons_append, true_and, and_true, beq_self_eq_true, nI_add, pk_mul, nI_and, nI_or, nI_an, Nat.zero_le, Nat.reduceLeDiff, f_iadd, f_isub, f_imul, f_iand, f_ior, f_ixor, f_ishl, f_ishr, f_iushr, f_idiv, f_irem, f_ladd, f_lmul, f_lrem, true_implies, false_implies, not_true_eq_false, and_self, ss, Option.isSome_some, List.set_set, sn, sn0, s0n]
      exact kk
