/-! ===== the model's longest row ===== -/
def extC (fo : Nat → Bool) (sub : Nat → List Nat) (n : Nat) : Nat → List Nat
  | 0 => []
  | k + 1 => if fo (n - (k + 1)) = true then (if (extC fo sub n k).length ≤ 1 + (sub (n - (k + 1))).length then (n - (k + 1)) :: sub (n - (k + 1)) else extC fo sub n k) else extC fo sub n k
/-- the first longest row from S on, as a list -/
def ext (P : Pl) (r : Hr) : Nat → Nat → List Nat
  | 0, _ => []
  | f + 1, S => extC (follow P r S) (fun l => ext P r f (S ||| 2 ^ l)) (pL P) (pL P)
theorem extC_le {fo : Nat → Bool} {sub : Nat → List Nat} {n : Nat} : ∀ {k l : Nat}, k ≤ n → n - k ≤ l → l < n → fo l = true → 1 + (sub l).length ≤ (extC fo sub n k).length
  | 0, l, hk, h1, h2, _ => absurd h2 (by omega)
  | k + 1, l, hk, h1, h2, hf => by
    rw [extC]
    by_cases e : l = n - (k + 1)
    · subst e
      rw [if_pos hf]
      split
      · simp; omega
      · omega
    · have ih := extC_le (fo := fo) (sub := sub) (k := k) (l := l) (by omega) (by omega) h2 hf
      split
      · split
        · simp; omega
        · exact ih
      · exact ih
theorem extC_at {fo : Nat → Bool} {sub : Nat → List Nat} {n : Nat} : ∀ {k : Nat}, k ≤ n → extC fo sub n k = [] ∨ ∃ l, n - k ≤ l ∧ l < n ∧ fo l = true ∧ extC fo sub n k = l :: sub l ∧ ∀ j, n - k ≤ j → j < l → fo j = true → 1 + (sub j).length < 1 + (sub l).length
  | 0, _ => Or.inl rfl
  | k + 1, hk => by
    rw [extC]
    by_cases hf : fo (n - (k + 1)) = true
    · rw [if_pos hf]
      split
      · exact Or.inr ⟨n - (k + 1), Nat.le_refl _, by omega, hf, rfl, fun j h1 h2 => absurd h2 (by omega)⟩
      · next q =>
        rcases extC_at (fo := fo) (sub := sub) (k := k) (n := n) (by omega) with e | ⟨l, h1, h2, h3, h4, h5⟩
        · rw [e] at q; simp at q
        · refine Or.inr ⟨l, by omega, h2, h3, h4, fun j a b c => ?_⟩
          by_cases e : j = n - (k + 1)
          · subst e
            rw [h4] at q
            simp at q
            omega
          · exact h5 j (by omega) b c
    · rw [if_neg hf]
      rcases extC_at (fo := fo) (sub := sub) (k := k) (n := n) (by omega) with e | ⟨l, h1, h2, h3, h4, h5⟩
      · exact Or.inl e
      · refine Or.inr ⟨l, by omega, h2, h3, h4, fun j a b c => ?_⟩
        by_cases e : j = n - (k + 1)
        · subst e
          exact absurd c hf
        · exact h5 j (by omega) b c
theorem extC_len {fo : Nat → Bool} {sub : Nat → List Nat} {n : Nat} : (extC fo sub n n).length = maxU (fun l => if fo l = true then 1 + (sub l).length else 0) n := by
  apply Nat.le_antisymm
  · rcases extC_at (fo := fo) (sub := sub) (k := n) (n := n) (Nat.le_refl _) with e | ⟨l, h1, h2, h3, h4, -⟩
    · rw [e]; exact Nat.zero_le _
    · have := le_maxU (f := fun l => if fo l = true then 1 + (sub l).length else 0) h2
      simp only [h3, if_true] at this
      rw [h4, List.length_cons]
      omega
  · refine maxU_le _ (fun l hl => ?_)
    split
    · next q => exact extC_le (Nat.le_refl _) (by omega) hl q
    · exact Nat.zero_le _
theorem ext_len {P : Pl} {r : Hr} : ∀ f S, (ext P r f S).length = lgF P r f S
  | 0, _ => rfl
  | f + 1, S => by
    rw [ext, lgF, extC_len]
    exact maxU_cong (fun l _ => by rw [ext_len f])
theorem lgF_free {P : Pl} {r : Hr} (hL : pL P ≤ 6) {S : Nat} : ∀ {d f : Nat}, freeN S ≤ f → lgF P r (f + d) S = lgF P r f S
  | 0, _, _ => rfl
  | d + 1, f, h => by
    rw [← Nat.add_assoc, lgF_st hL _ S (by omega)]
    exact lgF_free hL h
theorem ext_Lg {P : Pl} {r : Hr} (hL : pL P ≤ 6) {f S : Nat} (h : freeN S ≤ f) (hf : f ≤ 6) : (ext P r f S).length = Lg P r S := by
  rw [ext_len, Lg]
  have := lgF_free (P := P) (r := r) hL (d := 6 - f) h
  rw [show f + (6 - f) = 6 by omega] at this
  exact this.symm
theorem fa_first_at {p : Nat → Bool} {n l : Nat} (hl : l < n) (h : p l = true) (hno : ∀ j, j < l → p j = false) : fa_first p n = l := by
  rcases Nat.lt_trichotomy (fa_first p n) l with z | z | z
  · have := fa_first_yes p n (by omega)
    rw [hno _ z] at this
    cases this
  · exact z
  · have := fa_first_no p n l z
    rw [h] at this
    cases this
theorem ext_next {P : Pl} {r : Hr} (hL : pL P ≤ 6) {f S : Nat} (h : freeN S ≤ f + 1) (hf : f + 1 ≤ 6) (hpos : 0 < Lg P r S) : ext P r (f + 1) S = nextN P r S :: ext P r f (S ||| 2 ^ nextN P r S) := by
  have hlen := ext_Lg (r := r) hL h hf
  rw [ext] at hlen ⊢
  rcases extC_at (fo := follow P r S) (sub := fun l => ext P r f (S ||| 2 ^ l)) (k := pL P) (n := pL P) (Nat.le_refl _) with e | ⟨l, -, h2, h3, h4, h5⟩
  · rw [e] at hlen; simp at hlen; omega
  · have hlg : ∀ j, j < pL P → follow P r S j = true → (ext P r f (S ||| 2 ^ j)).length = Lg P r (S ||| 2 ^ j) := fun j hj hfj => by
      have := freeN_or (show j < 6 by omega) (follow_not hfj)
      exact ext_Lg hL (by omega) (by omega)
    rw [h4, List.length_cons] at hlen
    have e : nextN P r S = l := by
      refine fa_first_at h2 ?_ (fun j hj => ?_)
      · have := hlg l h2 h3
        simp [goodNext, h3]
        omega
      · cases hfj : follow P r S j with
        | false => simp [goodNext, hfj]
        | true =>
          have a1 := h5 j (by omega) hj hfj
          have a2 := hlg j (by omega) hfj
          have a3 := hlg l h2 h3
          simp [goodNext, hfj]
          simp only at a1
          omega
    rw [h4, e]
theorem ext_row {P : Pl} {r : Hr} (hL : pL P ≤ 6) : ∀ i, i ≤ Lg P r 0 → (ext P r 6 0).drop i = ext P r (6 - i) (rowS P r i) ∧ freeN (rowS P r i) + i ≤ 6
  | 0, _ => ⟨rfl, by decide⟩
  | i + 1, h => by
    obtain ⟨h1, h2⟩ := ext_row (r := r) hL i (by omega)
    obtain ⟨h3, h4⟩ := rowS_Lg (r := r) hL i (by omega)
    have hlt := next_lt hL (show 0 < Lg P r (rowS P r i) by omega)
    have hg := (next_good hlt).1
    have hfr := freeN_or (show nextN P r (rowS P r i) < 6 by omega) (follow_not hg)
    have hl6 := Lg_le (r := r) hL 0
    have e : 6 - i = (6 - (i + 1)) + 1 := by omega
    rw [e, ext_next hL (by omega) (by omega) (by omega)] at h1
    refine ⟨?_, by rw [rowS]; omega⟩
    rw [show i + 1 = 1 + i by omega, Nat.add_comm, ← List.drop_drop, h1]
    rw [rowS]
    simp
theorem ext_get {P : Pl} {r : Hr} (hL : pL P ≤ 6) {i : Nat} (h : i < Lg P r 0) : (ext P r 6 0).getD i 0 = nextN P r (rowS P r i) := by
  obtain ⟨h1, h2⟩ := ext_row (r := r) hL i (by omega)
  obtain ⟨h3, h4⟩ := rowS_Lg (r := r) hL i (by omega)
  have hl6 := Lg_le (r := r) hL 0
  have e : 6 - i = (6 - (i + 1)) + 1 := by omega
  rw [e, ext_next hL (by omega) (by omega) (by omega)] at h1
  have := congrArg (fun l => l.getD 0 0) h1
  simp only [List.getD_cons_zero] at this
  rw [← this]
  simp [List.getD_eq_getElem?_getD]
/-- how things stand when the lives of S were lived -/
def rS (P : Pl) (r : Hr) (S : Nat) : Hr := (an (dr r) (linN P S), lv r ||| S, cn r, yr r)
theorem rS_can {P : Pl} {r : Hr} {S l : Nat} : canLiveN P (rS P r S) l = follow P r S l := by
  unfold canLiveN follow rS
  show (!(lv r ||| S).testBit l && canN P l (an (dr r) (linN P S))) = _
  rw [Nat.or_comm]
theorem linN_tb {P : Pl} {S i : Nat} : (linN P S).testBit i = true ↔ ∃ l, l < pL P ∧ S.testBit l = true ∧ (nd P l &&& kds P 2).testBit i = true := by
  unfold linN
  have : ∀ n, (orb (linF P S) n).testBit i = true ↔ ∃ l, l < n ∧ S.testBit l = true ∧ (nd P l &&& kds P 2).testBit i = true := by
    intro n
    induction n with
    | zero => simp [orb]
    | succ n ih =>
      rw [orb, Nat.testBit_or, Bool.or_eq_true, ih]
      constructor
      · rintro (⟨l, h1, h2, h3⟩ | h)
        · exact ⟨l, by omega, h2, h3⟩
        · unfold linF at h
          split at h
          · next q => exact ⟨n, by omega, q, h⟩
          · simp at h
      · rintro ⟨l, h1, h2, h3⟩
        by_cases e : l = n
        · subst e
          right
          unfold linF
          rw [if_pos h2]
          exact h3
        · exact Or.inl ⟨l, by omega, h2, h3⟩
  exact this _
theorem rS_live {P : Pl} {r : Hr} {S l : Nat} (hd : dr r < 2 ^ pT P) (hl : l < pL P) : liveH P (rS P r S) l = rS P r (S ||| 2 ^ l) := by
  unfold liveH rS
  have e1 : an (an (dr r) (linN P S)) (goneN P l (an (dr r) (linN P S))) = an (dr r) (linN P (S ||| 2 ^ l)) := by
    apply Nat.eq_of_testBit_eq
    intro i
    rw [an_tb, an_tb, an_tb, goneN, mkb_tb, an_tb]
    cases hdi : (dr r).testBit i with
    | false => simp
    | true =>
      have hi : i < pT P := Classical.byContradiction (fun z => by
        rw [Nat.testBit_lt_two_pow (Nat.lt_of_lt_of_le hd (Nat.pow_le_pow_right (by decide) (show pT P ≤ i by omega)))] at hdi
        cases hdi)
      rw [decide_eq_true hi]
      have hk : (nd P l &&& kds P 2).testBit i = ((nd P l).testBit i && kd P i == 2) := by rw [Nat.testBit_and, kds_tb hi]
      have key : (linN P (S ||| 2 ^ l)).testBit i = ((linN P S).testBit i || (nd P l &&& kds P 2).testBit i) := by
        rw [Bool.eq_iff_iff, Bool.or_eq_true, linN_tb, linN_tb]
        constructor
        · rintro ⟨j, h1, h2, h3⟩
          rw [Nat.testBit_or, Bool.or_eq_true, Nat.testBit_two_pow, decide_eq_true_eq] at h2
          rcases h2 with h2 | h2
          · exact Or.inl ⟨j, h1, h2, h3⟩
          · subst h2; exact Or.inr h3
        · rintro (⟨j, h1, h2, h3⟩ | h)
          · exact ⟨j, h1, by rw [Nat.testBit_or, h2, Bool.true_or], h3⟩
          · exact ⟨l, hl, by rw [Nat.testBit_or, Nat.testBit_two_pow_self, Bool.or_true], h⟩
      rw [key, hk]
      cases (linN P S).testBit i <;> cases (nd P l).testBit i <;> cases (kd P i == 2) <;> rfl
  have e2 : lv r ||| S ||| 2 ^ l = lv r ||| (S ||| 2 ^ l) := Nat.or_assoc ..
  show (an (an (dr r) (linN P S)) (goneN P l (an (dr r) (linN P S))), lv r ||| S ||| 2 ^ l, cn r, yr r) = _
  rw [e1, e2]
theorem rS_wf {P : Pl} {r : Hr} {S : Nat} (h : WfH P r) (hS : S < 2 ^ pL P) : WfH P (rS P r S) := ⟨an_lt h.1, Nat.or_lt_two_pow h.2.1 hS, h.2.2⟩
theorem rS_zero {P : Pl} {r : Hr} : rS P r 0 = r := by
  have : linN P 0 = 0 := by
    apply Nat.eq_of_testBit_eq
    intro i
    rw [Nat.zero_testBit]
    cases h : (linN P 0).testBit i with
    | false => rfl
    | true =>
      obtain ⟨l, -, h2, -⟩ := linN_tb.mp h
      rw [Nat.zero_testBit] at h2
      cases h2
  unfold rS
  rw [this, Nat.or_zero]
  have e : an (dr r) 0 = dr r := by simp [an]
  rw [e]
  rfl
def updU (p B e : List Nat) : List Nat := if B.length < p.length + e.length then p ++ e else B
theorem updU_nil {p B : List Nat} (h : p.length ≤ B.length) : updU p B [] = B := by
  unfold updU
  rw [if_neg (by simp; omega)]
theorem updU_down {p B e : List Nat} {c : Nat} : updU (p ++ [c]) (updU (p ++ [c]) B []) e = updU p B (c :: e) := by
  unfold updU
  simp only [List.length_append, List.length_cons, List.length_nil, Nat.add_zero, List.append_nil]
  split
  · simp only [List.length_append, List.length_cons, List.length_nil]
    rw [if_pos (show B.length < p.length + (e.length + 1) by omega)]
    split
    · simp
    · next q =>
      have : e = [] := List.eq_nil_of_length_eq_zero (by omega)
      subst this
      rfl
  · split
    · rw [if_pos (by omega)]; simp
    · rw [if_neg (by omega)]
theorem updU_two {p B a b : List Nat} : updU p (updU p B a) b = updU p B (if b.length ≤ a.length then a else b) := by
  unfold updU
  by_cases h : b.length ≤ a.length
  · rw [if_pos h]
    by_cases h1 : B.length < p.length + a.length
    · rw [if_pos h1, if_neg (by simp; omega)]
    · rw [if_neg h1, if_neg (by omega)]
  · rw [if_neg h]
    by_cases h1 : B.length < p.length + a.length
    · rw [if_pos h1, if_pos (by simp; omega), if_pos (by omega)]
    · rw [if_neg h1]
theorem updU_ge {p B e : List Nat} : B.length ≤ (updU p B e).length := by
  unfold updU
  split
  · simp; omega
  · exact Nat.le_refl _
def extK (P : Pl) (r : Hr) : Nat → Nat → Nat → List Nat
  | 0, _, _ => []
  | f + 1, S, k => extC (follow P r S) (fun l => ext P r f (S ||| 2 ^ l)) (pL P) k
theorem extK_all {P : Pl} {r : Hr} : ∀ f S, extK P r f S (pL P) = ext P r f S
  | 0, _ => rfl
  | _ + 1, _ => rfl
theorem extK_zero {P : Pl} {r : Hr} : ∀ f S, extK P r f S 0 = []
  | 0, _ => rfl
  | _ + 1, _ => rfl
theorem extK_no {P : Pl} {r : Hr} {S k : Nat} (h : follow P r S (pL P - (k + 1)) = false) : ∀ f, extK P r f S (k + 1) = extK P r f S k
  | 0 => rfl
  | f + 1 => by rw [extK, extC, h, if_neg (by decide)]; rfl
theorem extK_yes {P : Pl} {r : Hr} {f S k c : Nat} (hc : c = pL P - (k + 1)) (h : follow P r S c = true) : extK P r (f + 1) S (k + 1) = if (extK P r (f + 1) S k).length ≤ (c :: ext P r f (S ||| 2 ^ c)).length then c :: ext P r f (S ||| 2 ^ c) else extK P r (f + 1) S k := by
  subst hc
  rw [extK, extC, if_pos h, List.length_cons, Nat.add_comm]
  rfl
def RoAt (h0 h : SH) (w tr : Nat → Int32) (B : List Nat) : Prop := (∀ j, j ≠ 1 → j ≠ 13 → j ≠ 14 → h[j]? = h0[j]?) ∧ WAt h w ∧ h[13]? = some (.inl (false, 7, tr)) ∧ ∃ br, h[14]? = some (.inl (false, 6, br)) ∧ ∀ i, i < B.length → br i = nI (B.getD i 0)
/-- the walk through all rows behind S, from the life pL - k on -/
def NodeC (P : Pl) (r : Hr) (h0 : SH) (K : Option Value → SH → Prop) (f S d k : Nat) : Prop := ∀ h w tr B p o5, RoAt h0 h w tr B → HrAt w (48 + 4 * d) (rS P r S) → p.length = d → (∀ i, i < d → tr i = nI (p.getD i 0)) → d ≤ B.length → B.length ≤ 6 →
  (∀ h' w' tr' o3 o4 o5, RoAt h0 h' w' tr' (updU p B (extK P r f S k)) → (∀ j, j < 48 + 4 * (d + 1) → w' j = w j) → (∀ j, j < d → tr' j = tr j) → (updU p B (extK P r f S k)).length ≤ 6 → SW MX6_longestRow K 0 0 18 [some (.ref 0), some (.int (nI (updU p B (extK P r f S k)).length)), some (.int (nI d + (-1))), o3, o4, o5] [] h') →
  SW MX6_longestRow K 0 0 39 [some (.ref 0), some (.int (nI B.length)), some (.int (nI d)), some (.int (nI (48 + 4 * d))), some (.int (nI (pL P - k))), o5] [] h
theorem m1p : (-1 : Int32) + nI 1 = nI 0 := rfl
section
variable {P : Pl} {r : Hr} {h0 h : SH} {K : Option Value → SH → Prop} {w tr : Nat → Int32} {B : List Nat}
/-- the best row is told anew: its places are copied -/
theorem ro125 {d : Nat} {p : List Nat} {x3 x4 : Option Value} (hM : MPl h0 P) (hA : RoAt h0 h w tr B) (hp : p.length = d) (hd : d ≤ 6) (htr : ∀ i, i < d → tr i = nI (p.getD i 0))
    (kk : ∀ h' o5, RoAt h0 h' w tr p → SW MX6_longestRow K 0 0 18 [some (.ref 0), some (.int (nI d)), some (.int (nI d)), x3, x4, o5] [] h') : SW MX6_longestRow K 0 0 125 [some (.ref 0), some (.int (nI d)), some (.int (nI d)), x3, x4, some (.int (nI 0))] [] h := by
  have key := loopN (P := fun i => ∀ h' br, (∀ j, j ≠ 1 → j ≠ 13 → j ≠ 14 → h'[j]? = h0[j]?) → WAt h' w → h'[13]? = some (.inl (false, 7, tr)) → h'[14]? = some (.inl (false, 6, br)) → (∀ j, j < i → br j = nI (p.getD j 0)) → SW MX6_longestRow K 0 0 125 [some (.ref 0), some (.int (nI d)), some (.int (nI d)), x3, x4, some (.int (nI i))] [] h') d (by
      intro h' br hf hw h13 h14 hb
      refine SW.go VX6_longestRow (Nat.zero_le _) (Nat.zero_le _) (fun q => decide (q = 18 ∨ q = 39 ∨ q = 125)) 120 ?_
      simp only [nX6_longestRow, kX6_longestRow_0, kX6_longestRow_1, kX6_longestRow_2, kX6_longestRow_3, kX6_longestRow_4, kX6_longestRow_5, kX6_longestRow_6, kX6_longestRow_8, kX6_longestRow_11, kX6_longestRow_12, kX6_longestRow_15, kX6_longestRow_16, kX6_longestRow_17, kX6_longestRow_18, kX6_longestRow_19, kX6_longestRow_22, kX6_longestRow_24, kX6_longestRow_25, kX6_longestRow_26, kX6_longestRow_27, kX6_longestRow_28, kX6_longestRow_29, kX6_longestRow_30, kX6_longestRow_33, kX6_longestRow_34, kX6_longestRow_35, kX6_longestRow_36, kX6_longestRow_37, kX6_longestRow_39, kX6_longestRow_41, kX6_longestRow_42, kX6_longestRow_45, kX6_longestRow_48, kX6_longestRow_49, kX6_longestRow_50, kX6_longestRow_52, kX6_longestRow_55, kX6_longestRow_58, kX6_longestRow_61, kX6_longestRow_64, kX6_longestRow_66, kX6_longestRow_67, kX6_longestRow_70, kX6_longestRow_73, kX6_longestRow_76, kX6_longestRow_79, kX6_longestRow_80, kX6_longestRow_83, kX6_longestRow_84, kX6_longestRow_86, kX6_longestRow_87, kX6_longestRow_88, kX6_longestRow_89, kX6_longestRow_90, kX6_longestRow_91, kX6_longestRow_92, kX6_longestRow_95, kX6_longestRow_96, kX6_longestRow_97, kX6_longestRow_98, kX6_longestRow_99, kX6_longestRow_101, kX6_longestRow_104, kX6_longestRow_105, kX6_longestRow_108, kX6_longestRow_109, kX6_longestRow_112, kX6_longestRow_113, kX6_longestRow_114, kX6_longestRow_115, kX6_longestRow_116, kX6_longestRow_117, kX6_longestRow_120, kX6_longestRow_121, kX6_longestRow_122, kX6_longestRow_123, kX6_longestRow_125, kX6_longestRow_127, kX6_longestRow_128, kX6_longestRow_131, kX6_longestRow_132, kX6_longestRow_135, kX6_longestRow_137, kX6_longestRow_138, kX6_longestRow_141, kX6_longestRow_143, kX6_longestRow_144, kX6_longestRow_145, kX6_longestRow_148, kX6_longestRow_151, kX6_longestRow_154, kX6_longestRow_155, ex_1, ex_s, exo_some, xK, xKL, xLdI, xLdA, xLdL, xStI, xStA, xStL, xInc, xBin, xDiv, xBinL, xDivL, xLcmp, xI2l, xL2i, xI2c, xC_eq, xC_ne, xC_lt, xC_ge, xC_gt, xC_le, xZ_eq, xZ_ne, xZ_lt, xZ_ge, xZ_gt, xZ_le, xGo, xTsw, tsw, xDup, xDup2, xPop, xGf, xPfI, xPfR, xiaload, xcaload, xiastore, xcastore, xAlen, xRet, xRetZ, xRetV, xObj, xMmax, xMmin, xCallS, xCallV, xCallI, popN, cs, kont_some, kont_none, noL, not_false_eq_true, Nat.reduceEqDiff, Nat.reduceBEq, Nat.reduceAdd, Nat.reduceLT, Nat.reduceSub, ↓reduceIte, decide_eq_true_eq, Bool.false_eq_true, decide_false, decide_true, or_false, false_or, or_true, true_or, or_self, lsOf_int, lsOf_ref, lsOf_long, lsOf_nil, List.replicate_succ, List.replicate_zero, Nat.add_one_sub_one, List.getElem?_cons_zero, List.getElem?_cons_succ, List.set_cons_zero, List.set_cons_succ, List.length_cons, List.length_nil, cond_true, cond_false, Value.category, List.reverse_nil, List.reverse_cons, List.nil_append, List.cons_append, true_and, and_true, beq_self_eq_true, nI_add, pk_mul, nI_and, nI_or, nI_an, Nat.zero_le, Nat.reduceLeDiff, f_iadd, f_isub, f_imul, f_iand, f_ior, f_ixor, f_ishl, f_ishr, f_iushr, f_idiv, f_irem, f_ladd, f_lmul, f_lrem, true_implies, false_implies, not_true_eq_false, and_self, ss, Option.isSome_some, List.set_set, sn, sn0, s0n, nI_leI (show d < 2 ^ 31 by omega) (show d < 2 ^ 31 by omega)]
      exact ⟨fun _ => kk h' _ ⟨hf, hw, h13, br, h14, fun i hi => hb i (by omega)⟩, fun q => absurd (Nat.le_refl _) q⟩) (fun i hi ih => by
      intro h' br hf hw h13 h14 hb
      obtain ⟨-, -, -, -, -, -, -, ⟨uN, kN, sa, sx, se, tn, pl, nu, rs, ry, rt, rl, m0⟩, -⟩ := id hM
      have m0' : h'[0]? = some (.inr (6, [.ref 1, .int (nI uN), .int (nI kN), .int (nI (pR P)), .int (nI (pA P)), .int (nI (pT P)), .ref 2, .ref 3, .ref 4, .int (nI (pL P)), .ref 5, .ref 6, .ref 7, .ref 8, .int (nI sa), .int (nI sx), .int (nI se), .ref 9, .int (nI tn), .int pl, .int nu, .int rs, .int ry, .int rt, .ref 10, .int rl, .ref 11, .ref 12, .ref 13, .ref 14, .ref 15, .ref 16])) := (hf 0 (by decide) (by decide) (by decide)).trans m0
      have v7 : vp_in (nI i) 7 := vp_in_nI (by omega) (by decide)
      have v6 : vp_in (nI i) 6 := vp_in_nI (by omega) (by decide)
      have cl : (nI i).toNatClampNeg = i := nI_clamp (by omega)
      refine SW.go VX6_longestRow (Nat.zero_le _) (Nat.zero_le _) (fun q => decide (q = 18 ∨ q = 39 ∨ q = 125)) 120 ?_
      simp only [nX6_longestRow, kX6_longestRow_0, kX6_longestRow_1, kX6_longestRow_2, kX6_longestRow_3, kX6_longestRow_4, kX6_longestRow_5, kX6_longestRow_6, kX6_longestRow_8, kX6_longestRow_11, kX6_longestRow_12, kX6_longestRow_15, kX6_longestRow_16, kX6_longestRow_17, kX6_longestRow_18, kX6_longestRow_19, kX6_longestRow_22, kX6_longestRow_24, kX6_longestRow_25, kX6_longestRow_26, kX6_longestRow_27, kX6_longestRow_28, kX6_longestRow_29, kX6_longestRow_30, kX6_longestRow_33, kX6_longestRow_34, kX6_longestRow_35, kX6_longestRow_36, kX6_longestRow_37, kX6_longestRow_39, kX6_longestRow_41, kX6_longestRow_42, kX6_longestRow_45, kX6_longestRow_48, kX6_longestRow_49, kX6_longestRow_50, kX6_longestRow_52, kX6_longestRow_55, kX6_longestRow_58, kX6_longestRow_61, kX6_longestRow_64, kX6_longestRow_66, kX6_longestRow_67, kX6_longestRow_70, kX6_longestRow_73, kX6_longestRow_76, kX6_longestRow_79, kX6_longestRow_80, kX6_longestRow_83, kX6_longestRow_84, kX6_longestRow_86, kX6_longestRow_87, kX6_longestRow_88, kX6_longestRow_89, kX6_longestRow_90, kX6_longestRow_91, kX6_longestRow_92, kX6_longestRow_95, kX6_longestRow_96, kX6_longestRow_97, kX6_longestRow_98, kX6_longestRow_99, kX6_longestRow_101, kX6_longestRow_104, kX6_longestRow_105, kX6_longestRow_108, kX6_longestRow_109, kX6_longestRow_112, kX6_longestRow_113, kX6_longestRow_114, kX6_longestRow_115, kX6_longestRow_116, kX6_longestRow_117, kX6_longestRow_120, kX6_longestRow_121, kX6_longestRow_122, kX6_longestRow_123, kX6_longestRow_125, kX6_longestRow_127, kX6_longestRow_128, kX6_longestRow_131, kX6_longestRow_132, kX6_longestRow_135, kX6_longestRow_137, kX6_longestRow_138, kX6_longestRow_141, kX6_longestRow_143, kX6_longestRow_144, kX6_longestRow_145, kX6_longestRow_148, kX6_longestRow_151, kX6_longestRow_154, kX6_longestRow_155, ex_1, ex_s, exo_some, xK, xKL, xLdI, xLdA, xLdL, xStI, xStA, xStL, xInc, xBin, xDiv, xBinL, xDivL, xLcmp, xI2l, xL2i, xI2c, xC_eq, xC_ne, xC_lt, xC_ge, xC_gt, xC_le, xZ_eq, xZ_ne, xZ_lt, xZ_ge, xZ_gt, xZ_le, xGo, xTsw, tsw, xDup, xDup2, xPop, xGf, xPfI, xPfR, xiaload, xcaload, xiastore, xcastore, xAlen, xRet, xRetZ, xRetV, xObj, xMmax, xMmin, xCallS, xCallV, xCallI, popN, cs, kont_some, kont_none, noL, not_false_eq_true, Nat.reduceEqDiff, Nat.reduceBEq, Nat.reduceAdd, Nat.reduceLT, Nat.reduceSub, ↓reduceIte, decide_eq_true_eq, Bool.false_eq_true, decide_false, decide_true, or_false, false_or, or_true, true_or, or_self, lsOf_int, lsOf_ref, lsOf_long, lsOf_nil, List.replicate_succ, List.replicate_zero, Nat.add_one_sub_one, List.getElem?_cons_zero, List.getElem?_cons_succ, List.set_cons_zero, List.set_cons_succ, List.length_cons, List.length_nil, cond_true, cond_false, Value.category, List.reverse_nil, List.reverse_cons, List.nil_append, List.cons_append, true_and, and_true, beq_self_eq_true, nI_add, pk_mul, nI_and, nI_or, nI_an, Nat.zero_le, Nat.reduceLeDiff, f_iadd, f_isub, f_imul, f_iand, f_ior, f_ixor, f_ishl, f_ishr, f_iushr, f_idiv, f_irem, f_ladd, f_lmul, f_lrem, true_implies, false_implies, not_true_eq_false, and_self, ss, Option.isSome_some, List.set_set, sn, sn0, s0n, m0', h13, h14, v7, v6, cl, htr i hi, nI_leI (show d < 2 ^ 31 by omega) (show i < 2 ^ 31 by omega)]
      refine ⟨fun q => absurd q (by omega), fun _ => ih _ (upd br i (nI (p.getD i 0))) (fun j a b c => by rw [List.getElem?_set_ne (fun z => c z.symm)]; exact hf j a b c) ((List.getElem?_set_ne (by decide)).trans hw) ((List.getElem?_set_ne (by decide)).trans h13) (set_get h14 _) (fun j hj => ?_)⟩
      rw [upd_eq]
      by_cases e : j = i
      · rw [if_pos e, e]
      · rw [if_neg e]
        exact hb j (by omega))
  obtain ⟨hf, hw, h13, br, h14, -⟩ := hA
  exact key 0 (Nat.zero_le _) h br hf hw h13 h14 (fun j hj => absurd hj (Nat.not_lt_zero _))
theorem ro39 {f S d : Nat} (hM : MPl h0 P) (hW : WfP P) (hH : WfH P r) (hS : S < 2 ^ pL P) (hd : d + freeN S ≤ 6) (hsub : ∀ c, c < pL P → follow P r S c = true → ∃ f', f = f' + 1 ∧ NodeC P r h0 K f' (S ||| 2 ^ c) (d + 1) (pL P)) : ∀ k, k ≤ pL P → NodeC P r h0 K f S d k := by
  have hL6 := hW.2.2.2.1
  have hL31 : pL P < 2 ^ 31 := by omega
  intro k
  induction k with
  | zero =>
    intro _ h w tr B p o5 hA hr hp htr hB1 hB2 kk
    obtain ⟨hf, hw, h13, br, h14, hbr⟩ := id hA
    obtain ⟨-, -, -, -, -, -, -, ⟨uN, kN, sa, sx, se, tn, pl, nu, rs, ry, rt, rl, m0⟩, -⟩ := id hM
    have m0' : h[0]? = some (.inr (6, [.ref 1, .int (nI uN), .int (nI kN), .int (nI (pR P)), .int (nI (pA P)), .int (nI (pT P)), .ref 2, .ref 3, .ref 4, .int (nI (pL P)), .ref 5, .ref 6, .ref 7, .ref 8, .int (nI sa), .int (nI sx), .int (nI se), .ref 9, .int (nI tn), .int pl, .int nu, .int rs, .int ry, .int rt, .ref 10, .int rl, .ref 11, .ref 12, .ref 13, .ref 14, .ref 15, .ref 16])) := (hf 0 (by decide) (by decide) (by decide)).trans m0
    rw [extK_zero, updU_nil (by omega)] at kk
    have kk := kk h w tr
    rw [Nat.sub_zero]
    refine SW.go VX6_longestRow (Nat.zero_le _) (Nat.zero_le _) (fun q => decide (q = 18 ∨ q = 39 ∨ q = 125)) 120 ?_
    simp only [nX6_longestRow, kX6_longestRow_0, kX6_longestRow_1, kX6_longestRow_2, kX6_longestRow_3, kX6_longestRow_4, kX6_longestRow_5, kX6_longestRow_6, kX6_longestRow_8, kX6_longestRow_11, kX6_longestRow_12, kX6_longestRow_15, kX6_longestRow_16, kX6_longestRow_17, kX6_longestRow_18, kX6_longestRow_19, kX6_longestRow_22, kX6_longestRow_24, kX6_longestRow_25, kX6_longestRow_26, kX6_longestRow_27, kX6_longestRow_28, kX6_longestRow_29, kX6_longestRow_30, kX6_longestRow_33, kX6_longestRow_34, kX6_longestRow_35, kX6_longestRow_36, kX6_longestRow_37, kX6_longestRow_39, kX6_longestRow_41, kX6_longestRow_42, kX6_longestRow_45, kX6_longestRow_48, kX6_longestRow_49, kX6_longestRow_50, kX6_longestRow_52, kX6_longestRow_55, kX6_longestRow_58, kX6_longestRow_61, kX6_longestRow_64, kX6_longestRow_66, kX6_longestRow_67, kX6_longestRow_70, kX6_longestRow_73, kX6_longestRow_76, kX6_longestRow_79, kX6_longestRow_80, kX6_longestRow_83, kX6_longestRow_84, kX6_longestRow_86, kX6_longestRow_87, kX6_longestRow_88, kX6_longestRow_89, kX6_longestRow_90, kX6_longestRow_91, kX6_longestRow_92, kX6_longestRow_95, kX6_longestRow_96, kX6_longestRow_97, kX6_longestRow_98, kX6_longestRow_99, kX6_longestRow_101, kX6_longestRow_104, kX6_longestRow_105, kX6_longestRow_108, kX6_longestRow_109, kX6_longestRow_112, kX6_longestRow_113, kX6_longestRow_114, kX6_longestRow_115, kX6_longestRow_116, kX6_longestRow_117, kX6_longestRow_120, kX6_longestRow_121, kX6_longestRow_122, kX6_longestRow_123, kX6_longestRow_125, kX6_longestRow_127, kX6_longestRow_128, kX6_longestRow_131, kX6_longestRow_132, kX6_longestRow_135, kX6_longestRow_137, kX6_longestRow_138, kX6_longestRow_141, kX6_longestRow_143, kX6_longestRow_144, kX6_longestRow_145, kX6_longestRow_148, kX6_longestRow_151, kX6_longestRow_154, kX6_longestRow_155, ex_1, ex_s, exo_some, xK, xKL, xLdI, xLdA, xLdL, xStI, xStA, xStL, xInc, xBin, xDiv, xBinL, xDivL, xLcmp, xI2l, xL2i, xI2c, xC_eq, xC_ne, xC_lt, xC_ge, xC_gt, xC_le, xZ_eq, xZ_ne, xZ_lt, xZ_ge, xZ_gt, xZ_le, xGo, xTsw, tsw, xDup, xDup2, xPop, xGf, xPfI, xPfR, xiaload, xcaload, xiastore, xcastore, xAlen, xRet, xRetZ, xRetV, xObj, xMmax, xMmin, xCallS, xCallV, xCallI, popN, cs, kont_some, kont_none, noL, not_false_eq_true, Nat.reduceEqDiff, Nat.reduceBEq, Nat.reduceAdd, Nat.reduceLT, Nat.reduceSub, ↓reduceIte, decide_eq_true_eq, Bool.false_eq_true, decide_false, decide_true, or_false, false_or, or_true, true_or, or_self, lsOf_int, lsOf_ref, lsOf_long, lsOf_nil, List.replicate_succ, List.replicate_zero, Nat.add_one_sub_one, List.getElem?_cons_zero, List.getElem?_cons_succ, List.set_cons_zero, List.set_cons_succ, List.length_cons, List.length_nil, cond_true, cond_false, Value.category, List.reverse_nil, List.reverse_cons, List.nil_append, List.cons_append, true_and, and_true, beq_self_eq_true, nI_add, pk_mul, nI_and, nI_or, nI_an, Nat.zero_le, Nat.reduceLeDiff, f_iadd, f_isub, f_imul, f_iand, f_ior, f_ixor, f_ishl, f_ishr, f_iushr, f_idiv, f_irem, f_ladd, f_lmul, f_lrem, true_implies, false_implies, not_true_eq_false, and_self, ss, Option.isSome_some, List.set_set, sn, sn0, s0n, m0', nI_leI hL31 hL31]
    exact ⟨fun _ => kk _ _ _ hA (fun _ _ => rfl) (fun _ _ => rfl) hB2, fun q => absurd (Nat.le_refl _) q⟩
  | succ k ih =>
    intro hk h w tr B p o5 hA hr hp htr hB1 hB2 kk
    have ih := ih (by omega)
    obtain ⟨hf, hw, h13, br, h14, hbr⟩ := id hA
    obtain ⟨-, -, -, -, -, -, -, ⟨uN, kN, sa, sx, se, tn, pl, nu, rs, ry, rt, rl, m0⟩, -⟩ := id hM
    have m0' : h[0]? = some (.inr (6, [.ref 1, .int (nI uN), .int (nI kN), .int (nI (pR P)), .int (nI (pA P)), .int (nI (pT P)), .ref 2, .ref 3, .ref 4, .int (nI (pL P)), .ref 5, .ref 6, .ref 7, .ref 8, .int (nI sa), .int (nI sx), .int (nI se), .ref 9, .int (nI tn), .int pl, .int nu, .int rs, .int ry, .int rt, .ref 10, .int rl, .ref 11, .ref 12, .ref 13, .ref 14, .ref 15, .ref 16])) := (hf 0 (by decide) (by decide) (by decide)).trans m0
    have hMh : MPl h P := hM.same (fun j x y => hf j y (by omega) (by omega))
    generalize hc : pL P - (k + 1) = c
    have hcL : c < pL P := by omega
    have hc1 : pL P - k = c + 1 := by omega
    rw [NodeC, hc1] at ih
    have hrw := rS_wf (r := r) hH hS
    refine SW.go VX6_longestRow (Nat.zero_le _) (Nat.zero_le _) (fun q => decide (q = 18 ∨ q = 39 ∨ q = 125)) 120 ?_
    simp only [nX6_longestRow, kX6_longestRow_0, kX6_longestRow_1, kX6_longestRow_2, kX6_longestRow_3, kX6_longestRow_4, kX6_longestRow_5, kX6_longestRow_6, kX6_longestRow_8, kX6_longestRow_11, kX6_longestRow_12, kX6_longestRow_15, kX6_longestRow_16, kX6_longestRow_17, kX6_longestRow_18, kX6_longestRow_19, kX6_longestRow_22, kX6_longestRow_24, kX6_longestRow_25, kX6_longestRow_26, kX6_longestRow_27, kX6_longestRow_28, kX6_longestRow_29, kX6_longestRow_30, kX6_longestRow_33, kX6_longestRow_34, kX6_longestRow_35, kX6_longestRow_36, kX6_longestRow_37, kX6_longestRow_39, kX6_longestRow_41, kX6_longestRow_42, kX6_longestRow_45, kX6_longestRow_48, kX6_longestRow_49, kX6_longestRow_50, kX6_longestRow_52, kX6_longestRow_55, kX6_longestRow_58, kX6_longestRow_61, kX6_longestRow_64, kX6_longestRow_66, kX6_longestRow_67, kX6_longestRow_70, kX6_longestRow_73, kX6_longestRow_76, kX6_longestRow_79, kX6_longestRow_80, kX6_longestRow_83, kX6_longestRow_84, kX6_longestRow_86, kX6_longestRow_87, kX6_longestRow_88, kX6_longestRow_89, kX6_longestRow_90, kX6_longestRow_91, kX6_longestRow_92, kX6_longestRow_95, kX6_longestRow_96, kX6_longestRow_97, kX6_longestRow_98, kX6_longestRow_99, kX6_longestRow_101, kX6_longestRow_104, kX6_longestRow_105, kX6_longestRow_108, kX6_longestRow_109, kX6_longestRow_112, kX6_longestRow_113, kX6_longestRow_114, kX6_longestRow_115, kX6_longestRow_116, kX6_longestRow_117, kX6_longestRow_120, kX6_longestRow_121, kX6_longestRow_122, kX6_longestRow_123, kX6_longestRow_125, kX6_longestRow_127, kX6_longestRow_128, kX6_longestRow_131, kX6_longestRow_132, kX6_longestRow_135, kX6_longestRow_137, kX6_longestRow_138, kX6_longestRow_141, kX6_longestRow_143, kX6_longestRow_144, kX6_longestRow_145, kX6_longestRow_148, kX6_longestRow_151, kX6_longestRow_154, kX6_longestRow_155, ex_1, ex_s, exo_some, xK, xKL, xLdI, xLdA, xLdL, xStI, xStA, xStL, xInc, xBin, xDiv, xBinL, xDivL, xLcmp, xI2l, xL2i, xI2c, xC_eq, xC_ne, xC_lt, xC_ge, xC_gt, xC_le, xZ_eq, xZ_ne, xZ_lt, xZ_ge, xZ_gt, xZ_le, xGo, xTsw, tsw, xDup, xDup2, xPop, xGf, xPfI, xPfR, xiaload, xcaload, xiastore, xcastore, xAlen, xRet, xRetZ, xRetV, xObj, xMmax, xMmin, xCallS, xCallV, xCallI, popN, cs, kont_some, kont_none, noL, not_false_eq_true, Nat.reduceEqDiff, Nat.reduceBEq, Nat.reduceAdd, Nat.reduceLT, Nat.reduceSub, ↓reduceIte, decide_eq_true_eq, Bool.false_eq_true, decide_false, decide_true, or_false, false_or, or_true, true_or, or_self, lsOf_int, lsOf_ref, lsOf_long, lsOf_nil, List.replicate_succ, List.replicate_zero, Nat.add_one_sub_one, List.getElem?_cons_zero, List.getElem?_cons_succ, List.set_cons_zero, List.set_cons_succ, List.length_cons, List.length_nil, cond_true, cond_false, Value.category, List.reverse_nil, List.reverse_cons, List.nil_append, List.cons_append, true_and, and_true, beq_self_eq_true, nI_add, pk_mul, nI_and, nI_or, nI_an, Nat.zero_le, Nat.reduceLeDiff, f_iadd, f_isub, f_imul, f_iand, f_ior, f_ixor, f_ishl, f_ishr, f_iushr, f_idiv, f_irem, f_ladd, f_lmul, f_lrem, true_implies, false_implies, not_true_eq_false, and_self, ss, Option.isSome_some, List.set_set, sn, sn0, s0n, m0', nI_leI hL31 (show c < 2 ^ 31 by omega)]
    refine ⟨fun q => absurd q (by omega), fun _ => sp_mcanLive hMh hW hw hr hrw (by omega) hcL ?_⟩
    rw [rS_can]
    have v7 : vp_in (nI d) 7 := vp_in_nI (by omega) (by decide)
    have cd : (nI d).toNatClampNeg = d := nI_clamp (by omega)
    have s13 := set_get h13
    have t0 : ∀ c, (h.set 13 c)[0]? = h[0]? := fun c => List.getElem?_set_ne (by decide)
    simp only [nX6_longestRow, kX6_longestRow_0, kX6_longestRow_1, kX6_longestRow_2, kX6_longestRow_3, kX6_longestRow_4, kX6_longestRow_5, kX6_longestRow_6, kX6_longestRow_8, kX6_longestRow_11, kX6_longestRow_12, kX6_longestRow_15, kX6_longestRow_16, kX6_longestRow_17, kX6_longestRow_18, kX6_longestRow_19, kX6_longestRow_22, kX6_longestRow_24, kX6_longestRow_25, kX6_longestRow_26, kX6_longestRow_27, kX6_longestRow_28, kX6_longestRow_29, kX6_longestRow_30, kX6_longestRow_33, kX6_longestRow_34, kX6_longestRow_35, kX6_longestRow_36, kX6_longestRow_37, kX6_longestRow_39, kX6_longestRow_41, kX6_longestRow_42, kX6_longestRow_45, kX6_longestRow_48, kX6_longestRow_49, kX6_longestRow_50, kX6_longestRow_52, kX6_longestRow_55, kX6_longestRow_58, kX6_longestRow_61, kX6_longestRow_64, kX6_longestRow_66, kX6_longestRow_67, kX6_longestRow_70, kX6_longestRow_73, kX6_longestRow_76, kX6_longestRow_79, kX6_longestRow_80, kX6_longestRow_83, kX6_longestRow_84, kX6_longestRow_86, kX6_longestRow_87, kX6_longestRow_88, kX6_longestRow_89, kX6_longestRow_90, kX6_longestRow_91, kX6_longestRow_92, kX6_longestRow_95, kX6_longestRow_96, kX6_longestRow_97, kX6_longestRow_98, kX6_longestRow_99, kX6_longestRow_101, kX6_longestRow_104, kX6_longestRow_105, kX6_longestRow_108, kX6_longestRow_109, kX6_longestRow_112, kX6_longestRow_113, kX6_longestRow_114, kX6_longestRow_115, kX6_longestRow_116, kX6_longestRow_117, kX6_longestRow_120, kX6_longestRow_121, kX6_longestRow_122, kX6_longestRow_123, kX6_longestRow_125, kX6_longestRow_127, kX6_longestRow_128, kX6_longestRow_131, kX6_longestRow_132, kX6_longestRow_135, kX6_longestRow_137, kX6_longestRow_138, kX6_longestRow_141, kX6_longestRow_143, kX6_longestRow_144, kX6_longestRow_145, kX6_longestRow_148, kX6_longestRow_151, kX6_longestRow_154, kX6_longestRow_155, ex_1, ex_s, exo_some, xK, xKL, xLdI, xLdA, xLdL, xStI, xStA, xStL, xInc, xBin, xDiv, xBinL, xDivL, xLcmp, xI2l, xL2i, xI2c, xC_eq, xC_ne, xC_lt, xC_ge, xC_gt, xC_le, xZ_eq, xZ_ne, xZ_lt, xZ_ge, xZ_gt, xZ_le, xGo, xTsw, tsw, xDup, xDup2, xPop, xGf, xPfI, xPfR, xiaload, xcaload, xiastore, xcastore, xAlen, xRet, xRetZ, xRetV, xObj, xMmax, xMmin, xCallS, xCallV, xCallI, popN, cs, kont_some, kont_none, noL, not_false_eq_true, Nat.reduceEqDiff, Nat.reduceBEq, Nat.reduceAdd, Nat.reduceLT, Nat.reduceSub, ↓reduceIte, decide_eq_true_eq, Bool.false_eq_true, decide_false, decide_true, or_false, false_or, or_true, true_or, or_self, lsOf_int, lsOf_ref, lsOf_long, lsOf_nil, List.replicate_succ, List.replicate_zero, Nat.add_one_sub_one, List.getElem?_cons_zero, List.getElem?_cons_succ, List.set_cons_zero, List.set_cons_succ, List.length_cons, List.length_nil, cond_true, cond_false, Value.category, List.reverse_nil, List.reverse_cons, List.nil_append, List.cons_append, true_and, and_true, beq_self_eq_true, nI_add, pk_mul, nI_and, nI_or, nI_an, Nat.zero_le, Nat.reduceLeDiff, f_iadd, f_isub, f_imul, f_iand, f_ior, f_ixor, f_ishl, f_ishr, f_iushr, f_idiv, f_irem, f_ladd, f_lmul, f_lrem, true_implies, false_implies, not_true_eq_false, and_self, ss, Option.isSome_some, List.set_set, sn, sn0, s0n, nI_b0, m0', h13, v7, cd, nI_eq (show c < 2 ^ 31 by omega) hL31]
    cases hfo : follow P r S c with
    | false =>
      rw [extK_no (by rw [hc]; exact hfo)] at kk
      exact ⟨fun _ => ih h w tr B p o5 hA hr hp htr hB1 hB2 kk, fun z => absurd rfl z⟩
    | true =>
      refine ⟨fun z => absurd z (by decide), fun _ => ⟨fun z => absurd z (by omega), fun _ => ?_⟩⟩
      obtain ⟨f', rfl, hN⟩ := hsub c hcL hfo
      have hfree := freeN_or (show c < 6 by omega) (follow_not hfo)
      have hS2 : S ||| 2 ^ c < 2 ^ pL P := orT hS hcL
      have m1 : ∀ c d, ((h.set 13 c).set 1 d)[0]? = _ := fun c d => (List.getElem?_set_ne (by decide)).trans ((List.getElem?_set_ne (by decide)).trans m0')
      have x13 : ∀ c d, ((h.set 13 c).set 1 d)[13]? = some c := fun c d => (List.getElem?_set_ne (by decide)).trans (s13 c)
      have hM1 : ∀ c d, MPl ((h.set 13 c).set 1 d) P := fun c d => hMh.same (fun j x y => by rw [List.getElem?_set_ne (by omega), List.getElem?_set_ne (by omega)])
      have hw0 : ∀ c, WAt (h.set 13 c) w := fun c => (List.getElem?_set_ne (by decide)).trans hw
      refine sp_mcopy (a := 48 + 4 * d) (b := 48 + 4 * d + 4) ⟨_, _, _, _, _, _, _, _, _, _, _, _, (t0 _).trans m0'⟩ (hw0 _) (by omega) (by omega) (by omega) (fun w1 g1 g2 => ?_)
      simp only [nX6_longestRow, kX6_longestRow_0, kX6_longestRow_1, kX6_longestRow_2, kX6_longestRow_3, kX6_longestRow_4, kX6_longestRow_5, kX6_longestRow_6, kX6_longestRow_8, kX6_longestRow_11, kX6_longestRow_12, kX6_longestRow_15, kX6_longestRow_16, kX6_longestRow_17, kX6_longestRow_18, kX6_longestRow_19, kX6_longestRow_22, kX6_longestRow_24, kX6_longestRow_25, kX6_longestRow_26, kX6_longestRow_27, kX6_longestRow_28, kX6_longestRow_29, kX6_longestRow_30, kX6_longestRow_33, kX6_longestRow_34, kX6_longestRow_35, kX6_longestRow_36, kX6_longestRow_37, kX6_longestRow_39, kX6_longestRow_41, kX6_longestRow_42, kX6_longestRow_45, kX6_longestRow_48, kX6_longestRow_49, kX6_longestRow_50, kX6_longestRow_52, kX6_longestRow_55, kX6_longestRow_58, kX6_longestRow_61, kX6_longestRow_64, kX6_longestRow_66, kX6_longestRow_67, kX6_longestRow_70, kX6_longestRow_73, kX6_longestRow_76, kX6_longestRow_79, kX6_longestRow_80, kX6_longestRow_83, kX6_longestRow_84, kX6_longestRow_86, kX6_longestRow_87, kX6_longestRow_88, kX6_longestRow_89, kX6_longestRow_90, kX6_longestRow_91, kX6_longestRow_92, kX6_longestRow_95, kX6_longestRow_96, kX6_longestRow_97, kX6_longestRow_98, kX6_longestRow_99, kX6_longestRow_101, kX6_longestRow_104, kX6_longestRow_105, kX6_longestRow_108, kX6_longestRow_109, kX6_longestRow_112, kX6_longestRow_113, kX6_longestRow_114, kX6_longestRow_115, kX6_longestRow_116, kX6_longestRow_117, kX6_longestRow_120, kX6_longestRow_121, kX6_longestRow_122, kX6_longestRow_123, kX6_longestRow_125, kX6_longestRow_127, kX6_longestRow_128, kX6_longestRow_131, kX6_longestRow_132, kX6_longestRow_135, kX6_longestRow_137, kX6_longestRow_138, kX6_longestRow_141, kX6_longestRow_143, kX6_longestRow_144, kX6_longestRow_145, kX6_longestRow_148, kX6_longestRow_151, kX6_longestRow_154, kX6_longestRow_155, ex_1, ex_s, exo_some, xK, xKL, xLdI, xLdA, xLdL, xStI, xStA, xStL, xInc, xBin, xDiv, xBinL, xDivL, xLcmp, xI2l, xL2i, xI2c, xC_eq, xC_ne, xC_lt, xC_ge, xC_gt, xC_le, xZ_eq, xZ_ne, xZ_lt, xZ_ge, xZ_gt, xZ_le, xGo, xTsw, tsw, xDup, xDup2, xPop, xGf, xPfI, xPfR, xiaload, xcaload, xiastore, xcastore, xAlen, xRet, xRetZ, xRetV, xObj, xMmax, xMmin, xCallS, xCallV, xCallI, popN, cs, kont_some, kont_none, noL, not_false_eq_true, Nat.reduceEqDiff, Nat.reduceBEq, Nat.reduceAdd, Nat.reduceLT, Nat.reduceSub, ↓reduceIte, decide_eq_true_eq, Bool.false_eq_true, decide_false, decide_true, or_false, false_or, or_true, true_or, or_self, lsOf_int, lsOf_ref, lsOf_long, lsOf_nil, List.replicate_succ, List.replicate_zero, Nat.add_one_sub_one, List.getElem?_cons_zero, List.getElem?_cons_succ, List.set_cons_zero, List.set_cons_succ, List.length_cons, List.length_nil, cond_true, cond_false, Value.category, List.reverse_nil, List.reverse_cons, List.nil_append, List.cons_append, true_and, and_true, beq_self_eq_true, nI_add, pk_mul, nI_and, nI_or, nI_an, Nat.zero_le, Nat.reduceLeDiff, f_iadd, f_isub, f_imul, f_iand, f_ior, f_ixor, f_ishl, f_ishr, f_iushr, f_idiv, f_irem, f_ladd, f_lmul, f_lrem, true_implies, false_implies, not_true_eq_false, and_self, ss, Option.isSome_some, List.set_set, sn, sn0, s0n, m1]
      refine sp_mlivesOne (b := 48 + 4 * d + 4) (hM1 _ _) hW (set_get (hw0 _) _) (hr.move (fun i hi => g2 i hi)) hrw (by omega) hcL (fun w2 q1 q2 => ?_)
      rw [rS_live hH.1 hcL] at q2
      have v72 : vp_in (nI (d + 1)) 7 := vp_in_nI (by omega) (by decide)
      have cd2 : (nI (d + 1)).toNatClampNeg = d + 1 := nI_clamp (by omega)
      simp only [nX6_longestRow, kX6_longestRow_0, kX6_longestRow_1, kX6_longestRow_2, kX6_longestRow_3, kX6_longestRow_4, kX6_longestRow_5, kX6_longestRow_6, kX6_longestRow_8, kX6_longestRow_11, kX6_longestRow_12, kX6_longestRow_15, kX6_longestRow_16, kX6_longestRow_17, kX6_longestRow_18, kX6_longestRow_19, kX6_longestRow_22, kX6_longestRow_24, kX6_longestRow_25, kX6_longestRow_26, kX6_longestRow_27, kX6_longestRow_28, kX6_longestRow_29, kX6_longestRow_30, kX6_longestRow_33, kX6_longestRow_34, kX6_longestRow_35, kX6_longestRow_36, kX6_longestRow_37, kX6_longestRow_39, kX6_longestRow_41, kX6_longestRow_42, kX6_longestRow_45, kX6_longestRow_48, kX6_longestRow_49, kX6_longestRow_50, kX6_longestRow_52, kX6_longestRow_55, kX6_longestRow_58, kX6_longestRow_61, kX6_longestRow_64, kX6_longestRow_66, kX6_longestRow_67, kX6_longestRow_70, kX6_longestRow_73, kX6_longestRow_76, kX6_longestRow_79, kX6_longestRow_80, kX6_longestRow_83, kX6_longestRow_84, kX6_longestRow_86, kX6_longestRow_87, kX6_longestRow_88, kX6_longestRow_89, kX6_longestRow_90, kX6_longestRow_91, kX6_longestRow_92, kX6_longestRow_95, kX6_longestRow_96, kX6_longestRow_97, kX6_longestRow_98, kX6_longestRow_99, kX6_longestRow_101, kX6_longestRow_104, kX6_longestRow_105, kX6_longestRow_108, kX6_longestRow_109, kX6_longestRow_112, kX6_longestRow_113, kX6_longestRow_114, kX6_longestRow_115, kX6_longestRow_116, kX6_longestRow_117, kX6_longestRow_120, kX6_longestRow_121, kX6_longestRow_122, kX6_longestRow_123, kX6_longestRow_125, kX6_longestRow_127, kX6_longestRow_128, kX6_longestRow_131, kX6_longestRow_132, kX6_longestRow_135, kX6_longestRow_137, kX6_longestRow_138, kX6_longestRow_141, kX6_longestRow_143, kX6_longestRow_144, kX6_longestRow_145, kX6_longestRow_148, kX6_longestRow_151, kX6_longestRow_154, kX6_longestRow_155, ex_1, ex_s, exo_some, xK, xKL, xLdI, xLdA, xLdL, xStI, xStA, xStL, xInc, xBin, xDiv, xBinL, xDivL, xLcmp, xI2l, xL2i, xI2c, xC_eq, xC_ne, xC_lt, xC_ge, xC_gt, xC_le, xZ_eq, xZ_ne, xZ_lt, xZ_ge, xZ_gt, xZ_le, xGo, xTsw, tsw, xDup, xDup2, xPop, xGf, xPfI, xPfR, xiaload, xcaload, xiastore, xcastore, xAlen, xRet, xRetZ, xRetV, xObj, xMmax, xMmin, xCallS, xCallV, xCallI, popN, cs, kont_some, kont_none, noL, not_false_eq_true, Nat.reduceEqDiff, Nat.reduceBEq, Nat.reduceAdd, Nat.reduceLT, Nat.reduceSub, ↓reduceIte, decide_eq_true_eq, Bool.false_eq_true, decide_false, decide_true, or_false, false_or, or_true, true_or, or_self, lsOf_int, lsOf_ref, lsOf_long, lsOf_nil, List.replicate_succ, List.replicate_zero, Nat.add_one_sub_one, List.getElem?_cons_zero, List.getElem?_cons_succ, List.set_cons_zero, List.set_cons_succ, List.length_cons, List.length_nil, cond_true, cond_false, Value.category, List.reverse_nil, List.reverse_cons, List.nil_append, List.cons_append, true_and, and_true, beq_self_eq_true, nI_add, pk_mul, nI_and, nI_or, nI_an, Nat.zero_le, Nat.reduceLeDiff, f_iadd, f_isub, f_imul, f_iand, f_ior, f_ixor, f_ishl, f_ishr, f_iushr, f_idiv, f_irem, f_ladd, f_lmul, f_lrem, true_implies, false_implies, not_true_eq_false, and_self, ss, Option.isSome_some, List.set_set, sn, sn0, s0n, m1, x13, v72, cd2, nI_leI (show d + 1 < 2 ^ 31 by omega) (show B.length < 2 ^ 31 by omega)]
      sorry
end
