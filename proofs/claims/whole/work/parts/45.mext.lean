/-! ===== the model's longest row ===== -/
def extC (fo : Nat → Bool) (sub : Nat → List Nat) (n : Nat) : Nat → List Nat
  | 0 => []
  | k + 1 => if fo (n - (k + 1)) = true then (if (extC fo sub n k).length ≤ 1 + (sub (n - (k + 1))).length then (n - (k + 1)) :: sub (n - (k + 1)) else extC fo sub n k) else extC fo sub n k
/-- the first longest row from S on, as a list -/
def ext (P : Pl) (r : Hr) : Nat → Nat → List Nat
  | 0, _ => []
  | f + 1, S => extC (follow P r S) (fun l => ext P r f (S ||| 2 ^ l)) (pL P) (pL P)
theorem extC_le {fo : Nat → Bool} {sub : Nat → List Nat} {n : Nat} : ∀ {k l : Nat}, k ≤ n → n - k ≤ l → l < n → fo l = true → 1 + (sub l).length ≤ (extC fo sub n k).length
  | 0, l, hk, h1, h2, _ => absurd h2 (by omega)
  | k + 1, l, hk, h1, h2, hf => by
    rw [extC]
    by_cases e : l = n - (k + 1)
    · subst e
      rw [if_pos hf]
      split
      · simp; omega
      · omega
    · have ih := extC_le (fo := fo) (sub := sub) (k := k) (l := l) (by omega) (by omega) h2 hf
      split
      · split
        · simp; omega
        · exact ih
      · exact ih
theorem extC_at {fo : Nat → Bool} {sub : Nat → List Nat} {n : Nat} : ∀ {k : Nat}, k ≤ n → extC fo sub n k = [] ∨ ∃ l, n - k ≤ l ∧ l < n ∧ fo l = true ∧ extC fo sub n k = l :: sub l ∧ ∀ j, n - k ≤ j → j < l → fo j = true → 1 + (sub j).length < 1 + (sub l).length
  | 0, _ => Or.inl rfl
  | k + 1, hk => by
    rw [extC]
    by_cases hf : fo (n - (k + 1)) = true
    · rw [if_pos hf]
      split
      · exact Or.inr ⟨n - (k + 1), Nat.le_refl _, by omega, hf, rfl, fun j h1 h2 => absurd h2 (by omega)⟩
      · next q =>
        rcases extC_at (fo := fo) (sub := sub) (k := k) (n := n) (by omega) with e | ⟨l, h1, h2, h3, h4, h5⟩
        · rw [e] at q; simp at q
        · refine Or.inr ⟨l, by omega, h2, h3, h4, fun j a b c => ?_⟩
          by_cases e : j = n - (k + 1)
          · subst e
            rw [h4] at q
            simp at q
            omega
          · exact h5 j (by omega) b c
    · rw [if_neg hf]
      rcases extC_at (fo := fo) (sub := sub) (k := k) (n := n) (by omega) with e | ⟨l, h1, h2, h3, h4, h5⟩
      · exact Or.inl e
      · refine Or.inr ⟨l, by omega, h2, h3, h4, fun j a b c => ?_⟩
        by_cases e : j = n - (k + 1)
        · subst e
          exact absurd c hf
        · exact h5 j (by omega) b c
theorem extC_len {fo : Nat → Bool} {sub : Nat → List Nat} {n : Nat} : (extC fo sub n n).length = maxU (fun l => if fo l = true then 1 + (sub l).length else 0) n := by
  apply Nat.le_antisymm
  · rcases extC_at (fo := fo) (sub := sub) (k := n) (n := n) (Nat.le_refl _) with e | ⟨l, h1, h2, h3, h4, -⟩
    · rw [e]; exact Nat.zero_le _
    · have := le_maxU (f := fun l => if fo l = true then 1 + (sub l).length else 0) h2
      simp only [h3, if_true] at this
      rw [h4, List.length_cons]
      omega
  · refine maxU_le _ (fun l hl => ?_)
    split
    · next q => exact extC_le (Nat.le_refl _) (by omega) hl q
    · exact Nat.zero_le _
theorem ext_len {P : Pl} {r : Hr} : ∀ f S, (ext P r f S).length = lgF P r f S
  | 0, _ => rfl
  | f + 1, S => by
    rw [ext, lgF, extC_len]
    exact maxU_cong (fun l _ => by rw [ext_len f])
theorem lgF_free {P : Pl} {r : Hr} (hL : pL P ≤ 6) {S : Nat} : ∀ {d f : Nat}, freeN S ≤ f → lgF P r (f + d) S = lgF P r f S
  | 0, _, _ => rfl
  | d + 1, f, h => by
    rw [← Nat.add_assoc, lgF_st hL _ S (by omega)]
    exact lgF_free hL h
theorem ext_Lg {P : Pl} {r : Hr} (hL : pL P ≤ 6) {f S : Nat} (h : freeN S ≤ f) (hf : f ≤ 6) : (ext P r f S).length = Lg P r S := by
  rw [ext_len, Lg]
  have := lgF_free (P := P) (r := r) hL (d := 6 - f) h
  rw [show f + (6 - f) = 6 by omega] at this
  exact this.symm
theorem fa_first_at {p : Nat → Bool} {n l : Nat} (hl : l < n) (h : p l = true) (hno : ∀ j, j < l → p j = false) : fa_first p n = l := by
  rcases Nat.lt_trichotomy (fa_first p n) l with z | z | z
  · have := fa_first_yes p n (by omega)
    rw [hno _ z] at this
    cases this
  · exact z
  · have := fa_first_no p n l z
    rw [h] at this
    cases this
theorem ext_next {P : Pl} {r : Hr} (hL : pL P ≤ 6) {f S : Nat} (h : freeN S ≤ f + 1) (hf : f + 1 ≤ 6) (hpos : 0 < Lg P r S) : ext P r (f + 1) S = nextN P r S :: ext P r f (S ||| 2 ^ nextN P r S) := by
  have hlen := ext_Lg (r := r) hL h hf
  rw [ext] at hlen ⊢
  rcases extC_at (fo := follow P r S) (sub := fun l => ext P r f (S ||| 2 ^ l)) (k := pL P) (n := pL P) (Nat.le_refl _) with e | ⟨l, -, h2, h3, h4, h5⟩
  · rw [e] at hlen; simp at hlen; omega
  · have hlg : ∀ j, j < pL P → follow P r S j = true → (ext P r f (S ||| 2 ^ j)).length = Lg P r (S ||| 2 ^ j) := fun j hj hfj => by
      have := freeN_or (show j < 6 by omega) (follow_not hfj)
      exact ext_Lg hL (by omega) (by omega)
    rw [h4, List.length_cons] at hlen
    have e : nextN P r S = l := by
      refine fa_first_at h2 ?_ (fun j hj => ?_)
      · have := hlg l h2 h3
        simp [goodNext, h3]
        omega
      · cases hfj : follow P r S j with
        | false => simp [goodNext, hfj]
        | true =>
          have a1 := h5 j (by omega) hj hfj
          have a2 := hlg j (by omega) hfj
          have a3 := hlg l h2 h3
          simp [goodNext, hfj]
          omega
    rw [h4, e]
theorem ext_row {P : Pl} {r : Hr} (hL : pL P ≤ 6) : ∀ i, i ≤ Lg P r 0 → (ext P r 6 0).drop i = ext P r (6 - i) (rowS P r i) ∧ freeN (rowS P r i) + i ≤ 6
  | 0, _ => ⟨rfl, (by decide : freeN 0 + 0 ≤ 6)⟩
  | i + 1, h => by
    obtain ⟨h1, h2⟩ := ext_row (r := r) hL i (by omega)
    obtain ⟨h3, h4⟩ := rowS_Lg (r := r) hL i (by omega)
    have hlt := next_lt hL (show 0 < Lg P r (rowS P r i) by omega)
    have hg := (next_good hlt).1
    have hfr := freeN_or (show nextN P r (rowS P r i) < 6 by omega) (follow_not hg)
    have hl6 := Lg_le (r := r) hL 0
    have e : 6 - i = (6 - (i + 1)) + 1 := by omega
    rw [e, ext_next (S := rowS P r i) (f := 6 - (i + 1)) hL (by omega) (by omega) (by omega)] at h1
    refine ⟨?_, by rw [rowS]; omega⟩
    rw [show i + 1 = 1 + i by omega, Nat.add_comm, ← List.drop_drop, h1]
    rw [rowS]
    simp
theorem ext_get {P : Pl} {r : Hr} (hL : pL P ≤ 6) {i : Nat} (h : i < Lg P r 0) : (ext P r 6 0).getD i 0 = nextN P r (rowS P r i) := by
  obtain ⟨h1, h2⟩ := ext_row (r := r) hL i (by omega)
  obtain ⟨h3, h4⟩ := rowS_Lg (r := r) hL i (by omega)
  have hl6 := Lg_le (r := r) hL 0
  have e : 6 - i = (6 - (i + 1)) + 1 := by omega
  rw [e, ext_next (S := rowS P r i) (f := 6 - (i + 1)) hL (by omega) (by omega) (by omega)] at h1
  have := congrArg (fun l => l.getD 0 0) h1
  simp only [List.getD_cons_zero] at this
  rw [← this]
  simp [List.getD_eq_getElem?_getD]
/-- how things stand when the lives of S were lived -/
def rS (P : Pl) (r : Hr) (S : Nat) : Hr := (an (dr r) (linN P S), lv r ||| S, cn r, yr r)
theorem rS_can {P : Pl} {r : Hr} {S l : Nat} : canLiveN P (rS P r S) l = follow P r S l := by
  unfold canLiveN follow rS
  show (!(lv r ||| S).testBit l && canN P l (an (dr r) (linN P S))) = _
  rw [Nat.or_comm]
theorem linN_tb {P : Pl} {S i : Nat} : (linN P S).testBit i = true ↔ ∃ l, l < pL P ∧ S.testBit l = true ∧ (nd P l &&& kds P 2).testBit i = true := by
  unfold linN
  have : ∀ n, (orb (linF P S) n).testBit i = true ↔ ∃ l, l < n ∧ S.testBit l = true ∧ (nd P l &&& kds P 2).testBit i = true := by
    intro n
    induction n with
    | zero => simp [orb]
    | succ n ih =>
      rw [orb, Nat.testBit_or, Bool.or_eq_true, ih]
      constructor
      · rintro (⟨l, h1, h2, h3⟩ | h)
        · exact ⟨l, by omega, h2, h3⟩
        · unfold linF at h
          split at h
          · next q => exact ⟨n, by omega, q, h⟩
          · simp at h
      · rintro ⟨l, h1, h2, h3⟩
        by_cases e : l = n
        · subst e
          right
          unfold linF
          rw [if_pos h2]
          exact h3
        · exact Or.inl ⟨l, by omega, h2, h3⟩
  exact this _
theorem rS_live {P : Pl} {r : Hr} {S l : Nat} (hd : dr r < 2 ^ pT P) (hl : l < pL P) : liveH P (rS P r S) l = rS P r (S ||| 2 ^ l) := by
  unfold liveH rS
  have e1 : an (an (dr r) (linN P S)) (goneN P l (an (dr r) (linN P S))) = an (dr r) (linN P (S ||| 2 ^ l)) := by
    apply Nat.eq_of_testBit_eq
    intro i
    rw [an_tb, an_tb, an_tb, goneN, mkb_tb, an_tb]
    cases hdi : (dr r).testBit i with
    | false => simp
    | true =>
      have hi : i < pT P := Classical.byContradiction (fun z => by
        rw [Nat.testBit_lt_two_pow (Nat.lt_of_lt_of_le hd (Nat.pow_le_pow_right (by decide) (show pT P ≤ i by omega)))] at hdi
        cases hdi)
      rw [decide_eq_true hi]
      have hk : (nd P l &&& kds P 2).testBit i = ((nd P l).testBit i && kd P i == 2) := by rw [Nat.testBit_and, kds_tb hi]
      have key : (linN P (S ||| 2 ^ l)).testBit i = ((linN P S).testBit i || (nd P l &&& kds P 2).testBit i) := by
        rw [Bool.eq_iff_iff, Bool.or_eq_true, linN_tb, linN_tb]
        constructor
        · rintro ⟨j, h1, h2, h3⟩
          rw [Nat.testBit_or, Bool.or_eq_true, Nat.testBit_two_pow, decide_eq_true_eq] at h2
          rcases h2 with h2 | h2
          · exact Or.inl ⟨j, h1, h2, h3⟩
          · subst h2; exact Or.inr h3
        · rintro (⟨j, h1, h2, h3⟩ | h)
          · exact ⟨j, h1, by rw [Nat.testBit_or, h2, Bool.true_or], h3⟩
          · exact ⟨l, hl, by rw [Nat.testBit_or, Nat.testBit_two_pow_self, Bool.or_true], h⟩
      rw [key, hk]
      cases (linN P S).testBit i <;> cases (nd P l).testBit i <;> cases (kd P i == 2) <;> rfl
  have e2 : lv r ||| S ||| 2 ^ l = lv r ||| (S ||| 2 ^ l) := Nat.or_assoc ..
  show (an (an (dr r) (linN P S)) (goneN P l (an (dr r) (linN P S))), lv r ||| S ||| 2 ^ l, cn r, yr r) = _
  rw [e1, e2]
theorem rS_wf {P : Pl} {r : Hr} {S : Nat} (h : WfH P r) (hS : S < 2 ^ pL P) : WfH P (rS P r S) := ⟨an_lt h.1, Nat.or_lt_two_pow h.2.1 hS, h.2.2⟩
theorem rS_zero {P : Pl} {r : Hr} : rS P r 0 = r := by
  have : linN P 0 = 0 := by
    apply Nat.eq_of_testBit_eq
    intro i
    rw [Nat.zero_testBit]
    cases h : (linN P 0).testBit i with
    | false => rfl
    | true =>
      obtain ⟨l, -, h2, -⟩ := linN_tb.mp h
      rw [Nat.zero_testBit] at h2
      cases h2
  unfold rS
  rw [this, Nat.or_zero]
  have e : an (dr r) 0 = dr r := by simp [an]
  rw [e]
  rfl
def updU (p B e : List Nat) : List Nat := if B.length < p.length + e.length then p ++ e else B
theorem updU_nil {p B : List Nat} (h : p.length ≤ B.length) : updU p B [] = B := by
  unfold updU
  rw [if_neg (by simp; omega)]
theorem updU_down {p B e : List Nat} {c : Nat} : updU (p ++ [c]) (updU (p ++ [c]) B []) e = updU p B (c :: e) := by
  unfold updU
  simp only [List.length_append, List.length_cons, List.length_nil, Nat.add_zero, List.append_nil]
  split
  · simp only [List.length_append, List.length_cons, List.length_nil]
    rw [if_pos (show B.length < p.length + (e.length + 1) by omega)]
    split
    · simp
    · next q =>
      have : e = [] := List.eq_nil_of_length_eq_zero (by omega)
      subst this
      rfl
  · split
    · rw [if_pos (by omega)]; simp
    · rw [if_neg (by omega)]
theorem updU_two {p B a b : List Nat} : updU p (updU p B a) b = updU p B (if b.length ≤ a.length then a else b) := by
  unfold updU
  by_cases h : b.length ≤ a.length
  · rw [if_pos h]
    by_cases h1 : B.length < p.length + a.length
    · rw [if_pos h1, if_neg (by simp; omega)]
    · rw [if_neg h1, if_neg (by omega)]
  · rw [if_neg h]
    by_cases h1 : B.length < p.length + a.length
    · rw [if_pos h1, if_pos (by simp; omega), if_pos (by omega)]
    · rw [if_neg h1]
theorem updU_ge {p B e : List Nat} : B.length ≤ (updU p B e).length := by
  unfold updU
  split
  · simp; omega
  · exact Nat.le_refl _
def extK (P : Pl) (r : Hr) : Nat → Nat → Nat → List Nat
  | 0, _, _ => []
  | f + 1, S, k => extC (follow P r S) (fun l => ext P r f (S ||| 2 ^ l)) (pL P) k
theorem extK_all {P : Pl} {r : Hr} : ∀ f S, extK P r f S (pL P) = ext P r f S
  | 0, _ => rfl
  | _ + 1, _ => rfl
theorem extK_zero {P : Pl} {r : Hr} : ∀ f S, extK P r f S 0 = []
  | 0, _ => rfl
  | _ + 1, _ => rfl
theorem extK_no {P : Pl} {r : Hr} {S k : Nat} (h : follow P r S (pL P - (k + 1)) = false) : ∀ f, extK P r f S (k + 1) = extK P r f S k
  | 0 => rfl
  | f + 1 => by rw [extK, extC, h, if_neg (by decide)]; rfl
theorem extK_yes {P : Pl} {r : Hr} {f S k c : Nat} (hc : c = pL P - (k + 1)) (h : follow P r S c = true) : extK P r (f + 1) S (k + 1) = if (extK P r (f + 1) S k).length ≤ (c :: ext P r f (S ||| 2 ^ c)).length then c :: ext P r f (S ||| 2 ^ c) else extK P r (f + 1) S k := by
  subst hc
  rw [extK, extC, if_pos h, List.length_cons, Nat.add_comm]
  rfl
