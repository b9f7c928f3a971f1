/-! ===== the model reads items ===== -/
theorem rdK_inv {tx : Nat → Nat} {n f p q : Nat} {vs : List Nat} (h : rdK tx n (f + 1) p = some (vs, q)) : ∃ a t q1, nmS tx n p = some (a, t, q1) ∧ ((t = 59 ∧ vs = [a] ∧ q = q1) ∨ (t = 44 ∧ ∃ us, rdK tx n f q1 = some (us, q) ∧ vs = a :: us)) := by
  rw [rdK] at h
  split at h
  · cases h
  · next v s q1 hn =>
    refine ⟨v, s, q1, hn, ?_⟩
    split at h
    · next z => cases h; exact Or.inl ⟨z, rfl, rfl⟩
    · split at h
      · next z =>
        rw [Option.map_eq_some_iff] at h
        obtain ⟨⟨us, q2⟩, h2, h3⟩ := h
        cases h3
        exact Or.inr ⟨z, us, h2, rfl⟩
      · cases h
theorem rdK_cons {tx : Nat → Nat} {n f p a q1 : Nat} (h : nmS tx n p = some (a, 44, q1)) : rdK tx n (f + 1) p = (rdK tx n f q1).map (fun r => (a :: r.1, r.2)) := by rw [rdK, h]; rfl
theorem rdK_last {tx : Nat → Nat} {n f p a q1 : Nat} (h : nmS tx n p = some (a, 59, q1)) : rdK tx n (f + 1) p = some ([a], q1) := by rw [rdK, h]; rfl
theorem item2_of {tx : Nat → Nat} {n p a b q1 q : Nat} {P P' : Pl} (h1 : nmS tx n (p + 1) = some (a, 44, q1)) (h2 : nmS tx n q1 = some (b, 59, q)) (h3 : tellIt (tx p) [a, b] P = some P') : itemN tx n p P = some (q, P') := by
  rw [itemN, rdK_cons h1, rdK_last h2]
  simp [h3]
theorem item3_of {tx : Nat → Nat} {n p a b c q1 q2 q : Nat} {P P' : Pl} (h1 : nmS tx n (p + 1) = some (a, 44, q1)) (h2 : nmS tx n q1 = some (b, 44, q2)) (h3 : nmS tx n q2 = some (c, 59, q)) (h4 : tellIt (tx p) [a, b, c] P = some P') : itemN tx n p P = some (q, P') := by
  rw [itemN, rdK_cons h1, rdK_cons h2, rdK_last h3]
  simp [h4]
theorem item_none {tx : Nat → Nat} {n p : Nat} {P : Pl} (h2 : ∀ a b q1 q, nmS tx n (p + 1) = some (a, 44, q1) → nmS tx n q1 = some (b, 59, q) → tellIt (tx p) [a, b] P = none) (h3 : ∀ a b c q1 q2 q, nmS tx n (p + 1) = some (a, 44, q1) → nmS tx n q1 = some (b, 44, q2) → nmS tx n q2 = some (c, 59, q) → tellIt (tx p) [a, b, c] P = none) : itemN tx n p P = none := by
  rw [itemN]
  split
  · rfl
  · next vs q hr =>
    rw [Option.map_eq_none_iff]
    obtain ⟨a, t, q1, e1, r1⟩ := rdK_inv hr
    rcases r1 with ⟨-, rfl, -⟩ | ⟨rfl, us, hr2, rfl⟩
    · rfl
    · obtain ⟨b, t, q2, e2, r2⟩ := rdK_inv hr2
      rcases r2 with ⟨rfl, rfl, rfl⟩ | ⟨rfl, us, hr3, rfl⟩
      · exact h2 _ _ _ _ e1 e2
      · obtain ⟨c, t, q3, e3, r3⟩ := rdK_inv hr3
        rcases r3 with ⟨rfl, rfl, rfl⟩ | ⟨rfl, us, hr4, rfl⟩
        · exact h3 _ _ _ _ _ _ e1 e2 e3
        · cases hr4
theorem okl {lo hi : Nat} (h1 : lo < 2 ^ 31) (h2 : hi < 2 ^ 31) : ∀ v, v ≤ 99 → decide ((nI lo).toInt64 ≤ (nI v).toInt64 ∧ (nI v).toInt64 ≤ (nI hi).toInt64) = decide (lo ≤ v ∧ v ≤ hi) := fun v hv =>
  decide_eq_decide.mpr (and_congr ((i64_le _ _).trans (nI_leI h1 (by omega))) ((i64_le _ _).trans (nI_leI (by omega) h2)))
theorem okp {n : Nat} (h : n ≤ 8) : ∀ v, v ≤ 99 → decide ((nI 0).toInt64 ≤ (nI v).toInt64 ∧ (nI v).toInt64 ≤ (nI n - nI 1).toInt64) = decide (v < n) := fun v hv => by
  refine decide_eq_decide.mpr ?_
  rw [i64_le, i64_le, nI_leI (by decide) (by omega)]
  match n, h with
  | 0, _ =>
    rw [show nI 0 - nI 1 = (-1 : Int32) from rfl, le_m1 (by omega)]
    simp
  | n + 1, h =>
    rw [pk_sub (by omega), nI_leI (by omega) (by omega)]
    omega
theorem u30 {f : Nat → Int32} {n t : Nat} {a b c : Int32} : upd (upd (upd f (3 * n) a) (3 * n + 1) b) (3 * n + 2) c (3 * t) = if t = n then a else f (3 * t) := by
  simp only [upd_eq]
  rw [if_neg (show ¬ 3 * t = 3 * n + 2 by omega), if_neg (show ¬ 3 * t = 3 * n + 1 by omega)]
  by_cases e : t = n
  · rw [if_pos (show 3 * t = 3 * n by omega), if_pos e]
  · rw [if_neg (show ¬ 3 * t = 3 * n by omega), if_neg e]
theorem u31 {f : Nat → Int32} {n t : Nat} {a b c : Int32} : upd (upd (upd f (3 * n) a) (3 * n + 1) b) (3 * n + 2) c (3 * t + 1) = if t = n then b else f (3 * t + 1) := by
  simp only [upd_eq]
  rw [if_neg (show ¬ 3 * t + 1 = 3 * n + 2 by omega)]
  by_cases e : t = n
  · rw [if_pos (show 3 * t + 1 = 3 * n + 1 by omega), if_pos e]
  · rw [if_neg (show ¬ 3 * t + 1 = 3 * n + 1 by omega), if_neg (show ¬ 3 * t + 1 = 3 * n by omega), if_neg e]
theorem u32 {f : Nat → Int32} {n t : Nat} {a b c : Int32} : upd (upd (upd f (3 * n) a) (3 * n + 1) b) (3 * n + 2) c (3 * t + 2) = if t = n then c else f (3 * t + 2) := by
  simp only [upd_eq]
  by_cases e : t = n
  · rw [if_pos (show 3 * t + 2 = 3 * n + 2 by omega), if_pos e]
  · rw [if_neg (show ¬ 3 * t + 2 = 3 * n + 2 by omega), if_neg (show ¬ 3 * t + 2 = 3 * n + 1 by omega), if_neg (show ¬ 3 * t + 2 = 3 * n by omega), if_neg e]
section
variable {s : St} {h0 h : SH} {Q : Pl} {p nu : Int32}
theorem Rg.tellR {a b : Nat} {p' nu' : Int32} (hR : Rg s h0 h Q p nu) : Rg s h0 (h.set 0 (rdC s (tellR Q a b) p' nu')) (tellR Q a b) p' nu' := by
  obtain ⟨c0, ⟨x, y, z, q1, q2, q3, e1, e2⟩, hf⟩ := hR
  exact ⟨set_get c0 _, ⟨x, y, z, (List.getElem?_set_ne (by decide)).trans q1, (List.getElem?_set_ne (by decide)).trans q2, (List.getElem?_set_ne (by decide)).trans q3, e1, e2⟩, fun j a b => (List.getElem?_set_ne (fun z => a z.symm)).trans (hf j a b)⟩
theorem Rg.row10 (hR : Rg s h0 h Q p nu) : ∃ f, h[10]? = some (.inl (false, 24, f)) ∧ ∀ k m c : Nat, Rg s h0 ((h.set 10 (.inl (false, 24, upd (upd (upd f (3 * pT Q) (nI k)) (3 * pT Q + 1) (nI m)) (3 * pT Q + 2) (nI c)))).set 0 (rdC s (tellT Q k m c) p nu)) (tellT Q k m c) p nu := by
  obtain ⟨c0, ⟨x, y, z, q1, q2, q3, e1, e2⟩, hf⟩ := hR
  refine ⟨x, q1, fun k m c => ⟨set_get ((List.getElem?_set_ne (by decide)).trans c0) _, ⟨_, y, z, (List.getElem?_set_ne (by decide)).trans (set_get q1 _), (List.getElem?_set_ne (by decide)).trans ((List.getElem?_set_ne (by decide)).trans q2), (List.getElem?_set_ne (by decide)).trans ((List.getElem?_set_ne (by decide)).trans q3), fun t ht => ?_, e2⟩, fun j a b => (List.getElem?_set_ne (fun z => a z.symm)).trans ((List.getElem?_set_ne (by omega)).trans (hf j a b))⟩⟩
  have ht : t < pT Q + 1 := ht
  show _ = nI (up (kd Q) (pT Q) k t) ∧ _ = nI (up (sz Q) (pT Q) m t) ∧ _ = nI (up (co Q) (pT Q) c t)
  rw [u30, u31, u32]
  simp only [up]
  by_cases e : t = pT Q
  · simp only [if_pos e]
    exact ⟨trivial, trivial, trivial⟩
  · simp only [if_neg e]
    exact e1 t (by omega)
theorem Rg.row11 (hR : Rg s h0 h Q p nu) : ∃ f g, h[11]? = some (.inl (false, 18, f)) ∧ h[12]? = some (.inl (false, 6, g)) ∧ ∀ k m c : Nat, Rg s h0 (((h.set 11 (.inl (false, 18, upd (upd (upd f (3 * pL Q) (nI k)) (3 * pL Q + 1) (nI m)) (3 * pL Q + 2) (nI c)))).set 12 (.inl (false, 6, upd g (pL Q) (nI 0)))).set 0 (rdC s (tellL Q k m c) p nu)) (tellL Q k m c) p nu := by
  obtain ⟨c0, ⟨x, y, z, q1, q2, q3, e1, e2⟩, hf⟩ := hR
  refine ⟨y, z, q2, q3, fun k m c => ⟨set_get ((List.getElem?_set_ne (by decide)).trans ((List.getElem?_set_ne (by decide)).trans c0)) _, ⟨x, _, _, (List.getElem?_set_ne (by decide)).trans ((List.getElem?_set_ne (by decide)).trans ((List.getElem?_set_ne (by decide)).trans q1)), (List.getElem?_set_ne (by decide)).trans ((List.getElem?_set_ne (by decide)).trans (set_get q2 _)), (List.getElem?_set_ne (by decide)).trans (set_get ((List.getElem?_set_ne (by decide)).trans q3) _), e1, fun t ht => ?_⟩, fun j a b => (List.getElem?_set_ne (fun z => a z.symm)).trans ((List.getElem?_set_ne (by omega)).trans ((List.getElem?_set_ne (by omega)).trans (hf j a b)))⟩⟩
  have ht : t < pL Q + 1 := ht
  show _ = nI (up (ch Q) (pL Q) k t) ∧ _ = nI (up (he Q) (pL Q) m t) ∧ _ = nI (up (hm Q) (pL Q) c t) ∧ _ = nI (up (nd Q) (pL Q) 0 t)
  rw [u30, u31, u32]
  simp only [up, upd_eq]
  by_cases e : t = pL Q
  · simp only [if_pos e]
    exact ⟨trivial, trivial, trivial, trivial⟩
  · simp only [if_neg e]
    exact e2 t (by omega)
theorem Rg.row12 (hR : Rg s h0 h Q p nu) : ∃ g, h[12]? = some (.inl (false, 6, g)) ∧ (∀ l, l < pL Q → g l = nI (nd Q l)) ∧ ∀ l t : Nat, l < pL Q → Rg s h0 (h.set 12 (.inl (false, 6, upd g l (nI (nd Q l ^^^ 2 ^ t))))) (tellN Q l t) p nu := by
  obtain ⟨c0, ⟨x, y, z, q1, q2, q3, e1, e2⟩, hf⟩ := hR
  refine ⟨z, q3, fun l hl => (e2 l hl).2.2.2, fun l t hl => ⟨(List.getElem?_set_ne (by decide)).trans c0, ⟨x, y, _, (List.getElem?_set_ne (by decide)).trans q1, (List.getElem?_set_ne (by decide)).trans q2, set_get q3 _, e1, fun i hi => ?_⟩, fun j a b => (List.getElem?_set_ne (by omega)).trans (hf j a b)⟩⟩
  have hi : i < pL Q := hi
  refine ⟨(e2 i hi).1, (e2 i hi).2.1, (e2 i hi).2.2.1, ?_⟩
  show _ = nI (up (nd Q) l (nd Q l ^^^ 2 ^ t) i)
  simp only [upd_eq, up]
  by_cases e : i = l
  · rw [if_pos e, if_pos e]
  · rw [if_neg e, if_neg e]
    exact (e2 i hi).2.2.2
end
