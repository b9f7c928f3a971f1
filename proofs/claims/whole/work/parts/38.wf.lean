/-! ===== what is well formed stays so ===== -/
theorem argN_lt {x : Int32} {n j : Nat} (hn : n < 2 ^ 31) (h : argN x n = some j) : j < n := by
  unfold argN at h
  split at h
  · next q =>
    obtain ⟨i, hi, rfl⟩ := rng_of hn q
    rw [nI_clamp (by omega)] at h
    cases h
    exact hi
  · cases h
theorem argC_lt {x : Int32} {c : Nat} (h : argC x = some c) : c < 128 := by
  by_cases q : nI 32 ≤ x ∧ x ≤ nI 126
  · obtain ⟨d, h1, h2, -, e⟩ := argC_some q.1 q.2
    rw [e] at h
    cases h
    omega
  · rw [argC_none q] at h
    cases h
section
variable {s : St}
theorem wf_write {x : Int32} (hW : WfS s) : WfS (writeN s x) := by
  obtain ⟨wP, wT, wL, yH, yU, yK, wX, wSn, wSb, wSx⟩ := id hW
  unfold writeN
  split
  · exact hW
  · next c hc =>
    split
    · exact hW
    · refine ⟨wP, wT, wL, yH, yU, yK, ⟨(show sTn s + 1 ≤ 200 by have := wX.1; omega), fun j hj => ?_⟩, wSn, wSb, wSx⟩
      have hj : j < sTn s + 1 := hj
      show up (sTf s) (sTn s) c j < 128
      unfold up
      split
      · exact argC_lt hc
      · exact wX.2 j (by omega)
theorem wf_wipe (hW : WfS s) : WfS (wipeN s) := by
  obtain ⟨wP, wT, wL, yH, yU, yK, wX, wSn, wSb, wSx⟩ := hW
  exact ⟨wP, wT, wL, yH, yU, yK, ⟨Nat.zero_le _, fun j hj => absurd hj (Nat.not_lt_zero _)⟩, wSn, wSb, wSx⟩
theorem wf_forget (hW : WfS s) : WfS (forgetN s) := by
  obtain ⟨wP, wT, wL, yH, yU, yK, wX, wSn, wSb, wSx⟩ := hW
  exact ⟨wP, wT, wL, yH, yU, yK, wX, Nat.zero_le _, Nat.two_pow_pos _, Nat.two_pow_pos _⟩
theorem wf_see {t : Int32} {b : Bool} (hW : WfS s) : WfS (seeN s t b) := by
  obtain ⟨wP, wT, wL, yH, yU, yK, wX, wSn, wSb, wSx⟩ := id hW
  have h8 := wP.2.2.1
  unfold seeN
  split
  · exact hW
  · next j hj =>
    have hj := argN_lt (by omega) hj
    split
    · exact hW
    · split
      · exact ⟨wP, wT, wL, yH, yU, yK, wX, (show sSn s + 1 ≤ 8 by omega), orT wSb hj, wSx⟩
      · exact ⟨wP, wT, wL, yH, yU, yK, wX, (show sSn s + 1 ≤ 8 by omega), wSb, orT wSx hj⟩
theorem wf_put {t : Int32} (hW : WfS s) : WfS (putN s t) := by
  have h8 := hW.1.2.2.1
  unfold putN
  split
  · exact hW
  · next j hj =>
    have hj := argN_lt (by omega) hj
    split
    · exact hW.put (hW.2.2.2.1.put hj)
    · exact hW
theorem wf_out {t : Int32} (hW : WfS s) : WfS (outN s t) := by
  unfold outN
  split
  · exact hW
  · split
    · exact hW.put hW.2.2.2.1.out
    · exact hW
theorem wf_live {l : Int32} (hW : WfS s) : WfS (liveN s l) := by
  have h6 := hW.1.2.2.2.1
  unfold liveN
  split
  · exact hW
  · next j hj =>
    have hj := argN_lt (by omega) hj
    split
    · exact hW.put (hW.2.2.2.1.live hj)
    · exact hW
theorem wf_pass {n : Int32} (hW : WfS s) : WfS (passN s n) := by
  unfold passN
  split
  · exact hW
  · exact hW.put hW.2.2.2.1.go
theorem wf_undo (hW : WfS s) : WfS (undoN s) := by
  obtain ⟨wP, wT, wL, yH, yU, yK, wX, wSn, wSb, wSx⟩ := id hW
  unfold undoN
  split
  · exact hW
  · next q => exact ⟨wP, wT, wL, yU.2 _ (by omega), ⟨(show sUn s - 1 ≤ 8 by have := yU.1; omega), fun i hi => yU.2 i (by have : i < sUn s - 1 := hi; omega)⟩, yK, wX, wSn, wSb, wSx⟩
theorem wf_keep (hW : WfS s) : WfS (keepN s) := by
  obtain ⟨wP, wT, wL, yH, yU, yK, wX, wSn, wSb, wSx⟩ := id hW
  unfold keepN
  split
  · exact hW
  · next q =>
    refine ⟨wP, wT, wL, yH, yU, ⟨(show sKn s + 1 ≤ 2 by have := yK.1; omega), fun i hi => ?_⟩, wX, wSn, wSb, wSx⟩
    have hi : i < sKn s + 1 := hi
    show WfH (sP s) (pushI 2 (sKn s) (sKf s) (sH s) i)
    rw [pushI, if_pos (show sKn s < 2 by have := yK.1; omega)]
    split
    · exact yH
    · exact yK.2 i (by omega)
theorem wf_back (hW : WfS s) : WfS (backN s) := by
  obtain ⟨wP, wT, wL, yH, yU, yK, wX, wSn, wSb, wSx⟩ := id hW
  unfold backN
  split
  · exact hW
  · next q => exact ⟨wP, wT, wL, yK.2 _ (by omega), ⟨Nat.zero_le _, fun i hi => absurd hi (Nat.not_lt_zero _)⟩, ⟨(show sKn s - 1 ≤ 2 by have := yK.1; omega), fun i hi => yK.2 i (by have : i < sKn s - 1 := hi; omega)⟩, wX, wSn, wSb, wSx⟩
theorem wf_lay (hW : WfS s) : WfS (layN s) := by
  obtain ⟨wP, wT, wL, yH, yU, yK, wX, wSn, wSb, wSx⟩ := id hW
  unfold layN
  split
  · next q =>
    have qW : WfP (prs (sTf s) (sTn s) 200 0 pl0).2 := prs_wf wf_pl0
    simp only [layOk, Bool.and_eq_true, Bool.not_eq_true', decide_eq_false_iff_not] at q
    refine ⟨qW, Nat.pos_of_ne_zero q.2.1, Nat.pos_of_ne_zero q.2.2, ⟨Nat.two_pow_pos _, Nat.two_pow_pos _, ?_⟩, ⟨Nat.zero_le _, fun i hi => absurd hi (Nat.not_lt_zero _)⟩, ⟨Nat.zero_le _, fun i hi => absurd hi (Nat.not_lt_zero _)⟩, wX, Nat.zero_le _, Nat.two_pow_pos _, Nat.two_pow_pos _⟩
    have := qW.2.1
    show pA (prs (sTf s) (sTn s) 200 0 pl0).2 ≤ 999
    omega
  · exact hW
end
theorem P1_n : pR P1 = 24 ∧ pA P1 = 6 ∧ pT P1 = 6 ∧ pL P1 = 4 := by decide +kernel
theorem wf_start : WfS (St0 P1) := by
  obtain ⟨a1, a2, a3, a4⟩ := P1_n
  have hP : WfP P1 := prs_wf wf_pl0
  refine ⟨hP, (show 0 < pT P1 by omega), (show 0 < pL P1 by omega), ⟨Nat.two_pow_pos _, Nat.two_pow_pos _, (show pA P1 ≤ 999 by omega)⟩, ⟨Nat.zero_le _, fun i hi => absurd hi (Nat.not_lt_zero _)⟩, ⟨Nat.zero_le _, fun i hi => absurd hi (Nat.not_lt_zero _)⟩, ⟨Nat.zero_le _, fun i hi => absurd hi (Nat.not_lt_zero _)⟩, Nat.zero_le _, Nat.two_pow_pos _, Nat.two_pow_pos _⟩
