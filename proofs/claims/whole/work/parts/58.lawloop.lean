/-! ===== the law's loop ===== -/
theorem m31 (x : Int32) : ∃ j, j < 32 ∧ x &&& nI 31 = nI j := by
  refine ⟨mkb (fun i => bt x i) 5, mkb_lt _ 5, b_ext (fun i hi => ?_)⟩
  rw [b_and, bt_nI hi, bt_nI hi, mkb_tb]
  have h : (31 : Nat).testBit i = decide (i < 5) := by
    have : ∀ i, i < 32 → (31 : Nat).testBit i = decide (i < 5) := by decide
    exact this i hi
  rw [h, Bool.and_comm]
section
variable {p : Program} {l : Launch} {e : Env} {s : State} {m : MethodId} {below : List Frame} {meth : Method} {c : Code} {b L : Nat} {xs : Nat → Int32} {D : va_G} {G : ClassId × ClassId} {ad1 ad2 : List Nat}
theorem law_sw {H : Heap} {locs : List Loc} {ls : Array Slot} {Qz : State → Prop} {h1 h2 : SH} {i j : Nat} {u : St} (F : LFix D G p s m meth c b L xs ad1 ad2) (hl : LLs ls b i ad1 ad2) (hi : i + 4 ≤ L) (hj : j < 32) (I : LIn D G s ad1 ad2 H locs h1 h2 u) (kk : ∀ u2 g1 g2 H1 locs1, LIn D G s ad1 ad2 H1 locs1 g1 g2 u2 → W p l e room_1 s m #[Value.ref b] below meth c H1 locs1 600000 7302250 Qz (F0 m 783 ls [])) : W p l e room_1 s m #[Value.ref b] below meth c H locs 600000 7302250 Qz (F0 m 32 ls [.int (nI j)]) := by
  obtain ⟨hx, hb, -⟩ := id F.1
  match j, hj with
  | 0, _ => exact lv_tableIn (off := 124) (tgt := 156) hx hb dL_law_32 (by decide) (by decide) (by decide) (by decide) (lk_write F hl hi I kk)
  | 1, _ => exact lv_tableIn (off := 147) (tgt := 179) hx hb dL_law_32 (by decide) (by decide) (by decide) (by decide) (lk_wipe F hl hi I kk)
  | 2, _ => exact lv_tableIn (off := 160) (tgt := 192) hx hb dL_law_32 (by decide) (by decide) (by decide) (by decide) (lk_fault F hl hi I kk)
  | 3, _ => exact lv_tableIn (off := 173) (tgt := 205) hx hb dL_law_32 (by decide) (by decide) (by decide) (by decide) (lk_lay F hl hi I kk)
  | 4, _ => exact lv_tableIn (off := 186) (tgt := 218) hx hb dL_law_32 (by decide) (by decide) (by decide) (by decide) (lk_thing F hl hi I kk)
  | 5, _ => exact lv_tableIn (off := 219) (tgt := 251) hx hb dL_law_32 (by decide) (by decide) (by decide) (by decide) (lk_life F hl hi I kk)
  | 6, _ => exact lv_tableIn (off := 252) (tgt := 284) hx hb dL_law_32 (by decide) (by decide) (by decide) (by decide) (lk_room F hl hi I kk)
  | 7, _ => exact lv_tableIn (off := 265) (tgt := 297) hx hb dL_law_32 (by decide) (by decide) (by decide) (by decide) (lk_worth F hl hi I kk)
  | 8, _ => exact lv_tableIn (off := 298) (tgt := 330) hx hb dL_law_32 (by decide) (by decide) (by decide) (by decide) (lk_put F hl hi I kk)
  | 9, _ => exact lv_tableIn (off := 321) (tgt := 353) hx hb dL_law_32 (by decide) (by decide) (by decide) (by decide) (lk_out F hl hi I kk)
  | 10, _ => exact lv_tableIn (off := 344) (tgt := 376) hx hb dL_law_32 (by decide) (by decide) (by decide) (by decide) (lk_live F hl hi I kk)
  | 11, _ => exact lv_tableIn (off := 367) (tgt := 399) hx hb dL_law_32 (by decide) (by decide) (by decide) (by decide) (lk_pass F hl hi I kk)
  | 12, _ => exact lv_tableIn (off := 390) (tgt := 422) hx hb dL_law_32 (by decide) (by decide) (by decide) (by decide) (lk_undo F hl hi I kk)
  | 13, _ => exact lv_tableIn (off := 403) (tgt := 435) hx hb dL_law_32 (by decide) (by decide) (by decide) (by decide) (lk_best F hl hi I kk)
  | 14, _ => exact lv_tableIn (off := 436) (tgt := 468) hx hb dL_law_32 (by decide) (by decide) (by decide) (by decide) (lk_cover F hl hi I kk)
  | 15, _ => exact lv_tableIn (off := 469) (tgt := 501) hx hb dL_law_32 (by decide) (by decide) (by decide) (by decide) (lk_serves F hl hi I kk)
  | 16, _ => exact lv_tableIn (off := 482) (tgt := 514) hx hb dL_law_32 (by decide) (by decide) (by decide) (by decide) (lk_row F hl hi I kk)
  | 17, _ => exact lv_tableIn (off := 505) (tgt := 537) hx hb dL_law_32 (by decide) (by decide) (by decide) (by decide) (lk_bargain F hl hi I kk)
  | 18, _ => exact lv_tableIn (off := 518) (tgt := 550) hx hb dL_law_32 (by decide) (by decide) (by decide) (by decide) (lk_talk F hl hi I kk)
  | 19, _ => exact lv_tableIn (off := 541) (tgt := 573) hx hb dL_law_32 (by decide) (by decide) (by decide) (by decide) (lk_see F hl hi I kk)
  | 20, _ => exact lv_tableIn (off := 590) (tgt := 622) hx hb dL_law_32 (by decide) (by decide) (by decide) (by decide) (lk_forget F hl hi I kk)
  | 21, _ => exact lv_tableIn (off := 603) (tgt := 635) hx hb dL_law_32 (by decide) (by decide) (by decide) (by decide) (lk_meant F hl hi I kk)
  | 22, _ => exact lv_tableIn (off := 616) (tgt := 648) hx hb dL_law_32 (by decide) (by decide) (by decide) (by decide) (lk_moths F hl hi I kk)
  | 23, _ => exact lv_tableIn (off := 659) (tgt := 691) hx hb dL_law_32 (by decide) (by decide) (by decide) (by decide) (lk_year F hl hi I kk)
  | 24, _ => exact lv_tableIn (off := 702) (tgt := 734) hx hb dL_law_32 (by decide) (by decide) (by decide) (by decide) (lk_keep F hl hi I kk)
  | 25, _ => exact lv_tableIn (off := 715) (tgt := 747) hx hb dL_law_32 (by decide) (by decide) (by decide) (by decide) (lk_back F hl hi I kk)
  | 26, _ => exact lv_tableIn (off := 728) (tgt := 760) hx hb dL_law_32 (by decide) (by decide) (by decide) (by decide) (lk_count F hl hi I kk)
  | 27, _ => exact lv_tableOut (tgt := 783) hx hb dL_law_32 (by decide) (by decide) (kk _ _ _ _ _ I)
  | 28, _ => exact lv_tableOut (tgt := 783) hx hb dL_law_32 (by decide) (by decide) (kk _ _ _ _ _ I)
  | 29, _ => exact lv_tableOut (tgt := 783) hx hb dL_law_32 (by decide) (by decide) (kk _ _ _ _ _ I)
  | 30, _ => exact lv_tableOut (tgt := 783) hx hb dL_law_32 (by decide) (by decide) (kk _ _ _ _ _ I)
  | 31, _ => exact lv_tableOut (tgt := 783) hx hb dL_law_32 (by decide) (by decide) (kk _ _ _ _ _ I)
  | n + 32, h => exact absurd h (by omega)
theorem law_loop (F : LFix D G p s m meth c b L xs ad1 ad2) : ∀ (n i : Nat), L < i + n → i ≤ L → ∀ (H : Heap) (locs : List Loc) (h1 h2 : SH) (u : St) (ls : Array Slot), LLs ls b i ad1 ad2 → LIn D G s ad1 ad2 H locs h1 h2 u → W p l e room_1 s m #[Value.ref b] below meth c H locs 600000 7302250 (lw_Z below #[Value.ref b] s) (F0 m 18 ls []) := by
  have F0' := F
  obtain ⟨⟨hx, hb, hr, hml, hown, hts, hX, hbl, hlocks, hgv⟩, hL, hK, hN, d12, d21⟩ := F
  have hbA : ¬ LA s b := Nat.not_le.mpr hbl
  intro n
  induction n with
  | zero => intro i h1 h2; exact absurd h1 (by omega)
  | succ n ih =>
    intro i hin hi H locs h1 h2 u ls hl I
    have hS := I.2.2.1
    refine lv_iload_n hx hb dL_law_18 rfl (lv_at hl 3 rfl) ?_
    refine lv_aload_n hx hb dL_law_19 rfl (lv_at hl 0 rfl) ?_
    refine va_slen hx hb hX hbl hbA hS dL_law_20 ?_
    refine lv_iconst (v := nI 4) hx hb dL_law_21 rfl ?_
    refine lv_isub hx hb dL_law_22 ?_
    refine lv_icmp_gt (tgt := 789) hx hb dL_law_23 (by decide) (fun _ => ?_) (fun z => ?_)
    · refine lv_iconst (v := 1) hx hb dL_law_789 (by decide) ?_
      refine va_forget (fun q hq => hS.2.2 q hq) ?_
      exact lw_ret hx hb hr hlocks dL_law_790
    · have hi4 : i + 4 ≤ L := by
        apply Classical.byContradiction
        intro y
        apply z
        show nI L - nI 4 < nI i
        rcases Nat.lt_or_ge L 4 with q | q
        · have hneg : ∀ k, k < 4 → nI k - nI 4 < nI 0 := by decide
          have h0 := hneg L q
          rw [fa_lt] at h0 ⊢
          rw [nI_toInt (show 0 < 2 ^ 31 by decide)] at h0
          rw [nI_toInt (show i < 2 ^ 31 by omega)]
          omega
        · rw [pk_sub q, nI_ltI (by omega) (by omega)]
          omega
      refine lv_aload_n hx hb dL_law_26 rfl (lv_at hl 0 rfl) ?_
      refine lv_iload_n hx hb dL_law_27 rfl (lv_at hl 3 rfl) ?_
      refine va_sld hx hb hX hbl hbA hS (vp_in_nI (show i < L by omega) (by omega)) dL_law_28 ?_
      refine lv_bipush (v := nI 31) hx hb dL_law_29 (by decide) ?_
      refine lv_iand hx hb dL_law_31 ?_
      obtain ⟨j, hj, ej⟩ := m31 (xs (nI i).toNatClampNeg)
      rw [ej]
      refine law_sw F0' hl hi4 hj I (fun u2 g1 g2 H1 locs1 I1 => ?_)
      refine lv_iinc (v := nI (i + 4)) (lv' := [(3, .int (nI (i + 4))), (0, .ref b), (1, .ref (ad1.getD 0 0)), (2, .ref (ad2.getD 0 0))]) hx hb dL_law_783 hl (k := 3) rfl (nI_add i 4) (by decide) rfl (fun ls hl => ?_)
      refine lv_goto (tgt := 18) hx hb dL_law_786 (by decide) ?_
      exact ih (i + 4) (by omega) hi4 H1 locs1 g1 g2 u2 ls (lv_sub hl [1, 2, 3, 0] rfl) I1
end
