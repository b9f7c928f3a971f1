/-! ===== the law's start ===== -/
theorem lw_arr {args : Array Value} {s : State} {ty : FieldType} (h : (Cond.arrayClass ty).before args s = true) : ∃ cA, ArrOfT s cA ty ∧ s.vm.findClass ("[" ++ ty.toString) = some cA := by
  obtain ⟨cA, k, comp, h1, h2, h3⟩ := Cond.arrayClass_spec h
  exact ⟨cA, fun n z => ⟨fun kk h => (by cases h), k, h2, comp, h3⟩, h1⟩
theorem lw_KG {b : Nat} {s : State} (htb : ∀ w ∈ TB, w.before #[Value.ref b] s = true) : ∃ (D : va_G) (G : ClassId × ClassId), va_K D vwCl (tysG G) s := by
  obtain ⟨c0, i0, k0⟩ := u_known (ws := TB) (C := RX0) (T := TX0) (N := 2) (n := 2) htb tbX0 (htb _ w_inCounsel)
  obtain ⟨c1, i1, k1⟩ := u_known (ws := TB) (C := RX1) (T := TX1) (N := 4) (n := 4) htb tbX1 (htb _ w_inHour)
  obtain ⟨c2, i2, k2⟩ := u_known (ws := TB) (C := RX2) (T := TX2) (N := 6) (n := 6) htb tbX2 (htb _ w_inPile)
  obtain ⟨c3, i3, k3⟩ := u_known (ws := TB) (C := RX3) (T := TX3) (N := 14) (n := 14) htb tbX3 (htb _ w_inPlan)
  obtain ⟨c4, i4, k4⟩ := u_known (ws := TB) (C := RX4) (T := TX4) (N := 2) (n := 2) htb tbX4 (htb _ w_inReader)
  obtain ⟨c5, i5, k5⟩ := u_known (ws := TB) (C := RX5) (T := TX5) (N := 13) (n := 13) htb tbX5 (htb _ ln_X5)
  obtain ⟨c6, i6, k6⟩ := u_known (ws := TB) (C := RX6) (T := TX6) (N := 32) (n := 32) htb tbX6 (htb _ ln_X6)
  obtain ⟨cI, aI, fI⟩ := lw_arr (htb _ w_ai)
  obtain ⟨cC, aC, fC⟩ := lw_arr (htb _ w_ac)
  refine ⟨(fun k => match k with
    | 0 => c0
    | 1 => c1
    | 2 => c2
    | 3 => c3
    | 4 => c4
    | 5 => c5
    | _ => c6, fun k => match k with
    | 0 => i0
    | 1 => i1
    | 2 => i2
    | 3 => i3
    | 4 => i4
    | 5 => i5
    | _ => i6), (cI, cC), fun c q hq => ?_, fun k q hq => ?_⟩
  · match c, hq with
    | 0, hq => cases hq; exact k0
    | 1, hq => cases hq; exact k1
    | 2, hq => cases hq; exact k2
    | 3, hq => cases hq; exact k3
    | 4, hq => cases hq; exact k4
    | 5, hq => cases hq; exact k5
    | 6, hq => cases hq; exact k6
    | n + 7, hq => simp [vwCl] at hq
  · match k, hq with
    | 0, hq => cases hq; exact ⟨aI, fI⟩
    | 1, hq => cases hq; exact ⟨aC, fC⟩
    | n + 2, hq => simp [tysG] at hq
theorem pcs_blind {D : va_G} {G : ClassId × ClassId} {ad : List Nat} {h : SH} {As : List Value} {sz : Nat} : FrameBlind (PcS D G ad h As sz) := fun a U g mk q => by
  obtain ⟨q0, q1, q2, q3, q4, q5, x, y, q6, q7, q8⟩ := q
  exact ⟨q0, q1, q2, va_K.moved (u := U) (U := U.calling g mk a) (Vm.Alike.refl U.vm) q3, q4, NTB_same (s := U) (U := U.calling g mk a) rfl q5, x, y, vk_R.same (u := U) (U := U.calling g mk a) rfl q6, vk_S.moved (u := U) (U := U.calling g mk a) (Vm.Alike.refl U.vm) q7, va_Z.moved (u := U) (U := U.calling g mk a) (Vm.Alike.refl U.vm) q8⟩
theorem StrF.nar {A B : Nat → Prop} {q v : Nat} {U : State} (h : StrF A q v U) (hAB : ∀ q, B q → A q) : StrF B q v U := ⟨h.1.narrow hAB, h.2.narrow hAB⟩
set_option maxHeartbeats 400000 in
/-- YOUR PART: from the entry, for every script of at most 256 ints, the law comes to its end with true ('hflags': the launch's flags, for a law that throws: no stack traces) -/
theorem whole_start {p : Program} {e : Env} {s : State} {m : MethodId} {below : List Frame} {meth : Method} {c : Code} (l : Launch) (hflags : l.flags = flags0) {b L : Nat} {xs : Nat → Int32} (hL : L ≤ 256) (C0 : lw_At p s m meth c b L xs) : W p l e room_1 s m #[Value.ref b] below meth c s.heap [] 0 0 (lw_Z below #[Value.ref b] s) (entryFrame m ([Value.ref b] : List Value).toArray 4) := by
  obtain ⟨hx, hb, hr, hml, hown, hts, hX, hbl, hlocks, hgv⟩ := id C0
  have htb : ∀ w ∈ TB, w.before #[Value.ref b] s = true := fun w h => hts w (TB_in w h)
  have hN : ∀ w ∈ NTB, va_Nw w s := fun w hw => by
    have h1 := hts w (NTB_in w hw)
    obtain ⟨a, i, x, n, rfl⟩ := NTB_form w hw
    exact va_Nw.of rfl h1
  obtain ⟨D, G, hK⟩ := lw_KG htb
  obtain ⟨qs, vs, hRs, hFs⟩ := lw_str hts hgv
  have hA : ∀ q : Nat, s.heap.size ≤ q → LA s q := fun _ h => h
  have hS : va_S (LA s) s.heap s.heap [] := va_S.rf
  have hP0 : va_P D vwCl [] s.heap := fun k q h => by simp at h
  have hD0 : va_D (LA s) [] := ⟨fun i j p q h => by simp at h, fun k q h => by simp at h⟩
  have hl := lv_entry ([.ref b]) (n := 4) (Nat.le_of_ble_eq_true rfl)
  rw [lg_entry_eq]
  generalize (lg_sl ([.ref b]) ++ List.replicate (4 - (lg_sl ([.ref b])).length) Slot.unset).toArray = ls at hl ⊢
  have hl : lv_has ls 4 [(0, .ref b)] := hl
  refine va_new (ci := 5) (fs := [.null, .int 0, .null, .null, .null, .null, .null, .null, .null, .null, .int 0, .int 0, .int 0]) (C := RX5) (T := TX5) (N := 13) hx hb htb tbX5 tyX5 tyX5_ok hown (htb _ lk_X5) (htb _ ln_X5) (htb _ li_X5_init) hK hP0 hD0 hS hA rfl df5 (Nat.le_of_ble_eq_true rfl) (Nat.le_of_ble_eq_true rfl) dL_law_0 (fun q1 H1 hP1 hD1 hS1 => ?_)
  have T1 : TW D G (LA s) [q1] [.inr (5, [.null, .int 0, .null, .null, .null, .null, .null, .null, .null, .null, .int 0, .int 0, .int 0])] H1 := ⟨rfl, hP1, hD1⟩
  refine lv_dup hx hb dL_law_3 rfl ?_
  have met1 := cl_init (K := fun v h' => v = none ∧ CAt h' (St0 P1)) (fun h _ c => ⟨rfl, c⟩) l D G [q1] H1.size rfl
  have cw1 : CallB room_1 s #[Value.ref b] R_law 9 (mY MX5_init) (mC MX5_init) (mN MX5_init) none (Cond.code (mY MX5_init) (mC MX5_init) (mN MX5_init) (mR MX5_init) :: TB) (rmD MX5_init) (mMc MX5_init) (mMs MX5_init) 0 ∧ (mY MX5_init).name = "<init>" ∧ (Cond.instanceMethod (mY MX5_init)).before #[Value.ref b] s = true := cwI 0 htb (gi_code ld_X5_init) rfl rfl rfl (htb _ li_X5_init) (htb _ la_X5_init) (htb _ lb_X5_init) rfl ⟨by decide, by decide, by decide +kernel⟩ ⟨by decide, by decide⟩
  have pre1 : PreS s H1 (PcS D G [q1] [.inr (5, [.null, .int 0, .null, .null, .null, .null, .null, .null, .null, .null, .int 0, .int 0, .int 0])] [.ref 0] H1.size) [.ref q1] := ⟨pcs_blind, fun U hU hW => ⟨rfl, by rw [hU], by rw [hU]; exact T1.2.1, va_K.moved hW.alike hK, T1.2.2.weaken (fun _ _ _ _ => trivial), NTB_warm hW hN, qs, vs, vk_R.warm hW hRs, (hFs.kept hS1 hU hW).nar (lw_free T1 hS1)⟩⟩
  have rm1 : 0 + 1 + mMc MX5_init ≤ room_1.cells ∧ 0 + 13 + mMs MX5_init ≤ room_1.slots := ⟨Nat.le_of_ble_eq_true rfl, Nat.le_of_ble_eq_true rfl⟩
  have fix : CallFix p m c code 4 s #[Value.ref b] TB R_law := ⟨hx, hb, hml, hown, htb⟩
  have run1 : va_Run p l e room_1 s m #[Value.ref b] below meth c H1 [] (0 + 1) (0 + 13) (mMc MX5_init) (mMs MX5_init) (F0 m (0 + 3 + 1) ls [.ref q1, .ref q1]) [.ref q1] (QcD MX5_init D G (va_A (mkW [q1] G [.inr (5, [.null, .int 0, .null, .null, .null, .null, .null, .null, .null, .null, .int 0, .int 0, .int 0])]) H1.size) [q1] (fun v h' => v = none ∧ CAt h' (St0 P1)) #[.ref q1]) (va_A (mkW [q1] G [.inr (5, [.null, .int 0, .null, .null, .null, .null, .null, .null, .null, .null, .int 0, .int 0, .int 0])]) H1.size) := va_runI fix met1 cw1 pre1 rfl rfl hl.1 rfl (lv_room (Nat.le_of_ble_eq_true rfl)) dL_law_4 rm1
  refine W_callF run1 hS1 (lw_free T1 hS1) (fun v ad' h1 H2 locs2 hq _ hl1 hP2 hD2 hk2 hS2 => ?_)
  obtain ⟨rfl, hC⟩ := hq
  have T2 : TW D G (LA s) ([q1] ++ ad') h1 H2 := ⟨hl1, hP2, hD2.weaken (fun _ _ _ q => lw_free T1 hS1 _ q)⟩
  refine lv_astore_n (lv' := [(1, .ref q1), (0, .ref b)]) hx hb dL_law_7 rfl hl (by decide) rfl (fun ls hl => ?_)
  refine va_new (ci := 6) (fs := [.null, .int 0, .int 0, .int 0, .int 0, .int 0, .null, .null, .null, .int 0, .null, .null, .null, .null, .int 0, .int 0, .int 0, .null, .int 0, .int 0, .int 0, .int 0, .int 0, .int 0, .null, .int 0, .null, .null, .null, .null, .null, .null]) (C := RX6) (T := TX6) (N := 32) hx hb htb tbX6 tyX6 tyX6_ok hown (htb _ lk_X6) (htb _ ln_X6) (htb _ li_X6_init) hK T2.2.1 T2.2.2 hS2 hA rfl df6 (Nat.le_of_ble_eq_true rfl) (Nat.le_of_ble_eq_true rfl) dL_law_8 (fun q2 H3 hP3 hD3 hS3 => ?_)
  have hlen : (mkW ([q1] ++ ad') G h1).length = h1.length := mkW_len T2.1
  have hq2 : (mkW ([q1] ++ ad') G h1 ++ [(q2, .inr (6, [.null, .int 0, .int 0, .int 0, .int 0, .int 0, .null, .null, .null, .int 0, .null, .null, .null, .null, .int 0, .int 0, .int 0, .null, .int 0, .int 0, .int 0, .int 0, .int 0, .int 0, .null, .int 0, .null, .null, .null, .null, .null, .null]))])[h1.length]? = some (q2, .inr (6, [.null, .int 0, .int 0, .int 0, .int 0, .int 0, .null, .null, .null, .int 0, .null, .null, .null, .null, .int 0, .int 0, .int 0, .null, .int 0, .int 0, .int 0, .int 0, .int 0, .int 0, .null, .int 0, .null, .null, .null, .null, .null, .null])) := by
    rw [List.getElem?_append_right (by omega), hlen, Nat.sub_self]; rfl
  have hleft : ∀ k q, (mkW ([q1] ++ ad') G h1)[k]? = some q → (mkW ([q1] ++ ad') G h1 ++ [(q2, .inr (6, [.null, .int 0, .int 0, .int 0, .int 0, .int 0, .null, .null, .null, .int 0, .null, .null, .null, .null, .int 0, .int 0, .int 0, .null, .int 0, .int 0, .int 0, .int 0, .int 0, .int 0, .null, .int 0, .null, .null, .null, .null, .null, .null]))])[k]? = some q := fun k q h => by
    rw [List.getElem?_append_left (List.getElem?_eq_some_iff.mp h).1]
    exact h
  have T3 : TW D G (LA s) ([q1] ++ ad') h1 H3 := ⟨T2.1, fun k q h => hP3 k q (hleft k q h), T2.2.2⟩
  have T4 : TW D G (LA s) [q2] [.inr (6, [.null, .int 0, .int 0, .int 0, .int 0, .int 0, .null, .null, .null, .int 0, .null, .null, .null, .null, .int 0, .int 0, .int 0, .null, .int 0, .int 0, .int 0, .int 0, .int 0, .int 0, .null, .int 0, .null, .null, .null, .null, .null, .null])] H3 := ⟨rfl, fun k q h => by
    have hk : k < 1 := (List.getElem?_eq_some_iff.mp h).1
    have e : k = 0 := by omega
    subst e
    cases h
    exact hP3 _ _ hq2, ⟨fun i j x y h1 h2 _ => by
    have a1 : i < 1 := (List.getElem?_eq_some_iff.mp h1).1
    have a2 : j < 1 := (List.getElem?_eq_some_iff.mp h2).1
    omega, fun k q h => by
    have hk : k < 1 := (List.getElem?_eq_some_iff.mp h).1
    have e : k = 0 := by omega
    subst e
    cases h
    exact hD3.2 _ _ hq2⟩⟩
  have dis1 : ∀ q, q ∈ [q2] → q ∉ [q1] ++ ad' := fun q hq hq' => by
    have e : q = q2 := List.mem_singleton.mp hq
    subst e
    obtain ⟨k, hk⟩ := List.getElem?_of_mem hq'
    have hkl : k < h1.length := by
      have := (List.getElem?_eq_some_iff.mp hk).1
      rw [T2.1] at this
      exact this
    have hw : ∃ x, (mkW ([q1] ++ ad') G h1)[k]? = some (q, x) := by
      refine ⟨trC ([q1] ++ ad') G h1[k], ?_⟩
      rw [mkW_get T2.1 (List.getElem?_eq_getElem hkl), List.getD_eq_getElem?_getD, hk]
      rfl
    obtain ⟨x, hw⟩ := hw
    have := hD3.1 k h1.length _ _ (hleft k _ hw) hq2 rfl
    omega
  refine lv_dup hx hb dL_law_11 rfl ?_
  have met2 := mo_init (K := fun v h' => v = none ∧ MAt h' (St0 P1)) (fun h c => ⟨rfl, c⟩) l D G [q2] H3.size rfl
  have cw2 : CallB room_1 s #[Value.ref b] R_law 12 (mY MX6_init) (mC MX6_init) (mN MX6_init) none (Cond.code (mY MX6_init) (mC MX6_init) (mN MX6_init) (mR MX6_init) :: TB) (rmD MX6_init) (mMc MX6_init) (mMs MX6_init) 0 ∧ (mY MX6_init).name = "<init>" ∧ (Cond.instanceMethod (mY MX6_init)).before #[Value.ref b] s = true := cwI 0 htb (gi_code ld_X6_init) rfl rfl rfl (htb _ li_X6_init) (htb _ la_X6_init) (htb _ lb_X6_init) rfl ⟨by decide, by decide, by decide +kernel⟩ ⟨by decide, by decide⟩
  have pre2 : PreS s H3 (PcD D G [q2] [.inr (6, [.null, .int 0, .int 0, .int 0, .int 0, .int 0, .null, .null, .null, .int 0, .null, .null, .null, .null, .int 0, .int 0, .int 0, .null, .int 0, .int 0, .int 0, .int 0, .int 0, .int 0, .null, .int 0, .null, .null, .null, .null, .null, .null])] [.ref 0] H3.size) [.ref q2] := ⟨pcd_blind, fun U hU hW => ⟨rfl, by rw [hU], by rw [hU]; exact T4.2.1, va_K.moved hW.alike hK, T4.2.2.weaken (fun _ _ _ _ => trivial), NTB_warm hW hN⟩⟩
  have rm2 : 0 + 1 + mMc MX5_init + 1 + mMc MX6_init ≤ room_1.cells ∧ 0 + 13 + mMs MX5_init + 32 + mMs MX6_init ≤ room_1.slots := ⟨Nat.le_of_ble_eq_true rfl, Nat.le_of_ble_eq_true rfl⟩
  have run2 : va_Run p l e room_1 s m #[Value.ref b] below meth c H3 locs2 (0 + 1 + mMc MX5_init + 1) (0 + 13 + mMs MX5_init + 32) (mMc MX6_init) (mMs MX6_init) (F0 m (8 + 3 + 1) ls [.ref q2, .ref q2]) [.ref q2] (QcD MX6_init D G (va_A (mkW [q2] G [.inr (6, [.null, .int 0, .int 0, .int 0, .int 0, .int 0, .null, .null, .null, .int 0, .null, .null, .null, .null, .int 0, .int 0, .int 0, .null, .int 0, .int 0, .int 0, .int 0, .int 0, .int 0, .null, .int 0, .null, .null, .null, .null, .null, .null])]) H3.size) [q2] (fun v h' => v = none ∧ MAt h' (St0 P1)) #[.ref q2]) (va_A (mkW [q2] G [.inr (6, [.null, .int 0, .int 0, .int 0, .int 0, .int 0, .null, .null, .null, .int 0, .null, .null, .null, .null, .int 0, .int 0, .int 0, .null, .int 0, .int 0, .int 0, .int 0, .int 0, .int 0, .null, .int 0, .null, .null, .null, .null, .null, .null])]) H3.size) := va_runI fix met2 cw2 pre2 rfl rfl hl.1 rfl (lv_room (Nat.le_of_ble_eq_true rfl)) dL_law_12 rm2
  refine W_callF run2 hS3 (lw_free T4 hS3) (fun v ad2 h2 H4 locs4 hq _ hl2 hP4 hD4 hk4 hS4 => ?_)
  obtain ⟨rfl, hM⟩ := hq
  have T5 : TW D G (LA s) ([q1] ++ ad') h1 H4 := T3.kept (adA := [q2]) (hA := [.inr (6, [.null, .int 0, .int 0, .int 0, .int 0, .int 0, .null, .null, .null, .int 0, .null, .null, .null, .null, .int 0, .int 0, .int 0, .null, .int 0, .int 0, .int 0, .int 0, .int 0, .int 0, .null, .int 0, .null, .null, .null, .null, .null, .null])]) dis1 hk4
  have T6 : TW D G (LA s) ([q2] ++ ad2) h2 H4 := ⟨hl2, hP4, hD4.weaken (fun _ _ _ q => lw_free T4 hS3 _ q)⟩
  have dis2 : ∀ q, q ∈ [q1] ++ ad' → q ∉ [q2] ++ ad2 := fun q hq hq' => by
    obtain ⟨k, hk⟩ := List.getElem?_of_mem hq'
    have hkl : k < h2.length := by
      have := (List.getElem?_eq_some_iff.mp hk).1
      rw [hl2] at this
      exact this
    have hw : (mkW ([q2] ++ ad2) G h2)[k]? = some (q, trC ([q2] ++ ad2) G h2[k]) := by
      rw [mkW_get hl2 (List.getElem?_eq_getElem hkl), List.getD_eq_getElem?_getD, hk]
      rfl
    rcases hD4.2 k _ hw with ⟨k2, x, z⟩ | z
    · exact dis1 q (mkW_ad (q := (q, x)) z) hq
    · obtain ⟨k3, hk3⟩ := List.getElem?_of_mem hq
      have hk3l : k3 < h1.length := by
        have := (List.getElem?_eq_some_iff.mp hk3).1
        rw [T2.1] at this
        exact this
      have hw3 : (mkW ([q1] ++ ad') G h1)[k3]? = some (q, trC ([q1] ++ ad') G h1[k3]) := by
        rw [mkW_get T2.1 (List.getElem?_eq_getElem hk3l), List.getD_eq_getElem?_getD, hk3]
        rfl
      have hlt := (T3.2.1 k3 _ hw3).lt
      exact absurd (Nat.lt_of_lt_of_le hlt z) (Nat.lt_irrefl _)
  refine lv_astore_n (lv' := [(2, .ref q2), (1, .ref q1), (0, .ref b)]) hx hb dL_law_15 rfl hl (by decide) rfl (fun ls hl => ?_)
  refine lv_iconst (v := nI 0) hx hb dL_law_16 rfl ?_
  refine lv_istore_n (lv' := [(3, .int (nI 0)), (2, .ref q2), (1, .ref q1), (0, .ref b)]) hx hb dL_law_17 rfl hl (by decide) rfl (fun ls hl => ?_)
  refine W.widen (k := 600000) (n := 7302250) (Nat.le_of_ble_eq_true rfl) (Nat.le_of_ble_eq_true rfl) ?_
  exact law_loop (ad1 := [q1] ++ ad') (ad2 := [q2] ++ ad2) ⟨C0, hL, hK, hN, dis2, fun q a1 a2 => dis2 q a2 a1⟩ (L + 1) 0 (by omega) (Nat.zero_le _) H4 locs4 h1 h2 (St0 P1) ls (lv_sub hl [3, 2, 1, 0] rfl) ⟨T5, T6, hS4, hC, hM, wf_start⟩
