/-! ===== the cases of the law ===== -/
section
variable {p : Program} {l : Launch} {e : Env} {s : State} {m : MethodId} {below : List Frame} {meth : Method} {c : Code} {b L : Nat} {xs : Nat → Int32} {D : va_G} {G : ClassId × ClassId} {H : Heap} {locs : List Loc} {ls : Array Slot} {Qz : State → Prop} {ad1 ad2 : List Nat} {h1 h2 : SH} {i : Nat} {u : St}
def LIn (D : va_G) (G : ClassId × ClassId) (s : State) (ad1 ad2 : List Nat) (H : Heap) (locs : List Loc) (h1 h2 : SH) (u : St) : Prop := TW D G (LA s) ad1 h1 H ∧ TW D G (LA s) ad2 h2 H ∧ va_S (LA s) s.heap H locs ∧ CAt h1 u ∧ MAt h2 u ∧ WfS u
def LFix (D : va_G) (G : ClassId × ClassId) (p : Program) (s : State) (m : MethodId) (meth : Method) (c : Code) (b L : Nat) (xs : Nat → Int32) (ad1 ad2 : List Nat) : Prop := lw_At p s m meth c b L xs ∧ L ≤ 256 ∧ va_K D vwCl (tysG G) s ∧ (∀ w ∈ NTB, va_Nw w s) ∧ (∀ q, q ∈ ad1 → q ∉ ad2) ∧ (∀ q, q ∈ ad2 → q ∉ ad1)
abbrev LLs (ls : Array Slot) (b i : Nat) (ad1 ad2 : List Nat) : Prop := lv_has ls 4 [(0, .ref b), (1, .ref (ad1.getD 0 0)), (2, .ref (ad2.getD 0 0)), (3, .int (nI i))]
theorem lk_write (F : LFix D G p s m meth c b L xs ad1 ad2) (hl : LLs ls b i ad1 ad2) (hi : i + 4 ≤ L) (I : LIn D G s ad1 ad2 H locs h1 h2 u) (kk : ∀ u2 g1 g2 H1 locs1, LIn D G s ad1 ad2 H1 locs1 g1 g2 u2 → W p l e room_1 s m #[Value.ref b] below meth c H1 locs1 600000 7302250 Qz (F0 m 783 ls [])) : W p l e room_1 s m #[Value.ref b] below meth c H locs 600000 7302250 Qz (F0 m 156 ls []) := by
  obtain ⟨C0, hL, hK, hN, d12, d21⟩ := F
  obtain ⟨T1, T2, hS, hC, hM, hW⟩ := I
  obtain ⟨hx, hb, -⟩ := id C0
  obtain ⟨kl, ks, P', r', hk, c0, -⟩ := id hC
  obtain ⟨pl, nu, rs, ry, rt, rl, w, f9, m0, -⟩ := id hM
  refine lv_aload_n hx hb dL_law_156 rfl (lv_at hl 1 rfl) ?_
  refine lw_ld (k := 1) C0 hL hl rfl rfl hS dL_law_157 dL_law_158 dL_law_159 rfl dL_law_160 dL_law_161 (by omega) ?_
  refine lw_callG (as := [.int (xs (i + 1))]) (rest := []) (ci := 5) (Q' := fun r h' => r = (writeA u (xs (i + 1))) ∧ CAt h' (writeN u (xs (i + 1)))) C0 hK hN hl.1 dL_law_162 rfl la_X5_write lb_X5_write lc_X5_write lf_X5_write ⟨rfl, rfl⟩ c0 rfl (by decide) (cl_write hC hW (fun h' q => ⟨_, rfl, rfl, q⟩)) T1 T2 d12 hS (fun r1 g1 H1 locs1 z1 T1 T2 hS => ?_)
  obtain ⟨er1, hC2⟩ := z1
  refine lv_aload_n hx hb dL_law_165 rfl (lv_at hl 2 rfl) ?_
  refine lw_ld (k := 1) C0 hL hl rfl rfl hS dL_law_166 dL_law_167 dL_law_168 rfl dL_law_169 dL_law_170 (by omega) ?_
  refine lw_callG (as := [.int (xs (i + 1))]) (rest := [.int r1]) (ci := 6) (Q' := fun r h' => r = (writeA u (xs (i + 1))) ∧ MAt h' (writeN u (xs (i + 1)))) C0 hK hN hl.1 dL_law_171 rfl la_X6_write lb_X6_write lc_X6_write lf_X6_write ⟨rfl, rfl⟩ m0 rfl (Nat.le_of_ble_eq_true rfl) (mo_write hM hW (fun h' q => ⟨_, rfl, rfl, q⟩)) T2 T1 d21 hS (fun r2 g2 H2 locs2 z2 T2 T1 hS => ?_)
  obtain ⟨er2, hM2⟩ := z2
  refine lv_icmp_eq (tgt := 783) hx hb dL_law_174 (by decide) (fun _ => kk _ _ _ _ _ ⟨T1, T2, hS, hC2, hM2, (wf_write hW)⟩) (fun z => absurd (by rw [er1, er2]) z)
theorem lk_wipe (F : LFix D G p s m meth c b L xs ad1 ad2) (hl : LLs ls b i ad1 ad2) (hi : i + 4 ≤ L) (I : LIn D G s ad1 ad2 H locs h1 h2 u) (kk : ∀ u2 g1 g2 H1 locs1, LIn D G s ad1 ad2 H1 locs1 g1 g2 u2 → W p l e room_1 s m #[Value.ref b] below meth c H1 locs1 600000 7302250 Qz (F0 m 783 ls [])) : W p l e room_1 s m #[Value.ref b] below meth c H locs 600000 7302250 Qz (F0 m 179 ls []) := by
  obtain ⟨C0, hL, hK, hN, d12, d21⟩ := F
  obtain ⟨T1, T2, hS, hC, hM, hW⟩ := I
  obtain ⟨hx, hb, -⟩ := id C0
  obtain ⟨kl, ks, P', r', hk, c0, -⟩ := id hC
  obtain ⟨pl, nu, rs, ry, rt, rl, w, f9, m0, -⟩ := id hM
  refine lv_aload_n hx hb dL_law_179 rfl (lv_at hl 1 rfl) ?_
  refine lw_callG (as := []) (rest := []) (ci := 5) (Q' := fun r h' => r = (wipeA u) ∧ CAt h' (wipeN u)) C0 hK hN hl.1 dL_law_180 rfl la_X5_wipe lb_X5_wipe lc_X5_wipe lf_X5_wipe ⟨rfl, rfl⟩ c0 rfl (by decide) (cl_wipe hC hW (fun h' q => ⟨_, rfl, rfl, q⟩)) T1 T2 d12 hS (fun r1 g1 H1 locs1 z1 T1 T2 hS => ?_)
  obtain ⟨er1, hC2⟩ := z1
  refine lv_aload_n hx hb dL_law_183 rfl (lv_at hl 2 rfl) ?_
  refine lw_callG (as := []) (rest := [.int r1]) (ci := 6) (Q' := fun r h' => r = (wipeA u) ∧ MAt h' (wipeN u)) C0 hK hN hl.1 dL_law_184 rfl la_X6_wipe lb_X6_wipe lc_X6_wipe lf_X6_wipe ⟨rfl, rfl⟩ m0 rfl (Nat.le_of_ble_eq_true rfl) (mo_wipe hM hW (fun h' q => ⟨_, rfl, rfl, q⟩)) T2 T1 d21 hS (fun r2 g2 H2 locs2 z2 T2 T1 hS => ?_)
  obtain ⟨er2, hM2⟩ := z2
  refine lv_icmp_eq (tgt := 783) hx hb dL_law_187 (by decide) (fun _ => kk _ _ _ _ _ ⟨T1, T2, hS, hC2, hM2, (wf_wipe hW)⟩) (fun z => absurd (by rw [er1, er2]) z)
theorem lk_fault (F : LFix D G p s m meth c b L xs ad1 ad2) (hl : LLs ls b i ad1 ad2) (hi : i + 4 ≤ L) (I : LIn D G s ad1 ad2 H locs h1 h2 u) (kk : ∀ u2 g1 g2 H1 locs1, LIn D G s ad1 ad2 H1 locs1 g1 g2 u2 → W p l e room_1 s m #[Value.ref b] below meth c H1 locs1 600000 7302250 Qz (F0 m 783 ls [])) : W p l e room_1 s m #[Value.ref b] below meth c H locs 600000 7302250 Qz (F0 m 192 ls []) := by
  obtain ⟨C0, hL, hK, hN, d12, d21⟩ := F
  obtain ⟨T1, T2, hS, hC, hM, hW⟩ := I
  obtain ⟨hx, hb, -⟩ := id C0
  obtain ⟨kl, ks, P', r', hk, c0, -⟩ := id hC
  obtain ⟨pl, nu, rs, ry, rt, rl, w, f9, m0, -⟩ := id hM
  refine lv_aload_n hx hb dL_law_192 rfl (lv_at hl 1 rfl) ?_
  refine lw_callG (as := []) (rest := []) (ci := 5) (Q' := fun r h' => r = (faultA u) ∧ CAt h' (faultN u)) C0 hK hN hl.1 dL_law_193 rfl la_X5_fault lb_X5_fault lc_X5_fault lf_X5_fault ⟨rfl, rfl⟩ c0 rfl (by decide) (cl_fault hC hW (fun h' q => ⟨_, rfl, rfl, q⟩)) T1 T2 d12 hS (fun r1 g1 H1 locs1 z1 T1 T2 hS => ?_)
  obtain ⟨er1, hC2⟩ := z1
  refine lv_aload_n hx hb dL_law_196 rfl (lv_at hl 2 rfl) ?_
  refine lw_callG (as := []) (rest := [.int r1]) (ci := 6) (Q' := fun r h' => r = (faultA u) ∧ MAt h' (faultN u)) C0 hK hN hl.1 dL_law_197 rfl la_X6_fault lb_X6_fault lc_X6_fault lf_X6_fault ⟨rfl, rfl⟩ m0 rfl (Nat.le_of_ble_eq_true rfl) (mo_fault hM hW (fun h' q => ⟨_, rfl, rfl, q⟩)) T2 T1 d21 hS (fun r2 g2 H2 locs2 z2 T2 T1 hS => ?_)
  obtain ⟨er2, hM2⟩ := z2
  refine lv_icmp_eq (tgt := 783) hx hb dL_law_200 (by decide) (fun _ => kk _ _ _ _ _ ⟨T1, T2, hS, hC2, hM2, hW⟩) (fun z => absurd (by rw [er1, er2]) z)
theorem lk_lay (F : LFix D G p s m meth c b L xs ad1 ad2) (hl : LLs ls b i ad1 ad2) (hi : i + 4 ≤ L) (I : LIn D G s ad1 ad2 H locs h1 h2 u) (kk : ∀ u2 g1 g2 H1 locs1, LIn D G s ad1 ad2 H1 locs1 g1 g2 u2 → W p l e room_1 s m #[Value.ref b] below meth c H1 locs1 600000 7302250 Qz (F0 m 783 ls [])) : W p l e room_1 s m #[Value.ref b] below meth c H locs 600000 7302250 Qz (F0 m 205 ls []) := by
  obtain ⟨C0, hL, hK, hN, d12, d21⟩ := F
  obtain ⟨T1, T2, hS, hC, hM, hW⟩ := I
  obtain ⟨hx, hb, -⟩ := id C0
  obtain ⟨kl, ks, P', r', hk, c0, -⟩ := id hC
  obtain ⟨pl, nu, rs, ry, rt, rl, w, f9, m0, -⟩ := id hM
  refine lv_aload_n hx hb dL_law_205 rfl (lv_at hl 1 rfl) ?_
  refine lw_callG (as := []) (rest := []) (ci := 5) (Q' := fun r h' => r = (layA u) ∧ CAt h' (layN u)) C0 hK hN hl.1 dL_law_206 rfl la_X5_lay lb_X5_lay lc_X5_lay lf_X5_lay ⟨rfl, rfl⟩ c0 rfl (by decide) (cl_lay hC hW (fun h' q => ⟨_, rfl, rfl, q⟩)) T1 T2 d12 hS (fun r1 g1 H1 locs1 z1 T1 T2 hS => ?_)
  obtain ⟨er1, hC2⟩ := z1
  refine lv_aload_n hx hb dL_law_209 rfl (lv_at hl 2 rfl) ?_
  refine lw_callG (as := []) (rest := [.int r1]) (ci := 6) (Q' := fun r h' => r = (layA u) ∧ MAt h' (layN u)) C0 hK hN hl.1 dL_law_210 rfl la_X6_lay lb_X6_lay lc_X6_lay lf_X6_lay ⟨rfl, rfl⟩ m0 rfl (Nat.le_of_ble_eq_true rfl) (mo_lay hM hW (fun h' q => ⟨_, rfl, rfl, q⟩)) T2 T1 d21 hS (fun r2 g2 H2 locs2 z2 T2 T1 hS => ?_)
  obtain ⟨er2, hM2⟩ := z2
  refine lv_icmp_eq (tgt := 783) hx hb dL_law_213 (by decide) (fun _ => kk _ _ _ _ _ ⟨T1, T2, hS, hC2, hM2, (wf_lay hW)⟩) (fun z => absurd (by rw [er1, er2]) z)
theorem lk_thing (F : LFix D G p s m meth c b L xs ad1 ad2) (hl : LLs ls b i ad1 ad2) (hi : i + 4 ≤ L) (I : LIn D G s ad1 ad2 H locs h1 h2 u) (kk : ∀ u2 g1 g2 H1 locs1, LIn D G s ad1 ad2 H1 locs1 g1 g2 u2 → W p l e room_1 s m #[Value.ref b] below meth c H1 locs1 600000 7302250 Qz (F0 m 783 ls [])) : W p l e room_1 s m #[Value.ref b] below meth c H locs 600000 7302250 Qz (F0 m 218 ls []) := by
  obtain ⟨C0, hL, hK, hN, d12, d21⟩ := F
  obtain ⟨T1, T2, hS, hC, hM, hW⟩ := I
  obtain ⟨hx, hb, -⟩ := id C0
  obtain ⟨kl, ks, P', r', hk, c0, -⟩ := id hC
  obtain ⟨pl, nu, rs, ry, rt, rl, w, f9, m0, -⟩ := id hM
  refine lv_aload_n hx hb dL_law_218 rfl (lv_at hl 1 rfl) ?_
  refine lw_ld (k := 1) C0 hL hl rfl rfl hS dL_law_219 dL_law_220 dL_law_221 rfl dL_law_222 dL_law_223 (by omega) ?_
  refine lw_ld (k := 2) C0 hL hl rfl rfl hS dL_law_224 dL_law_225 dL_law_226 rfl dL_law_227 dL_law_228 (by omega) ?_
  refine lw_callG (as := [.int (xs (i + 1)), .int (xs (i + 2))]) (rest := []) (ci := 5) (Q' := fun r h' => r = (thingS u (xs (i + 1)) (xs (i + 2))) ∧ CAt h' u) C0 hK hN hl.1 dL_law_229 rfl la_X5_thing lb_X5_thing lc_X5_thing lf_X5_thing ⟨rfl, rfl⟩ c0 rfl (by decide) (cl_thing hC hW ⟨_, rfl, rfl, hC⟩) T1 T2 d12 hS (fun r1 g1 H1 locs1 z1 T1 T2 hS => ?_)
  obtain ⟨er1, hC2⟩ := z1
  refine lv_aload_n hx hb dL_law_232 rfl (lv_at hl 2 rfl) ?_
  refine lw_ld (k := 1) C0 hL hl rfl rfl hS dL_law_233 dL_law_234 dL_law_235 rfl dL_law_236 dL_law_237 (by omega) ?_
  refine lw_ld (k := 2) C0 hL hl rfl rfl hS dL_law_238 dL_law_239 dL_law_240 rfl dL_law_241 dL_law_242 (by omega) ?_
  refine lw_callG (as := [.int (xs (i + 1)), .int (xs (i + 2))]) (rest := [.int r1]) (ci := 6) (Q' := fun r h' => r = (thingS u (xs (i + 1)) (xs (i + 2))) ∧ MAt h' u) C0 hK hN hl.1 dL_law_243 rfl la_X6_thing lb_X6_thing lc_X6_thing lf_X6_thing ⟨rfl, rfl⟩ m0 rfl (Nat.le_of_ble_eq_true rfl) (mo_thing hM hW ⟨_, rfl, rfl, hM⟩) T2 T1 d21 hS (fun r2 g2 H2 locs2 z2 T2 T1 hS => ?_)
  obtain ⟨er2, hM2⟩ := z2
  refine lv_icmp_eq (tgt := 783) hx hb dL_law_246 (by decide) (fun _ => kk _ _ _ _ _ ⟨T1, T2, hS, hC2, hM2, hW⟩) (fun z => absurd (by rw [er1, er2]) z)
theorem lk_life (F : LFix D G p s m meth c b L xs ad1 ad2) (hl : LLs ls b i ad1 ad2) (hi : i + 4 ≤ L) (I : LIn D G s ad1 ad2 H locs h1 h2 u) (kk : ∀ u2 g1 g2 H1 locs1, LIn D G s ad1 ad2 H1 locs1 g1 g2 u2 → W p l e room_1 s m #[Value.ref b] below meth c H1 locs1 600000 7302250 Qz (F0 m 783 ls [])) : W p l e room_1 s m #[Value.ref b] below meth c H locs 600000 7302250 Qz (F0 m 251 ls []) := by
  obtain ⟨C0, hL, hK, hN, d12, d21⟩ := F
  obtain ⟨T1, T2, hS, hC, hM, hW⟩ := I
  obtain ⟨hx, hb, -⟩ := id C0
  obtain ⟨kl, ks, P', r', hk, c0, -⟩ := id hC
  obtain ⟨pl, nu, rs, ry, rt, rl, w, f9, m0, -⟩ := id hM
  refine lv_aload_n hx hb dL_law_251 rfl (lv_at hl 1 rfl) ?_
  refine lw_ld (k := 1) C0 hL hl rfl rfl hS dL_law_252 dL_law_253 dL_law_254 rfl dL_law_255 dL_law_256 (by omega) ?_
  refine lw_ld (k := 2) C0 hL hl rfl rfl hS dL_law_257 dL_law_258 dL_law_259 rfl dL_law_260 dL_law_261 (by omega) ?_
  refine lw_callG (as := [.int (xs (i + 1)), .int (xs (i + 2))]) (rest := []) (ci := 5) (Q' := fun r h' => r = (lifeS u (xs (i + 1)) (xs (i + 2))) ∧ CAt h' u) C0 hK hN hl.1 dL_law_262 rfl la_X5_life lb_X5_life lc_X5_life lf_X5_life ⟨rfl, rfl⟩ c0 rfl (by decide) (cl_life hC hW ⟨_, rfl, rfl, hC⟩) T1 T2 d12 hS (fun r1 g1 H1 locs1 z1 T1 T2 hS => ?_)
  obtain ⟨er1, hC2⟩ := z1
  refine lv_aload_n hx hb dL_law_265 rfl (lv_at hl 2 rfl) ?_
  refine lw_ld (k := 1) C0 hL hl rfl rfl hS dL_law_266 dL_law_267 dL_law_268 rfl dL_law_269 dL_law_270 (by omega) ?_
  refine lw_ld (k := 2) C0 hL hl rfl rfl hS dL_law_271 dL_law_272 dL_law_273 rfl dL_law_274 dL_law_275 (by omega) ?_
  refine lw_callG (as := [.int (xs (i + 1)), .int (xs (i + 2))]) (rest := [.int r1]) (ci := 6) (Q' := fun r h' => r = (lifeS u (xs (i + 1)) (xs (i + 2))) ∧ MAt h' u) C0 hK hN hl.1 dL_law_276 rfl la_X6_life lb_X6_life lc_X6_life lf_X6_life ⟨rfl, rfl⟩ m0 rfl (Nat.le_of_ble_eq_true rfl) (mo_life hM hW ⟨_, rfl, rfl, hM⟩) T2 T1 d21 hS (fun r2 g2 H2 locs2 z2 T2 T1 hS => ?_)
  obtain ⟨er2, hM2⟩ := z2
  refine lv_icmp_eq (tgt := 783) hx hb dL_law_279 (by decide) (fun _ => kk _ _ _ _ _ ⟨T1, T2, hS, hC2, hM2, hW⟩) (fun z => absurd (by rw [er1, er2]) z)
theorem lk_room (F : LFix D G p s m meth c b L xs ad1 ad2) (hl : LLs ls b i ad1 ad2) (hi : i + 4 ≤ L) (I : LIn D G s ad1 ad2 H locs h1 h2 u) (kk : ∀ u2 g1 g2 H1 locs1, LIn D G s ad1 ad2 H1 locs1 g1 g2 u2 → W p l e room_1 s m #[Value.ref b] below meth c H1 locs1 600000 7302250 Qz (F0 m 783 ls [])) : W p l e room_1 s m #[Value.ref b] below meth c H locs 600000 7302250 Qz (F0 m 284 ls []) := by
  obtain ⟨C0, hL, hK, hN, d12, d21⟩ := F
  obtain ⟨T1, T2, hS, hC, hM, hW⟩ := I
  obtain ⟨hx, hb, -⟩ := id C0
  obtain ⟨kl, ks, P', r', hk, c0, -⟩ := id hC
  obtain ⟨pl, nu, rs, ry, rt, rl, w, f9, m0, -⟩ := id hM
  refine lv_aload_n hx hb dL_law_284 rfl (lv_at hl 1 rfl) ?_
  refine lw_callG (as := []) (rest := []) (ci := 5) (Q' := fun r h' => r = (roomS u) ∧ CAt h' u) C0 hK hN hl.1 dL_law_285 rfl la_X5_room lb_X5_room lc_X5_room lf_X5_room ⟨rfl, rfl⟩ c0 rfl (by decide) (cl_room hC hW ⟨_, rfl, rfl, hC⟩) T1 T2 d12 hS (fun r1 g1 H1 locs1 z1 T1 T2 hS => ?_)
  obtain ⟨er1, hC2⟩ := z1
  refine lv_aload_n hx hb dL_law_288 rfl (lv_at hl 2 rfl) ?_
  refine lw_callG (as := []) (rest := [.int r1]) (ci := 6) (Q' := fun r h' => r = (roomS u) ∧ MAt h' u) C0 hK hN hl.1 dL_law_289 rfl la_X6_room lb_X6_room lc_X6_room lf_X6_room ⟨rfl, rfl⟩ m0 rfl (Nat.le_of_ble_eq_true rfl) (mo_room hM hW ⟨_, rfl, rfl, hM⟩) T2 T1 d21 hS (fun r2 g2 H2 locs2 z2 T2 T1 hS => ?_)
  obtain ⟨er2, hM2⟩ := z2
  refine lv_icmp_eq (tgt := 783) hx hb dL_law_292 (by decide) (fun _ => kk _ _ _ _ _ ⟨T1, T2, hS, hC2, hM2, hW⟩) (fun z => absurd (by rw [er1, er2]) z)
theorem lk_worth (F : LFix D G p s m meth c b L xs ad1 ad2) (hl : LLs ls b i ad1 ad2) (hi : i + 4 ≤ L) (I : LIn D G s ad1 ad2 H locs h1 h2 u) (kk : ∀ u2 g1 g2 H1 locs1, LIn D G s ad1 ad2 H1 locs1 g1 g2 u2 → W p l e room_1 s m #[Value.ref b] below meth c H1 locs1 600000 7302250 Qz (F0 m 783 ls [])) : W p l e room_1 s m #[Value.ref b] below meth c H locs 600000 7302250 Qz (F0 m 297 ls []) := by
  obtain ⟨C0, hL, hK, hN, d12, d21⟩ := F
  obtain ⟨T1, T2, hS, hC, hM, hW⟩ := I
  obtain ⟨hx, hb, -⟩ := id C0
  obtain ⟨kl, ks, P', r', hk, c0, -⟩ := id hC
  obtain ⟨pl, nu, rs, ry, rt, rl, w, f9, m0, -⟩ := id hM
  refine lv_aload_n hx hb dL_law_297 rfl (lv_at hl 1 rfl) ?_
  refine lw_ld (k := 1) C0 hL hl rfl rfl hS dL_law_298 dL_law_299 dL_law_300 rfl dL_law_301 dL_law_302 (by omega) ?_
  refine lw_ld (k := 2) C0 hL hl rfl rfl hS dL_law_303 dL_law_304 dL_law_305 rfl dL_law_306 dL_law_307 (by omega) ?_
  refine lw_callG (as := [.int (xs (i + 1)), .int (xs (i + 2))]) (rest := []) (ci := 5) (Q' := fun r h' => r = (worthS u (xs (i + 1)) (xs (i + 2))) ∧ CAt h' u) C0 hK hN hl.1 dL_law_308 rfl la_X5_worth lb_X5_worth lc_X5_worth lf_X5_worth ⟨rfl, rfl⟩ c0 rfl (by decide) (cl_worth hC hW ⟨_, rfl, rfl, hC⟩) T1 T2 d12 hS (fun r1 g1 H1 locs1 z1 T1 T2 hS => ?_)
  obtain ⟨er1, hC2⟩ := z1
  refine lv_aload_n hx hb dL_law_311 rfl (lv_at hl 2 rfl) ?_
  refine lw_ld (k := 1) C0 hL hl rfl rfl hS dL_law_312 dL_law_313 dL_law_314 rfl dL_law_315 dL_law_316 (by omega) ?_
  refine lw_ld (k := 2) C0 hL hl rfl rfl hS dL_law_317 dL_law_318 dL_law_319 rfl dL_law_320 dL_law_321 (by omega) ?_
  refine lw_callG (as := [.int (xs (i + 1)), .int (xs (i + 2))]) (rest := [.int r1]) (ci := 6) (Q' := fun r h' => r = (worthS u (xs (i + 1)) (xs (i + 2))) ∧ MAt h' u) C0 hK hN hl.1 dL_law_322 rfl la_X6_worth lb_X6_worth lc_X6_worth lf_X6_worth ⟨rfl, rfl⟩ m0 rfl (Nat.le_of_ble_eq_true rfl) (mo_worth hM hW ⟨_, rfl, rfl, hM⟩) T2 T1 d21 hS (fun r2 g2 H2 locs2 z2 T2 T1 hS => ?_)
  obtain ⟨er2, hM2⟩ := z2
  refine lv_icmp_eq (tgt := 783) hx hb dL_law_325 (by decide) (fun _ => kk _ _ _ _ _ ⟨T1, T2, hS, hC2, hM2, hW⟩) (fun z => absurd (by rw [er1, er2]) z)
theorem lk_put (F : LFix D G p s m meth c b L xs ad1 ad2) (hl : LLs ls b i ad1 ad2) (hi : i + 4 ≤ L) (I : LIn D G s ad1 ad2 H locs h1 h2 u) (kk : ∀ u2 g1 g2 H1 locs1, LIn D G s ad1 ad2 H1 locs1 g1 g2 u2 → W p l e room_1 s m #[Value.ref b] below meth c H1 locs1 600000 7302250 Qz (F0 m 783 ls [])) : W p l e room_1 s m #[Value.ref b] below meth c H locs 600000 7302250 Qz (F0 m 330 ls []) := by
  obtain ⟨C0, hL, hK, hN, d12, d21⟩ := F
  obtain ⟨T1, T2, hS, hC, hM, hW⟩ := I
  obtain ⟨hx, hb, -⟩ := id C0
  obtain ⟨kl, ks, P', r', hk, c0, -⟩ := id hC
  obtain ⟨pl, nu, rs, ry, rt, rl, w, f9, m0, -⟩ := id hM
  refine lv_aload_n hx hb dL_law_330 rfl (lv_at hl 1 rfl) ?_
  refine lw_ld (k := 1) C0 hL hl rfl rfl hS dL_law_331 dL_law_332 dL_law_333 rfl dL_law_334 dL_law_335 (by omega) ?_
  refine lw_callG (as := [.int (xs (i + 1))]) (rest := []) (ci := 5) (Q' := fun r h' => r = (putA u (xs (i + 1))) ∧ CAt h' (putN u (xs (i + 1)))) C0 hK hN hl.1 dL_law_336 rfl la_X5_put lb_X5_put lc_X5_put lf_X5_put ⟨rfl, rfl⟩ c0 rfl (by decide) (cl_put hC hW (fun h' q => ⟨_, rfl, rfl, q⟩)) T1 T2 d12 hS (fun r1 g1 H1 locs1 z1 T1 T2 hS => ?_)
  obtain ⟨er1, hC2⟩ := z1
  refine lv_aload_n hx hb dL_law_339 rfl (lv_at hl 2 rfl) ?_
  refine lw_ld (k := 1) C0 hL hl rfl rfl hS dL_law_340 dL_law_341 dL_law_342 rfl dL_law_343 dL_law_344 (by omega) ?_
  refine lw_callG (as := [.int (xs (i + 1))]) (rest := [.int r1]) (ci := 6) (Q' := fun r h' => r = (putA u (xs (i + 1))) ∧ MAt h' (putN u (xs (i + 1)))) C0 hK hN hl.1 dL_law_345 rfl la_X6_put lb_X6_put lc_X6_put lf_X6_put ⟨rfl, rfl⟩ m0 rfl (Nat.le_of_ble_eq_true rfl) (mo_put hM hW (fun h' q => ⟨_, rfl, rfl, q⟩)) T2 T1 d21 hS (fun r2 g2 H2 locs2 z2 T2 T1 hS => ?_)
  obtain ⟨er2, hM2⟩ := z2
  refine lv_icmp_eq (tgt := 783) hx hb dL_law_348 (by decide) (fun _ => kk _ _ _ _ _ ⟨T1, T2, hS, hC2, hM2, (wf_put hW)⟩) (fun z => absurd (by rw [er1, er2]) z)
theorem lk_out (F : LFix D G p s m meth c b L xs ad1 ad2) (hl : LLs ls b i ad1 ad2) (hi : i + 4 ≤ L) (I : LIn D G s ad1 ad2 H locs h1 h2 u) (kk : ∀ u2 g1 g2 H1 locs1, LIn D G s ad1 ad2 H1 locs1 g1 g2 u2 → W p l e room_1 s m #[Value.ref b] below meth c H1 locs1 600000 7302250 Qz (F0 m 783 ls [])) : W p l e room_1 s m #[Value.ref b] below meth c H locs 600000 7302250 Qz (F0 m 353 ls []) := by
  obtain ⟨C0, hL, hK, hN, d12, d21⟩ := F
  obtain ⟨T1, T2, hS, hC, hM, hW⟩ := I
  obtain ⟨hx, hb, -⟩ := id C0
  obtain ⟨kl, ks, P', r', hk, c0, -⟩ := id hC
  obtain ⟨pl, nu, rs, ry, rt, rl, w, f9, m0, -⟩ := id hM
  refine lv_aload_n hx hb dL_law_353 rfl (lv_at hl 1 rfl) ?_
  refine lw_ld (k := 1) C0 hL hl rfl rfl hS dL_law_354 dL_law_355 dL_law_356 rfl dL_law_357 dL_law_358 (by omega) ?_
  refine lw_callG (as := [.int (xs (i + 1))]) (rest := []) (ci := 5) (Q' := fun r h' => r = (outA u (xs (i + 1))) ∧ CAt h' (outN u (xs (i + 1)))) C0 hK hN hl.1 dL_law_359 rfl la_X5_out lb_X5_out lc_X5_out lf_X5_out ⟨rfl, rfl⟩ c0 rfl (by decide) (cl_out hC hW (fun h' q => ⟨_, rfl, rfl, q⟩)) T1 T2 d12 hS (fun r1 g1 H1 locs1 z1 T1 T2 hS => ?_)
  obtain ⟨er1, hC2⟩ := z1
  refine lv_aload_n hx hb dL_law_362 rfl (lv_at hl 2 rfl) ?_
  refine lw_ld (k := 1) C0 hL hl rfl rfl hS dL_law_363 dL_law_364 dL_law_365 rfl dL_law_366 dL_law_367 (by omega) ?_
  refine lw_callG (as := [.int (xs (i + 1))]) (rest := [.int r1]) (ci := 6) (Q' := fun r h' => r = (outA u (xs (i + 1))) ∧ MAt h' (outN u (xs (i + 1)))) C0 hK hN hl.1 dL_law_368 rfl la_X6_out lb_X6_out lc_X6_out lf_X6_out ⟨rfl, rfl⟩ m0 rfl (Nat.le_of_ble_eq_true rfl) (mo_out hM hW (fun h' q => ⟨_, rfl, rfl, q⟩)) T2 T1 d21 hS (fun r2 g2 H2 locs2 z2 T2 T1 hS => ?_)
  obtain ⟨er2, hM2⟩ := z2
  refine lv_icmp_eq (tgt := 783) hx hb dL_law_371 (by decide) (fun _ => kk _ _ _ _ _ ⟨T1, T2, hS, hC2, hM2, (wf_out hW)⟩) (fun z => absurd (by rw [er1, er2]) z)
theorem lk_live (F : LFix D G p s m meth c b L xs ad1 ad2) (hl : LLs ls b i ad1 ad2) (hi : i + 4 ≤ L) (I : LIn D G s ad1 ad2 H locs h1 h2 u) (kk : ∀ u2 g1 g2 H1 locs1, LIn D G s ad1 ad2 H1 locs1 g1 g2 u2 → W p l e room_1 s m #[Value.ref b] below meth c H1 locs1 600000 7302250 Qz (F0 m 783 ls [])) : W p l e room_1 s m #[Value.ref b] below meth c H locs 600000 7302250 Qz (F0 m 376 ls []) := by
  obtain ⟨C0, hL, hK, hN, d12, d21⟩ := F
  obtain ⟨T1, T2, hS, hC, hM, hW⟩ := I
  obtain ⟨hx, hb, -⟩ := id C0
  obtain ⟨kl, ks, P', r', hk, c0, -⟩ := id hC
  obtain ⟨pl, nu, rs, ry, rt, rl, w, f9, m0, -⟩ := id hM
  refine lv_aload_n hx hb dL_law_376 rfl (lv_at hl 1 rfl) ?_
  refine lw_ld (k := 1) C0 hL hl rfl rfl hS dL_law_377 dL_law_378 dL_law_379 rfl dL_law_380 dL_law_381 (by omega) ?_
  refine lw_callG (as := [.int (xs (i + 1))]) (rest := []) (ci := 5) (Q' := fun r h' => r = (liveA u (xs (i + 1))) ∧ CAt h' (liveN u (xs (i + 1)))) C0 hK hN hl.1 dL_law_382 rfl la_X5_live lb_X5_live lc_X5_live lf_X5_live ⟨rfl, rfl⟩ c0 rfl (by decide) (cl_live hC hW (fun h' q => ⟨_, rfl, rfl, q⟩)) T1 T2 d12 hS (fun r1 g1 H1 locs1 z1 T1 T2 hS => ?_)
  obtain ⟨er1, hC2⟩ := z1
  refine lv_aload_n hx hb dL_law_385 rfl (lv_at hl 2 rfl) ?_
  refine lw_ld (k := 1) C0 hL hl rfl rfl hS dL_law_386 dL_law_387 dL_law_388 rfl dL_law_389 dL_law_390 (by omega) ?_
  refine lw_callG (as := [.int (xs (i + 1))]) (rest := [.int r1]) (ci := 6) (Q' := fun r h' => r = (liveA u (xs (i + 1))) ∧ MAt h' (liveN u (xs (i + 1)))) C0 hK hN hl.1 dL_law_391 rfl la_X6_live lb_X6_live lc_X6_live lf_X6_live ⟨rfl, rfl⟩ m0 rfl (Nat.le_of_ble_eq_true rfl) (mo_live hM hW (fun h' q => ⟨_, rfl, rfl, q⟩)) T2 T1 d21 hS (fun r2 g2 H2 locs2 z2 T2 T1 hS => ?_)
  obtain ⟨er2, hM2⟩ := z2
  refine lv_icmp_eq (tgt := 783) hx hb dL_law_394 (by decide) (fun _ => kk _ _ _ _ _ ⟨T1, T2, hS, hC2, hM2, (wf_live hW)⟩) (fun z => absurd (by rw [er1, er2]) z)
theorem lk_pass (F : LFix D G p s m meth c b L xs ad1 ad2) (hl : LLs ls b i ad1 ad2) (hi : i + 4 ≤ L) (I : LIn D G s ad1 ad2 H locs h1 h2 u) (kk : ∀ u2 g1 g2 H1 locs1, LIn D G s ad1 ad2 H1 locs1 g1 g2 u2 → W p l e room_1 s m #[Value.ref b] below meth c H1 locs1 600000 7302250 Qz (F0 m 783 ls [])) : W p l e room_1 s m #[Value.ref b] below meth c H locs 600000 7302250 Qz (F0 m 399 ls []) := by
  obtain ⟨C0, hL, hK, hN, d12, d21⟩ := F
  obtain ⟨T1, T2, hS, hC, hM, hW⟩ := I
  obtain ⟨hx, hb, -⟩ := id C0
  obtain ⟨kl, ks, P', r', hk, c0, -⟩ := id hC
  obtain ⟨pl, nu, rs, ry, rt, rl, w, f9, m0, -⟩ := id hM
  refine lv_aload_n hx hb dL_law_399 rfl (lv_at hl 1 rfl) ?_
  refine lw_ld (k := 1) C0 hL hl rfl rfl hS dL_law_400 dL_law_401 dL_law_402 rfl dL_law_403 dL_law_404 (by omega) ?_
  refine lw_callG (as := [.int (xs (i + 1))]) (rest := []) (ci := 5) (Q' := fun r h' => r = (passA u (xs (i + 1))) ∧ CAt h' (passN u (xs (i + 1)))) C0 hK hN hl.1 dL_law_405 rfl la_X5_pass lb_X5_pass lc_X5_pass lf_X5_pass ⟨rfl, rfl⟩ c0 rfl (by decide) (cl_pass hC hW (fun h' q => ⟨_, rfl, rfl, q⟩)) T1 T2 d12 hS (fun r1 g1 H1 locs1 z1 T1 T2 hS => ?_)
  obtain ⟨er1, hC2⟩ := z1
  refine lv_aload_n hx hb dL_law_408 rfl (lv_at hl 2 rfl) ?_
  refine lw_ld (k := 1) C0 hL hl rfl rfl hS dL_law_409 dL_law_410 dL_law_411 rfl dL_law_412 dL_law_413 (by omega) ?_
  refine lw_callG (as := [.int (xs (i + 1))]) (rest := [.int r1]) (ci := 6) (Q' := fun r h' => r = (passA u (xs (i + 1))) ∧ MAt h' (passN u (xs (i + 1)))) C0 hK hN hl.1 dL_law_414 rfl la_X6_pass lb_X6_pass lc_X6_pass lf_X6_pass ⟨rfl, rfl⟩ m0 rfl (Nat.le_of_ble_eq_true rfl) (mo_pass hM hW (fun h' q => ⟨_, rfl, rfl, q⟩)) T2 T1 d21 hS (fun r2 g2 H2 locs2 z2 T2 T1 hS => ?_)
  obtain ⟨er2, hM2⟩ := z2
  refine lv_icmp_eq (tgt := 783) hx hb dL_law_417 (by decide) (fun _ => kk _ _ _ _ _ ⟨T1, T2, hS, hC2, hM2, (wf_pass hW)⟩) (fun z => absurd (by rw [er1, er2]) z)
theorem lk_undo (F : LFix D G p s m meth c b L xs ad1 ad2) (hl : LLs ls b i ad1 ad2) (hi : i + 4 ≤ L) (I : LIn D G s ad1 ad2 H locs h1 h2 u) (kk : ∀ u2 g1 g2 H1 locs1, LIn D G s ad1 ad2 H1 locs1 g1 g2 u2 → W p l e room_1 s m #[Value.ref b] below meth c H1 locs1 600000 7302250 Qz (F0 m 783 ls [])) : W p l e room_1 s m #[Value.ref b] below meth c H locs 600000 7302250 Qz (F0 m 422 ls []) := by
  obtain ⟨C0, hL, hK, hN, d12, d21⟩ := F
  obtain ⟨T1, T2, hS, hC, hM, hW⟩ := I
  obtain ⟨hx, hb, -⟩ := id C0
  obtain ⟨kl, ks, P', r', hk, c0, -⟩ := id hC
  obtain ⟨pl, nu, rs, ry, rt, rl, w, f9, m0, -⟩ := id hM
  refine lv_aload_n hx hb dL_law_422 rfl (lv_at hl 1 rfl) ?_
  refine lw_callG (as := []) (rest := []) (ci := 5) (Q' := fun r h' => r = (undoA u) ∧ CAt h' (undoN u)) C0 hK hN hl.1 dL_law_423 rfl la_X5_undo lb_X5_undo lc_X5_undo lf_X5_undo ⟨rfl, rfl⟩ c0 rfl (by decide) (cl_undo hC hW (fun h' q => ⟨_, rfl, rfl, q⟩)) T1 T2 d12 hS (fun r1 g1 H1 locs1 z1 T1 T2 hS => ?_)
  obtain ⟨er1, hC2⟩ := z1
  refine lv_aload_n hx hb dL_law_426 rfl (lv_at hl 2 rfl) ?_
  refine lw_callG (as := []) (rest := [.int r1]) (ci := 6) (Q' := fun r h' => r = (undoA u) ∧ MAt h' (undoN u)) C0 hK hN hl.1 dL_law_427 rfl la_X6_undo lb_X6_undo lc_X6_undo lf_X6_undo ⟨rfl, rfl⟩ m0 rfl (Nat.le_of_ble_eq_true rfl) (mo_undo hM hW (fun h' q => ⟨_, rfl, rfl, q⟩)) T2 T1 d21 hS (fun r2 g2 H2 locs2 z2 T2 T1 hS => ?_)
  obtain ⟨er2, hM2⟩ := z2
  refine lv_icmp_eq (tgt := 783) hx hb dL_law_430 (by decide) (fun _ => kk _ _ _ _ _ ⟨T1, T2, hS, hC2, hM2, (wf_undo hW)⟩) (fun z => absurd (by rw [er1, er2]) z)
theorem lk_best (F : LFix D G p s m meth c b L xs ad1 ad2) (hl : LLs ls b i ad1 ad2) (hi : i + 4 ≤ L) (I : LIn D G s ad1 ad2 H locs h1 h2 u) (kk : ∀ u2 g1 g2 H1 locs1, LIn D G s ad1 ad2 H1 locs1 g1 g2 u2 → W p l e room_1 s m #[Value.ref b] below meth c H1 locs1 600000 7302250 Qz (F0 m 783 ls [])) : W p l e room_1 s m #[Value.ref b] below meth c H locs 600000 7302250 Qz (F0 m 435 ls []) := by
  obtain ⟨C0, hL, hK, hN, d12, d21⟩ := F
  obtain ⟨T1, T2, hS, hC, hM, hW⟩ := I
  obtain ⟨hx, hb, -⟩ := id C0
  obtain ⟨kl, ks, P', r', hk, c0, -⟩ := id hC
  obtain ⟨pl, nu, rs, ry, rt, rl, w, f9, m0, -⟩ := id hM
  refine lv_aload_n hx hb dL_law_435 rfl (lv_at hl 1 rfl) ?_
  refine lw_ld (k := 1) C0 hL hl rfl rfl hS dL_law_436 dL_law_437 dL_law_438 rfl dL_law_439 dL_law_440 (by omega) ?_
  refine lw_ld (k := 2) C0 hL hl rfl rfl hS dL_law_441 dL_law_442 dL_law_443 rfl dL_law_444 dL_law_445 (by omega) ?_
  refine lw_callG (as := [.int (xs (i + 1)), .int (xs (i + 2))]) (rest := []) (ci := 5) (Q' := fun r h' => r = (bestS u (xs (i + 1)) (xs (i + 2))) ∧ CAt h' u) C0 hK hN hl.1 dL_law_446 rfl la_X5_best lb_X5_best lc_X5_best lf_X5_best ⟨rfl, rfl⟩ c0 rfl (by decide) (cl_best hC hW ⟨_, rfl, rfl, hC⟩) T1 T2 d12 hS (fun r1 g1 H1 locs1 z1 T1 T2 hS => ?_)
  obtain ⟨er1, hC2⟩ := z1
  refine lv_aload_n hx hb dL_law_449 rfl (lv_at hl 2 rfl) ?_
  refine lw_ld (k := 1) C0 hL hl rfl rfl hS dL_law_450 dL_law_451 dL_law_452 rfl dL_law_453 dL_law_454 (by omega) ?_
  refine lw_ld (k := 2) C0 hL hl rfl rfl hS dL_law_455 dL_law_456 dL_law_457 rfl dL_law_458 dL_law_459 (by omega) ?_
  refine lw_callG (as := [.int (xs (i + 1)), .int (xs (i + 2))]) (rest := [.int r1]) (ci := 6) (Q' := fun r h' => r = (bestS u (xs (i + 1)) (xs (i + 2))) ∧ MAt h' u) C0 hK hN hl.1 dL_law_460 rfl la_X6_best lb_X6_best lc_X6_best lf_X6_best ⟨rfl, rfl⟩ m0 rfl (Nat.le_of_ble_eq_true rfl) (mo_best hM hW ⟨_, rfl, rfl, hM⟩) T2 T1 d21 hS (fun r2 g2 H2 locs2 z2 T2 T1 hS => ?_)
  obtain ⟨er2, hM2⟩ := z2
  refine lv_icmp_eq (tgt := 783) hx hb dL_law_463 (by decide) (fun _ => kk _ _ _ _ _ ⟨T1, T2, hS, hC2, hM2, hW⟩) (fun z => absurd (by rw [er1, er2]) z)
theorem lk_cover (F : LFix D G p s m meth c b L xs ad1 ad2) (hl : LLs ls b i ad1 ad2) (hi : i + 4 ≤ L) (I : LIn D G s ad1 ad2 H locs h1 h2 u) (kk : ∀ u2 g1 g2 H1 locs1, LIn D G s ad1 ad2 H1 locs1 g1 g2 u2 → W p l e room_1 s m #[Value.ref b] below meth c H1 locs1 600000 7302250 Qz (F0 m 783 ls [])) : W p l e room_1 s m #[Value.ref b] below meth c H locs 600000 7302250 Qz (F0 m 468 ls []) := by
  obtain ⟨C0, hL, hK, hN, d12, d21⟩ := F
  obtain ⟨T1, T2, hS, hC, hM, hW⟩ := I
  obtain ⟨hx, hb, -⟩ := id C0
  obtain ⟨kl, ks, P', r', hk, c0, -⟩ := id hC
  obtain ⟨pl, nu, rs, ry, rt, rl, w, f9, m0, -⟩ := id hM
  refine lv_aload_n hx hb dL_law_468 rfl (lv_at hl 1 rfl) ?_
  refine lw_ld (k := 1) C0 hL hl rfl rfl hS dL_law_469 dL_law_470 dL_law_471 rfl dL_law_472 dL_law_473 (by omega) ?_
  refine lw_ld (k := 2) C0 hL hl rfl rfl hS dL_law_474 dL_law_475 dL_law_476 rfl dL_law_477 dL_law_478 (by omega) ?_
  refine lw_callG (as := [.int (xs (i + 1)), .int (xs (i + 2))]) (rest := []) (ci := 5) (Q' := fun r h' => r = (coverS u (xs (i + 1)) (xs (i + 2))) ∧ CAt h' u) C0 hK hN hl.1 dL_law_479 rfl la_X5_cover lb_X5_cover lc_X5_cover lf_X5_cover ⟨rfl, rfl⟩ c0 rfl (by decide) (cl_cover hC hW ⟨_, rfl, rfl, hC⟩) T1 T2 d12 hS (fun r1 g1 H1 locs1 z1 T1 T2 hS => ?_)
  obtain ⟨er1, hC2⟩ := z1
  refine lv_aload_n hx hb dL_law_482 rfl (lv_at hl 2 rfl) ?_
  refine lw_ld (k := 1) C0 hL hl rfl rfl hS dL_law_483 dL_law_484 dL_law_485 rfl dL_law_486 dL_law_487 (by omega) ?_
  refine lw_ld (k := 2) C0 hL hl rfl rfl hS dL_law_488 dL_law_489 dL_law_490 rfl dL_law_491 dL_law_492 (by omega) ?_
  refine lw_callG (as := [.int (xs (i + 1)), .int (xs (i + 2))]) (rest := [.int r1]) (ci := 6) (Q' := fun r h' => r = (coverS u (xs (i + 1)) (xs (i + 2))) ∧ MAt h' u) C0 hK hN hl.1 dL_law_493 rfl la_X6_cover lb_X6_cover lc_X6_cover lf_X6_cover ⟨rfl, rfl⟩ m0 rfl (Nat.le_of_ble_eq_true rfl) (mo_cover hM hW ⟨_, rfl, rfl, hM⟩) T2 T1 d21 hS (fun r2 g2 H2 locs2 z2 T2 T1 hS => ?_)
  obtain ⟨er2, hM2⟩ := z2
  refine lv_icmp_eq (tgt := 783) hx hb dL_law_496 (by decide) (fun _ => kk _ _ _ _ _ ⟨T1, T2, hS, hC2, hM2, hW⟩) (fun z => absurd (by rw [er1, er2]) z)
theorem lk_serves (F : LFix D G p s m meth c b L xs ad1 ad2) (hl : LLs ls b i ad1 ad2) (hi : i + 4 ≤ L) (I : LIn D G s ad1 ad2 H locs h1 h2 u) (kk : ∀ u2 g1 g2 H1 locs1, LIn D G s ad1 ad2 H1 locs1 g1 g2 u2 → W p l e room_1 s m #[Value.ref b] below meth c H1 locs1 600000 7302250 Qz (F0 m 783 ls [])) : W p l e room_1 s m #[Value.ref b] below meth c H locs 600000 7302250 Qz (F0 m 501 ls []) := by
  obtain ⟨C0, hL, hK, hN, d12, d21⟩ := F
  obtain ⟨T1, T2, hS, hC, hM, hW⟩ := I
  obtain ⟨hx, hb, -⟩ := id C0
  obtain ⟨kl, ks, P', r', hk, c0, -⟩ := id hC
  obtain ⟨pl, nu, rs, ry, rt, rl, w, f9, m0, -⟩ := id hM
  refine lv_aload_n hx hb dL_law_501 rfl (lv_at hl 1 rfl) ?_
  refine lw_callG (as := []) (rest := []) (ci := 5) (Q' := fun r h' => r = (servesS u) ∧ CAt h' u) C0 hK hN hl.1 dL_law_502 rfl la_X5_serves lb_X5_serves lc_X5_serves lf_X5_serves ⟨rfl, rfl⟩ c0 rfl (by decide) (cl_serves hC hW ⟨_, rfl, rfl, hC⟩) T1 T2 d12 hS (fun r1 g1 H1 locs1 z1 T1 T2 hS => ?_)
  obtain ⟨er1, hC2⟩ := z1
  refine lv_aload_n hx hb dL_law_505 rfl (lv_at hl 2 rfl) ?_
  refine lw_callG (as := []) (rest := [.int r1]) (ci := 6) (Q' := fun r h' => r = (servesS u) ∧ MAt h' u) C0 hK hN hl.1 dL_law_506 rfl la_X6_serves lb_X6_serves lc_X6_serves lf_X6_serves ⟨rfl, rfl⟩ m0 rfl (Nat.le_of_ble_eq_true rfl) (mo_serves hM hW ⟨_, rfl, rfl, hM⟩) T2 T1 d21 hS (fun r2 g2 H2 locs2 z2 T2 T1 hS => ?_)
  obtain ⟨er2, hM2⟩ := z2
  refine lv_icmp_eq (tgt := 783) hx hb dL_law_509 (by decide) (fun _ => kk _ _ _ _ _ ⟨T1, T2, hS, hC2, hM2, hW⟩) (fun z => absurd (by rw [er1, er2]) z)
theorem lk_row (F : LFix D G p s m meth c b L xs ad1 ad2) (hl : LLs ls b i ad1 ad2) (hi : i + 4 ≤ L) (I : LIn D G s ad1 ad2 H locs h1 h2 u) (kk : ∀ u2 g1 g2 H1 locs1, LIn D G s ad1 ad2 H1 locs1 g1 g2 u2 → W p l e room_1 s m #[Value.ref b] below meth c H1 locs1 600000 7302250 Qz (F0 m 783 ls [])) : W p l e room_1 s m #[Value.ref b] below meth c H locs 600000 7302250 Qz (F0 m 514 ls []) := by
  obtain ⟨C0, hL, hK, hN, d12, d21⟩ := F
  obtain ⟨T1, T2, hS, hC, hM, hW⟩ := I
  obtain ⟨hx, hb, -⟩ := id C0
  obtain ⟨kl, ks, P', r', hk, c0, -⟩ := id hC
  obtain ⟨pl, nu, rs, ry, rt, rl, w, f9, m0, -⟩ := id hM
  refine lv_aload_n hx hb dL_law_514 rfl (lv_at hl 1 rfl) ?_
  refine lw_ld (k := 1) C0 hL hl rfl rfl hS dL_law_515 dL_law_516 dL_law_517 rfl dL_law_518 dL_law_519 (by omega) ?_
  refine lw_callG (as := [.int (xs (i + 1))]) (rest := []) (ci := 5) (Q' := fun r h' => r = (rowA u (xs (i + 1))) ∧ CAt h' u) C0 hK hN hl.1 dL_law_520 rfl la_X5_row lb_X5_row lc_X5_row lf_X5_row ⟨rfl, rfl⟩ c0 rfl (by decide) (cl_row hC hW (fun h' q => ⟨_, rfl, rfl, q⟩)) T1 T2 d12 hS (fun r1 g1 H1 locs1 z1 T1 T2 hS => ?_)
  obtain ⟨er1, hC2⟩ := z1
  refine lv_aload_n hx hb dL_law_523 rfl (lv_at hl 2 rfl) ?_
  refine lw_ld (k := 1) C0 hL hl rfl rfl hS dL_law_524 dL_law_525 dL_law_526 rfl dL_law_527 dL_law_528 (by omega) ?_
  refine lw_callG (as := [.int (xs (i + 1))]) (rest := [.int r1]) (ci := 6) (Q' := fun r h' => r = (rowA u (xs (i + 1))) ∧ MAt h' u) C0 hK hN hl.1 dL_law_529 rfl la_X6_row lb_X6_row lc_X6_row lf_X6_row ⟨rfl, rfl⟩ m0 rfl (Nat.le_of_ble_eq_true rfl) (mo_row hM hW (fun h' q => ⟨_, rfl, rfl, q⟩)) T2 T1 d21 hS (fun r2 g2 H2 locs2 z2 T2 T1 hS => ?_)
  obtain ⟨er2, hM2⟩ := z2
  refine lv_icmp_eq (tgt := 783) hx hb dL_law_532 (by decide) (fun _ => kk _ _ _ _ _ ⟨T1, T2, hS, hC2, hM2, hW⟩) (fun z => absurd (by rw [er1, er2]) z)
theorem lk_bargain (F : LFix D G p s m meth c b L xs ad1 ad2) (hl : LLs ls b i ad1 ad2) (hi : i + 4 ≤ L) (I : LIn D G s ad1 ad2 H locs h1 h2 u) (kk : ∀ u2 g1 g2 H1 locs1, LIn D G s ad1 ad2 H1 locs1 g1 g2 u2 → W p l e room_1 s m #[Value.ref b] below meth c H1 locs1 600000 7302250 Qz (F0 m 783 ls [])) : W p l e room_1 s m #[Value.ref b] below meth c H locs 600000 7302250 Qz (F0 m 537 ls []) := by
  obtain ⟨C0, hL, hK, hN, d12, d21⟩ := F
  obtain ⟨T1, T2, hS, hC, hM, hW⟩ := I
  obtain ⟨hx, hb, -⟩ := id C0
  obtain ⟨kl, ks, P', r', hk, c0, -⟩ := id hC
  obtain ⟨pl, nu, rs, ry, rt, rl, w, f9, m0, -⟩ := id hM
  refine lv_aload_n hx hb dL_law_537 rfl (lv_at hl 1 rfl) ?_
  refine lw_callG (as := []) (rest := []) (ci := 5) (Q' := fun r h' => r = (bargainS u) ∧ CAt h' u) C0 hK hN hl.1 dL_law_538 rfl la_X5_bargain lb_X5_bargain lc_X5_bargain lf_X5_bargain ⟨rfl, rfl⟩ c0 rfl (by decide) (cl_bargain hC hW ⟨_, rfl, rfl, hC⟩) T1 T2 d12 hS (fun r1 g1 H1 locs1 z1 T1 T2 hS => ?_)
  obtain ⟨er1, hC2⟩ := z1
  refine lv_aload_n hx hb dL_law_541 rfl (lv_at hl 2 rfl) ?_
  refine lw_callG (as := []) (rest := [.int r1]) (ci := 6) (Q' := fun r h' => r = (bargainS u) ∧ MAt h' u) C0 hK hN hl.1 dL_law_542 rfl la_X6_bargain lb_X6_bargain lc_X6_bargain lf_X6_bargain ⟨rfl, rfl⟩ m0 rfl (Nat.le_of_ble_eq_true rfl) (mo_bargain hM hW ⟨_, rfl, rfl, hM⟩) T2 T1 d21 hS (fun r2 g2 H2 locs2 z2 T2 T1 hS => ?_)
  obtain ⟨er2, hM2⟩ := z2
  refine lv_icmp_eq (tgt := 783) hx hb dL_law_545 (by decide) (fun _ => kk _ _ _ _ _ ⟨T1, T2, hS, hC2, hM2, hW⟩) (fun z => absurd (by rw [er1, er2]) z)
theorem lk_talk (F : LFix D G p s m meth c b L xs ad1 ad2) (hl : LLs ls b i ad1 ad2) (hi : i + 4 ≤ L) (I : LIn D G s ad1 ad2 H locs h1 h2 u) (kk : ∀ u2 g1 g2 H1 locs1, LIn D G s ad1 ad2 H1 locs1 g1 g2 u2 → W p l e room_1 s m #[Value.ref b] below meth c H1 locs1 600000 7302250 Qz (F0 m 783 ls [])) : W p l e room_1 s m #[Value.ref b] below meth c H locs 600000 7302250 Qz (F0 m 550 ls []) := by
  obtain ⟨C0, hL, hK, hN, d12, d21⟩ := F
  obtain ⟨T1, T2, hS, hC, hM, hW⟩ := I
  obtain ⟨hx, hb, -⟩ := id C0
  obtain ⟨kl, ks, P', r', hk, c0, -⟩ := id hC
  obtain ⟨pl, nu, rs, ry, rt, rl, w, f9, m0, -⟩ := id hM
  refine lv_aload_n hx hb dL_law_550 rfl (lv_at hl 1 rfl) ?_
  refine lw_ld (k := 1) C0 hL hl rfl rfl hS dL_law_551 dL_law_552 dL_law_553 rfl dL_law_554 dL_law_555 (by omega) ?_
  refine lw_callG (as := [.int (xs (i + 1))]) (rest := []) (ci := 5) (Q' := fun r h' => r = (talkA u (xs (i + 1))) ∧ CAt h' u) C0 hK hN hl.1 dL_law_556 rfl la_X5_talk lb_X5_talk lc_X5_talk lf_X5_talk ⟨rfl, rfl⟩ c0 rfl (by decide) (cl_talk hC hW (fun h' q => ⟨_, rfl, rfl, q⟩)) T1 T2 d12 hS (fun r1 g1 H1 locs1 z1 T1 T2 hS => ?_)
  obtain ⟨er1, hC2⟩ := z1
  refine lv_aload_n hx hb dL_law_559 rfl (lv_at hl 2 rfl) ?_
  refine lw_ld (k := 1) C0 hL hl rfl rfl hS dL_law_560 dL_law_561 dL_law_562 rfl dL_law_563 dL_law_564 (by omega) ?_
  refine lw_callG (as := [.int (xs (i + 1))]) (rest := [.int r1]) (ci := 6) (Q' := fun r h' => r = (talkA u (xs (i + 1))) ∧ MAt h' u) C0 hK hN hl.1 dL_law_565 rfl la_X6_talk lb_X6_talk lc_X6_talk lf_X6_talk ⟨rfl, rfl⟩ m0 rfl (Nat.le_of_ble_eq_true rfl) (mo_talk hM hW (fun h' q => ⟨_, rfl, rfl, q⟩)) T2 T1 d21 hS (fun r2 g2 H2 locs2 z2 T2 T1 hS => ?_)
  obtain ⟨er2, hM2⟩ := z2
  refine lv_icmp_eq (tgt := 783) hx hb dL_law_568 (by decide) (fun _ => kk _ _ _ _ _ ⟨T1, T2, hS, hC2, hM2, hW⟩) (fun z => absurd (by rw [er1, er2]) z)
theorem lk_forget (F : LFix D G p s m meth c b L xs ad1 ad2) (hl : LLs ls b i ad1 ad2) (hi : i + 4 ≤ L) (I : LIn D G s ad1 ad2 H locs h1 h2 u) (kk : ∀ u2 g1 g2 H1 locs1, LIn D G s ad1 ad2 H1 locs1 g1 g2 u2 → W p l e room_1 s m #[Value.ref b] below meth c H1 locs1 600000 7302250 Qz (F0 m 783 ls [])) : W p l e room_1 s m #[Value.ref b] below meth c H locs 600000 7302250 Qz (F0 m 622 ls []) := by
  obtain ⟨C0, hL, hK, hN, d12, d21⟩ := F
  obtain ⟨T1, T2, hS, hC, hM, hW⟩ := I
  obtain ⟨hx, hb, -⟩ := id C0
  obtain ⟨kl, ks, P', r', hk, c0, -⟩ := id hC
  obtain ⟨pl, nu, rs, ry, rt, rl, w, f9, m0, -⟩ := id hM
  refine lv_aload_n hx hb dL_law_622 rfl (lv_at hl 1 rfl) ?_
  refine lw_callG (as := []) (rest := []) (ci := 5) (Q' := fun r h' => r = (forgetA u) ∧ CAt h' (forgetN u)) C0 hK hN hl.1 dL_law_623 rfl la_X5_forget lb_X5_forget lc_X5_forget lf_X5_forget ⟨rfl, rfl⟩ c0 rfl (by decide) (cl_forget hC hW (fun h' q => ⟨_, rfl, rfl, q⟩)) T1 T2 d12 hS (fun r1 g1 H1 locs1 z1 T1 T2 hS => ?_)
  obtain ⟨er1, hC2⟩ := z1
  refine lv_aload_n hx hb dL_law_626 rfl (lv_at hl 2 rfl) ?_
  refine lw_callG (as := []) (rest := [.int r1]) (ci := 6) (Q' := fun r h' => r = (forgetA u) ∧ MAt h' (forgetN u)) C0 hK hN hl.1 dL_law_627 rfl la_X6_forget lb_X6_forget lc_X6_forget lf_X6_forget ⟨rfl, rfl⟩ m0 rfl (Nat.le_of_ble_eq_true rfl) (mo_forget hM hW (fun h' q => ⟨_, rfl, rfl, q⟩)) T2 T1 d21 hS (fun r2 g2 H2 locs2 z2 T2 T1 hS => ?_)
  obtain ⟨er2, hM2⟩ := z2
  refine lv_icmp_eq (tgt := 783) hx hb dL_law_630 (by decide) (fun _ => kk _ _ _ _ _ ⟨T1, T2, hS, hC2, hM2, (wf_forget hW)⟩) (fun z => absurd (by rw [er1, er2]) z)
theorem lk_meant (F : LFix D G p s m meth c b L xs ad1 ad2) (hl : LLs ls b i ad1 ad2) (hi : i + 4 ≤ L) (I : LIn D G s ad1 ad2 H locs h1 h2 u) (kk : ∀ u2 g1 g2 H1 locs1, LIn D G s ad1 ad2 H1 locs1 g1 g2 u2 → W p l e room_1 s m #[Value.ref b] below meth c H1 locs1 600000 7302250 Qz (F0 m 783 ls [])) : W p l e room_1 s m #[Value.ref b] below meth c H locs 600000 7302250 Qz (F0 m 635 ls []) := by
  obtain ⟨C0, hL, hK, hN, d12, d21⟩ := F
  obtain ⟨T1, T2, hS, hC, hM, hW⟩ := I
  obtain ⟨hx, hb, -⟩ := id C0
  obtain ⟨kl, ks, P', r', hk, c0, -⟩ := id hC
  obtain ⟨pl, nu, rs, ry, rt, rl, w, f9, m0, -⟩ := id hM
  refine lv_aload_n hx hb dL_law_635 rfl (lv_at hl 1 rfl) ?_
  refine lw_callG (as := []) (rest := []) (ci := 5) (Q' := fun r h' => r = (meantS u) ∧ CAt h' u) C0 hK hN hl.1 dL_law_636 rfl la_X5_meant lb_X5_meant lc_X5_meant lf_X5_meant ⟨rfl, rfl⟩ c0 rfl (by decide) (cl_meant hC hW ⟨_, rfl, rfl, hC⟩) T1 T2 d12 hS (fun r1 g1 H1 locs1 z1 T1 T2 hS => ?_)
  obtain ⟨er1, hC2⟩ := z1
  refine lv_aload_n hx hb dL_law_639 rfl (lv_at hl 2 rfl) ?_
  refine lw_callG (as := []) (rest := [.int r1]) (ci := 6) (Q' := fun r h' => r = (meantS u) ∧ MAt h' u) C0 hK hN hl.1 dL_law_640 rfl la_X6_meant lb_X6_meant lc_X6_meant lf_X6_meant ⟨rfl, rfl⟩ m0 rfl (Nat.le_of_ble_eq_true rfl) (mo_meant hM hW ⟨_, rfl, rfl, hM⟩) T2 T1 d21 hS (fun r2 g2 H2 locs2 z2 T2 T1 hS => ?_)
  obtain ⟨er2, hM2⟩ := z2
  refine lv_icmp_eq (tgt := 783) hx hb dL_law_643 (by decide) (fun _ => kk _ _ _ _ _ ⟨T1, T2, hS, hC2, hM2, hW⟩) (fun z => absurd (by rw [er1, er2]) z)
theorem lk_moths (F : LFix D G p s m meth c b L xs ad1 ad2) (hl : LLs ls b i ad1 ad2) (hi : i + 4 ≤ L) (I : LIn D G s ad1 ad2 H locs h1 h2 u) (kk : ∀ u2 g1 g2 H1 locs1, LIn D G s ad1 ad2 H1 locs1 g1 g2 u2 → W p l e room_1 s m #[Value.ref b] below meth c H1 locs1 600000 7302250 Qz (F0 m 783 ls [])) : W p l e room_1 s m #[Value.ref b] below meth c H locs 600000 7302250 Qz (F0 m 648 ls []) := by
  obtain ⟨C0, hL, hK, hN, d12, d21⟩ := F
  obtain ⟨T1, T2, hS, hC, hM, hW⟩ := I
  obtain ⟨hx, hb, -⟩ := id C0
  obtain ⟨kl, ks, P', r', hk, c0, -⟩ := id hC
  obtain ⟨pl, nu, rs, ry, rt, rl, w, f9, m0, -⟩ := id hM
  refine lv_aload_n hx hb dL_law_648 rfl (lv_at hl 1 rfl) ?_
  refine lw_ld (k := 1) C0 hL hl rfl rfl hS dL_law_649 dL_law_650 dL_law_651 rfl dL_law_652 dL_law_653 (by omega) ?_
  refine lw_ld (k := 2) C0 hL hl rfl rfl hS dL_law_654 dL_law_655 dL_law_656 rfl dL_law_657 dL_law_658 (by omega) ?_
  refine lw_ld (k := 3) C0 hL hl rfl rfl hS dL_law_659 dL_law_660 dL_law_661 rfl dL_law_662 dL_law_663 (by omega) ?_
  refine lw_callG (as := [.int (xs (i + 1)), .int (xs (i + 2)), .int (xs (i + 3))]) (rest := []) (ci := 5) (Q' := fun r h' => r = (mothsA u (xs (i + 1)) (xs (i + 2)) (xs (i + 3))) ∧ CAt h' u) C0 hK hN hl.1 dL_law_664 rfl la_X5_moths lb_X5_moths lc_X5_moths lf_X5_moths ⟨rfl, rfl⟩ c0 rfl (by decide) (cl_moths hC hW ⟨_, rfl, rfl, hC⟩) T1 T2 d12 hS (fun r1 g1 H1 locs1 z1 T1 T2 hS => ?_)
  obtain ⟨er1, hC2⟩ := z1
  refine lv_aload_n hx hb dL_law_667 rfl (lv_at hl 2 rfl) ?_
  refine lw_ld (k := 1) C0 hL hl rfl rfl hS dL_law_668 dL_law_669 dL_law_670 rfl dL_law_671 dL_law_672 (by omega) ?_
  refine lw_ld (k := 2) C0 hL hl rfl rfl hS dL_law_673 dL_law_674 dL_law_675 rfl dL_law_676 dL_law_677 (by omega) ?_
  refine lw_ld (k := 3) C0 hL hl rfl rfl hS dL_law_678 dL_law_679 dL_law_680 rfl dL_law_681 dL_law_682 (by omega) ?_
  refine lw_callG (as := [.int (xs (i + 1)), .int (xs (i + 2)), .int (xs (i + 3))]) (rest := [.int r1]) (ci := 6) (Q' := fun r h' => r = (mothsA u (xs (i + 1)) (xs (i + 2)) (xs (i + 3))) ∧ MAt h' u) C0 hK hN hl.1 dL_law_683 rfl la_X6_moths lb_X6_moths lc_X6_moths lf_X6_moths ⟨rfl, rfl⟩ m0 rfl (Nat.le_of_ble_eq_true rfl) (mo_moths hM hW ⟨_, rfl, rfl, hM⟩) T2 T1 d21 hS (fun r2 g2 H2 locs2 z2 T2 T1 hS => ?_)
  obtain ⟨er2, hM2⟩ := z2
  refine lv_icmp_eq (tgt := 783) hx hb dL_law_686 (by decide) (fun _ => kk _ _ _ _ _ ⟨T1, T2, hS, hC2, hM2, hW⟩) (fun z => absurd (by rw [er1, er2]) z)
theorem lk_year (F : LFix D G p s m meth c b L xs ad1 ad2) (hl : LLs ls b i ad1 ad2) (hi : i + 4 ≤ L) (I : LIn D G s ad1 ad2 H locs h1 h2 u) (kk : ∀ u2 g1 g2 H1 locs1, LIn D G s ad1 ad2 H1 locs1 g1 g2 u2 → W p l e room_1 s m #[Value.ref b] below meth c H1 locs1 600000 7302250 Qz (F0 m 783 ls [])) : W p l e room_1 s m #[Value.ref b] below meth c H locs 600000 7302250 Qz (F0 m 691 ls []) := by
  obtain ⟨C0, hL, hK, hN, d12, d21⟩ := F
  obtain ⟨T1, T2, hS, hC, hM, hW⟩ := I
  obtain ⟨hx, hb, -⟩ := id C0
  obtain ⟨kl, ks, P', r', hk, c0, -⟩ := id hC
  obtain ⟨pl, nu, rs, ry, rt, rl, w, f9, m0, -⟩ := id hM
  refine lv_aload_n hx hb dL_law_691 rfl (lv_at hl 1 rfl) ?_
  refine lw_ld (k := 1) C0 hL hl rfl rfl hS dL_law_692 dL_law_693 dL_law_694 rfl dL_law_695 dL_law_696 (by omega) ?_
  refine lw_ld (k := 2) C0 hL hl rfl rfl hS dL_law_697 dL_law_698 dL_law_699 rfl dL_law_700 dL_law_701 (by omega) ?_
  refine lw_ld (k := 3) C0 hL hl rfl rfl hS dL_law_702 dL_law_703 dL_law_704 rfl dL_law_705 dL_law_706 (by omega) ?_
  refine lw_callG (as := [.int (xs (i + 1)), .int (xs (i + 2)), .int (xs (i + 3))]) (rest := []) (ci := 5) (Q' := fun r h' => r = (yearA u (xs (i + 1)) (xs (i + 2)) (xs (i + 3))) ∧ CAt h' u) C0 hK hN hl.1 dL_law_707 rfl la_X5_year lb_X5_year lc_X5_year lf_X5_year ⟨rfl, rfl⟩ c0 rfl (by decide) (cl_year hC hW (fun h' q => ⟨_, rfl, rfl, q⟩)) T1 T2 d12 hS (fun r1 g1 H1 locs1 z1 T1 T2 hS => ?_)
  obtain ⟨er1, hC2⟩ := z1
  refine lv_aload_n hx hb dL_law_710 rfl (lv_at hl 2 rfl) ?_
  refine lw_ld (k := 1) C0 hL hl rfl rfl hS dL_law_711 dL_law_712 dL_law_713 rfl dL_law_714 dL_law_715 (by omega) ?_
  refine lw_ld (k := 2) C0 hL hl rfl rfl hS dL_law_716 dL_law_717 dL_law_718 rfl dL_law_719 dL_law_720 (by omega) ?_
  refine lw_ld (k := 3) C0 hL hl rfl rfl hS dL_law_721 dL_law_722 dL_law_723 rfl dL_law_724 dL_law_725 (by omega) ?_
  refine lw_callG (as := [.int (xs (i + 1)), .int (xs (i + 2)), .int (xs (i + 3))]) (rest := [.int r1]) (ci := 6) (Q' := fun r h' => r = (yearA u (xs (i + 1)) (xs (i + 2)) (xs (i + 3))) ∧ MAt h' u) C0 hK hN hl.1 dL_law_726 rfl la_X6_year lb_X6_year lc_X6_year lf_X6_year ⟨rfl, rfl⟩ m0 rfl (Nat.le_of_ble_eq_true rfl) (mo_year hM hW (fun h' q => ⟨_, rfl, rfl, q⟩)) T2 T1 d21 hS (fun r2 g2 H2 locs2 z2 T2 T1 hS => ?_)
  obtain ⟨er2, hM2⟩ := z2
  refine lv_icmp_eq (tgt := 783) hx hb dL_law_729 (by decide) (fun _ => kk _ _ _ _ _ ⟨T1, T2, hS, hC2, hM2, hW⟩) (fun z => absurd (by rw [er1, er2]) z)
theorem lk_keep (F : LFix D G p s m meth c b L xs ad1 ad2) (hl : LLs ls b i ad1 ad2) (hi : i + 4 ≤ L) (I : LIn D G s ad1 ad2 H locs h1 h2 u) (kk : ∀ u2 g1 g2 H1 locs1, LIn D G s ad1 ad2 H1 locs1 g1 g2 u2 → W p l e room_1 s m #[Value.ref b] below meth c H1 locs1 600000 7302250 Qz (F0 m 783 ls [])) : W p l e room_1 s m #[Value.ref b] below meth c H locs 600000 7302250 Qz (F0 m 734 ls []) := by
  obtain ⟨C0, hL, hK, hN, d12, d21⟩ := F
  obtain ⟨T1, T2, hS, hC, hM, hW⟩ := I
  obtain ⟨hx, hb, -⟩ := id C0
  obtain ⟨kl, ks, P', r', hk, c0, -⟩ := id hC
  obtain ⟨pl, nu, rs, ry, rt, rl, w, f9, m0, -⟩ := id hM
  refine lv_aload_n hx hb dL_law_734 rfl (lv_at hl 1 rfl) ?_
  refine lw_callG (as := []) (rest := []) (ci := 5) (Q' := fun r h' => r = (keepA u) ∧ CAt h' (keepN u)) C0 hK hN hl.1 dL_law_735 rfl la_X5_keep lb_X5_keep lc_X5_keep lf_X5_keep ⟨rfl, rfl⟩ c0 rfl (by decide) (cl_keep hC hW (fun h' q => ⟨_, rfl, rfl, q⟩)) T1 T2 d12 hS (fun r1 g1 H1 locs1 z1 T1 T2 hS => ?_)
  obtain ⟨er1, hC2⟩ := z1
  refine lv_aload_n hx hb dL_law_738 rfl (lv_at hl 2 rfl) ?_
  refine lw_callG (as := []) (rest := [.int r1]) (ci := 6) (Q' := fun r h' => r = (keepA u) ∧ MAt h' (keepN u)) C0 hK hN hl.1 dL_law_739 rfl la_X6_keep lb_X6_keep lc_X6_keep lf_X6_keep ⟨rfl, rfl⟩ m0 rfl (Nat.le_of_ble_eq_true rfl) (mo_keep hM hW (fun h' q => ⟨_, rfl, rfl, q⟩)) T2 T1 d21 hS (fun r2 g2 H2 locs2 z2 T2 T1 hS => ?_)
  obtain ⟨er2, hM2⟩ := z2
  refine lv_icmp_eq (tgt := 783) hx hb dL_law_742 (by decide) (fun _ => kk _ _ _ _ _ ⟨T1, T2, hS, hC2, hM2, (wf_keep hW)⟩) (fun z => absurd (by rw [er1, er2]) z)
theorem lk_back (F : LFix D G p s m meth c b L xs ad1 ad2) (hl : LLs ls b i ad1 ad2) (hi : i + 4 ≤ L) (I : LIn D G s ad1 ad2 H locs h1 h2 u) (kk : ∀ u2 g1 g2 H1 locs1, LIn D G s ad1 ad2 H1 locs1 g1 g2 u2 → W p l e room_1 s m #[Value.ref b] below meth c H1 locs1 600000 7302250 Qz (F0 m 783 ls [])) : W p l e room_1 s m #[Value.ref b] below meth c H locs 600000 7302250 Qz (F0 m 747 ls []) := by
  obtain ⟨C0, hL, hK, hN, d12, d21⟩ := F
  obtain ⟨T1, T2, hS, hC, hM, hW⟩ := I
  obtain ⟨hx, hb, -⟩ := id C0
  obtain ⟨kl, ks, P', r', hk, c0, -⟩ := id hC
  obtain ⟨pl, nu, rs, ry, rt, rl, w, f9, m0, -⟩ := id hM
  refine lv_aload_n hx hb dL_law_747 rfl (lv_at hl 1 rfl) ?_
  refine lw_callG (as := []) (rest := []) (ci := 5) (Q' := fun r h' => r = (backA u) ∧ CAt h' (backN u)) C0 hK hN hl.1 dL_law_748 rfl la_X5_back lb_X5_back lc_X5_back lf_X5_back ⟨rfl, rfl⟩ c0 rfl (by decide) (cl_back hC hW (fun h' q => ⟨_, rfl, rfl, q⟩)) T1 T2 d12 hS (fun r1 g1 H1 locs1 z1 T1 T2 hS => ?_)
  obtain ⟨er1, hC2⟩ := z1
  refine lv_aload_n hx hb dL_law_751 rfl (lv_at hl 2 rfl) ?_
  refine lw_callG (as := []) (rest := [.int r1]) (ci := 6) (Q' := fun r h' => r = (backA u) ∧ MAt h' (backN u)) C0 hK hN hl.1 dL_law_752 rfl la_X6_back lb_X6_back lc_X6_back lf_X6_back ⟨rfl, rfl⟩ m0 rfl (Nat.le_of_ble_eq_true rfl) (mo_back hM hW (fun h' q => ⟨_, rfl, rfl, q⟩)) T2 T1 d21 hS (fun r2 g2 H2 locs2 z2 T2 T1 hS => ?_)
  obtain ⟨er2, hM2⟩ := z2
  refine lv_icmp_eq (tgt := 783) hx hb dL_law_755 (by decide) (fun _ => kk _ _ _ _ _ ⟨T1, T2, hS, hC2, hM2, (wf_back hW)⟩) (fun z => absurd (by rw [er1, er2]) z)
theorem lk_count (F : LFix D G p s m meth c b L xs ad1 ad2) (hl : LLs ls b i ad1 ad2) (hi : i + 4 ≤ L) (I : LIn D G s ad1 ad2 H locs h1 h2 u) (kk : ∀ u2 g1 g2 H1 locs1, LIn D G s ad1 ad2 H1 locs1 g1 g2 u2 → W p l e room_1 s m #[Value.ref b] below meth c H1 locs1 600000 7302250 Qz (F0 m 783 ls [])) : W p l e room_1 s m #[Value.ref b] below meth c H locs 600000 7302250 Qz (F0 m 760 ls []) := by
  obtain ⟨C0, hL, hK, hN, d12, d21⟩ := F
  obtain ⟨T1, T2, hS, hC, hM, hW⟩ := I
  obtain ⟨hx, hb, -⟩ := id C0
  obtain ⟨kl, ks, P', r', hk, c0, -⟩ := id hC
  obtain ⟨pl, nu, rs, ry, rt, rl, w, f9, m0, -⟩ := id hM
  refine lv_aload_n hx hb dL_law_760 rfl (lv_at hl 1 rfl) ?_
  refine lw_ld (k := 1) C0 hL hl rfl rfl hS dL_law_761 dL_law_762 dL_law_763 rfl dL_law_764 dL_law_765 (by omega) ?_
  refine lw_callG (as := [.int (xs (i + 1))]) (rest := []) (ci := 5) (Q' := fun r h' => r = (countA u (xs (i + 1))) ∧ CAt h' u) C0 hK hN hl.1 dL_law_766 rfl la_X5_count lb_X5_count lc_X5_count lf_X5_count ⟨rfl, rfl⟩ c0 rfl (by decide) (cl_count hC hW ⟨_, rfl, rfl, hC⟩) T1 T2 d12 hS (fun r1 g1 H1 locs1 z1 T1 T2 hS => ?_)
  obtain ⟨er1, hC2⟩ := z1
  refine lv_aload_n hx hb dL_law_769 rfl (lv_at hl 2 rfl) ?_
  refine lw_ld (k := 1) C0 hL hl rfl rfl hS dL_law_770 dL_law_771 dL_law_772 rfl dL_law_773 dL_law_774 (by omega) ?_
  refine lw_callG (as := [.int (xs (i + 1))]) (rest := [.int r1]) (ci := 6) (Q' := fun r h' => r = (countA u (xs (i + 1))) ∧ MAt h' u) C0 hK hN hl.1 dL_law_775 rfl la_X6_count lb_X6_count lc_X6_count lf_X6_count ⟨rfl, rfl⟩ m0 rfl (Nat.le_of_ble_eq_true rfl) (mo_count hM hW ⟨_, rfl, rfl, hM⟩) T2 T1 d21 hS (fun r2 g2 H2 locs2 z2 T2 T1 hS => ?_)
  obtain ⟨er2, hM2⟩ := z2
  refine lv_icmp_eq (tgt := 783) hx hb dL_law_778 (by decide) (fun _ => kk _ _ _ _ _ ⟨T1, T2, hS, hC2, hM2, hW⟩) (fun z => absurd (by rw [er1, er2]) z)
theorem lk_see2 {r1 : Int32} {bb : Bool} (hbb : bb = true ↔ xs (i + 2) ≠ 0) (F : LFix D G p s m meth c b L xs ad1 ad2) (hl : LLs ls b i ad1 ad2) (hi : i + 4 ≤ L) (T1 : TW D G (LA s) ad1 h1 H) (T2 : TW D G (LA s) ad2 h2 H) (hS : va_S (LA s) s.heap H locs) (er1 : r1 = seeA u (xs (i + 1)) bb) (hC2 : CAt h1 (seeN u (xs (i + 1)) bb)) (hM : MAt h2 u) (hW : WfS u) (kk : ∀ u2 g1 g2 H1 locs1, LIn D G s ad1 ad2 H1 locs1 g1 g2 u2 → W p l e room_1 s m #[Value.ref b] below meth c H1 locs1 600000 7302250 Qz (F0 m 783 ls [])) : W p l e room_1 s m #[Value.ref b] below meth c H locs 600000 7302250 Qz (F0 m 595 ls [.int r1]) := by
  obtain ⟨C0, hL, hK, hN, d12, d21⟩ := F
  obtain ⟨hx, hb, -⟩ := id C0
  obtain ⟨pl, nu, rs, ry, rt, rl, w, f9, m0, -⟩ := id hM
  have fin : W p l e room_1 s m #[Value.ref b] below meth c H locs 600000 7302250 Qz (F0 m 614 ls [.int (nI bb.toNat), .int (xs (i + 1)), .ref (ad2.getD 0 0), .int r1]) := by
    refine lw_callG (as := [.int (xs (i + 1)), .int (nI bb.toNat)]) (rest := [.int r1]) (ci := 6) (Q' := fun r h' => r = seeA u (xs (i + 1)) bb ∧ MAt h' (seeN u (xs (i + 1)) bb)) C0 hK hN hl.1 dL_law_614 rfl la_X6_see lb_X6_see lc_X6_see lf_X6_see ⟨rfl, rfl⟩ m0 rfl (Nat.le_of_ble_eq_true rfl) (mo_see hM hW (fun h' q => ⟨_, rfl, rfl, q⟩)) T2 T1 d21 hS (fun r2 g2 H2 locs2 z2 T2 T1 hS => ?_)
    obtain ⟨er2, hM2⟩ := z2
    exact lv_icmp_eq (tgt := 783) hx hb dL_law_617 (by decide) (fun _ => kk _ _ _ _ _ ⟨T1, T2, hS, hC2, hM2, wf_see hW⟩) (fun z => absurd (by rw [er1, er2]) z)
  refine lv_aload_n hx hb dL_law_595 rfl (lv_at hl 2 rfl) ?_
  refine lw_ld (k := 1) C0 hL hl rfl rfl hS dL_law_596 dL_law_597 dL_law_598 rfl dL_law_599 dL_law_600 (by omega) ?_
  refine lw_ld (k := 2) C0 hL hl rfl rfl hS dL_law_601 dL_law_602 dL_law_603 rfl dL_law_604 dL_law_605 (by omega) ?_
  refine lv_if_eq (tgt := 613) hx hb dL_law_606 (by decide) (fun z => ?_) (fun z => ?_)
  · have e : bb = false := by
      cases bb with
      | false => rfl
      | true => exact absurd z (hbb.mp rfl)
    subst e
    refine lv_iconst (v := nI false.toNat) hx hb dL_law_613 rfl ?_
    exact fin
  · have e : bb = true := hbb.mpr z
    subst e
    refine lv_iconst (v := nI true.toNat) hx hb dL_law_609 rfl ?_
    refine lv_goto (tgt := 614) hx hb dL_law_610 (by decide) ?_
    exact fin
theorem lk_see (F : LFix D G p s m meth c b L xs ad1 ad2) (hl : LLs ls b i ad1 ad2) (hi : i + 4 ≤ L) (I : LIn D G s ad1 ad2 H locs h1 h2 u) (kk : ∀ u2 g1 g2 H1 locs1, LIn D G s ad1 ad2 H1 locs1 g1 g2 u2 → W p l e room_1 s m #[Value.ref b] below meth c H1 locs1 600000 7302250 Qz (F0 m 783 ls [])) : W p l e room_1 s m #[Value.ref b] below meth c H locs 600000 7302250 Qz (F0 m 573 ls []) := by
  have F0' := F
  obtain ⟨C0, hL, hK, hN, d12, d21⟩ := F
  obtain ⟨T1, T2, hS, hC, hM, hW⟩ := I
  obtain ⟨hx, hb, -⟩ := id C0
  obtain ⟨kl, ks, P', r', hk, c0, -⟩ := id hC
  have fin : ∀ bb : Bool, (bb = true ↔ xs (i + 2) ≠ 0) → W p l e room_1 s m #[Value.ref b] below meth c H locs 600000 7302250 Qz (F0 m 592 ls [.int (nI bb.toNat), .int (xs (i + 1)), .ref (ad1.getD 0 0)]) := fun bb hbb => by
    refine lw_callG (as := [.int (xs (i + 1)), .int (nI bb.toNat)]) (rest := []) (ci := 5) (Q' := fun r h' => r = seeA u (xs (i + 1)) bb ∧ CAt h' (seeN u (xs (i + 1)) bb)) C0 hK hN hl.1 dL_law_592 rfl la_X5_see lb_X5_see lc_X5_see lf_X5_see ⟨rfl, rfl⟩ c0 rfl (by decide) (cl_see hC hW (fun h' q => ⟨_, rfl, rfl, q⟩)) T1 T2 d12 hS (fun r1 g1 H1 locs1 z1 T1 T2 hS => ?_)
    obtain ⟨er1, hC2⟩ := z1
    exact lk_see2 hbb F0' hl hi T1 T2 hS er1 hC2 hM hW kk
  refine lv_aload_n hx hb dL_law_573 rfl (lv_at hl 1 rfl) ?_
  refine lw_ld (k := 1) C0 hL hl rfl rfl hS dL_law_574 dL_law_575 dL_law_576 rfl dL_law_577 dL_law_578 (by omega) ?_
  refine lw_ld (k := 2) C0 hL hl rfl rfl hS dL_law_579 dL_law_580 dL_law_581 rfl dL_law_582 dL_law_583 (by omega) ?_
  refine lv_if_eq (tgt := 591) hx hb dL_law_584 (by decide) (fun z => ?_) (fun z => ?_)
  · refine lv_iconst (v := nI false.toNat) hx hb dL_law_591 rfl ?_
    exact fin false ⟨fun y => (by cases y), fun y => absurd z y⟩
  · refine lv_iconst (v := nI true.toNat) hx hb dL_law_587 rfl ?_
    refine lv_goto (tgt := 592) hx hb dL_law_588 (by decide) ?_
    exact fin true ⟨fun _ => z, fun _ => rfl⟩
end
