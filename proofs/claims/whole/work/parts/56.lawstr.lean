/-! ===== what the Statement gives of the string constant ===== -/
abbrev strT : Term := Term.string "BottomDrawer" 23
abbrev strV : Term := .field strT "java/lang/String" "value" "[B"
theorem el_ok : ∀ j, j < 133 → (flatC (Jvm.Cond.and given_1 narrow_1))[13 + j]? = some (Cond.eq (.elem strV (.int (Int32.ofNat j))) (.int (SB.getD j 0))) := by decide +kernel
theorem lw_str {b : Nat} {s : State} (hts : ∀ w ∈ lw_tbl, w.before #[Value.ref b] s = true) (hgv : (Jvm.Cond.and given_1 narrow_1).before #[Value.ref b] s = true) : ∃ q v : Nat, vk_R "BottomDrawer" 23 START q s ∧ StrF (LA s) q v s := by
  have hs := flat_of_before _ hgv
  have hA : ∀ a : Nat, a < s.heap.size → ¬ LA s a := fun a h z => absurd (Nat.lt_of_lt_of_le h z) (Nat.lt_irrefl _)
  obtain ⟨adK, adV, hV, hE⟩ := vk_Sof (args := #[Value.ref b]) (s := s) (N := 1) (tm := fun _ => strT) (len := [133]) (byt := [SB]) (A := LA s) (fun i hi => by
      have e : i = 0 := by omega
      subst e
      decide) (fun i _ => hs _ (by decide +kernel)) (fun i _ => hs _ (by decide +kernel)) (fun i _ => hs _ (by decide +kernel)) (fun i hi => by
      have e : i = 0 := by omega
      subst e
      exact hs _ (by decide +kernel)) (fun i hi j hj => by
      have e : i = 0 := by omega
      subst e
      exact hs _ (List.mem_of_getElem? (el_ok j hj))) (fun i j hi hj hne => absurd (by omega) hne) hA
  have hZ : va_Z "java/lang/String" "COMPACT_STRINGS" "Z" (.int 1) (LA s) s s.heap := va_Zof (hts _ w_cstr) (hts _ (TB_in _ w_izS)) (va_eqi (hs _ (by decide +kernel))) hA
  refine ⟨adK 0, adV 0, vk_R.of (hts _ w_stref) (hE 0 (by decide)), ⟨fun i hi => ?_, fun i j hi hj _ => by omega⟩, hZ⟩
  have e : i = 0 := by omega
  subst e
  exact hV.1 0 (by decide)
