theorem nI_tb (s k : Nat) (hs : s < 2 ^ 31) (hk : k < 31) : nI s >>> (nI k &&& 31) &&& nI 1 = nI (s.testBit k).toNat := by
  sorry
theorem sp_has {s k : Nat} {h : SH} (hs : s < 2 ^ 31) (hk : k < 31) : Spc MX5_has [.int (nI s), .int (nI k)] h (fun v h' => v = some (.int (nI (s.testBit k).toNat)) ∧ h' = h) := by
  refine Spc.go VX5_has (by decide +kernel) (fun _ => Nat.le_of_ble_eq_true rfl) (fun _ => false) 40 ?_
  simp only [kX5_has_0, kX5_has_1, kX5_has_2, kX5_has_3, kX5_has_4, kX5_has_5, kX5_has_6, kX5_has_9, kX5_has_10, kX5_has_13, kX5_has_14, ex1, ex, xK, xKL, xLdI, xLdA, xLdL, xStI, xStA, xStL, xInc, xBin, xDiv, xBinL, xDivL, xLcmp, xI2l, xL2i, xI2c, xC_eq, xC_ne, xC_lt, xC_ge, xC_gt, xC_le, xZ_eq, xZ_ne, xZ_lt, xZ_ge, xZ_gt, xZ_le, xGo, xTsw, tsw, xDup, xDup2, xPop, xGf, xPfI, xPfR, xiaload, xcaload, xiastore, xcastore, xAlen, xRet, xRetZ, xRetV, xObj, xCallS, xCallV, xCallI, popN, cs, kont_some, kont_none, noL, List.getElem?_cons_zero, List.getElem?_cons_succ, List.set_cons_zero, List.set_cons_succ, List.length_cons, List.length_nil, cond_true, cond_false, Value.category, List.reverse_nil, List.reverse_cons, List.nil_append, List.cons_append, true_and, and_true, beq_self_eq_true, f_iadd, f_isub, f_imul, f_iand, f_ior, f_ixor, f_ishl, f_ishr, f_iushr, f_idiv, f_irem, f_ladd, f_lmul, f_lrem]
  trace_state
  sorry
