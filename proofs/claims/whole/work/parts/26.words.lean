/-! words that the constructors and the string constant need -/
theorem w_ai : Cond.arrayClass .int ∈ TB := tbm_1 (i := 36) rfl rfl
theorem w_ac : Cond.arrayClass .char ∈ TB := tbm_1 (i := 35) rfl rfl
theorem w_clReader : Cond.classLink RX5 17 RX4 ∈ TB := tbm_1 (i := 22) rfl rfl
theorem w_inReader : Cond.instantiable RX4 2 ∈ TB := tbm_1 (i := 23) rfl rfl
theorem w_izReader : Cond.initialized RX4 ∈ TB := tbm_1 (i := 2) rfl rfl
theorem w_clPlan : Cond.classLink RX5 20 RX3 ∈ TB := tbm_1 (i := 37) rfl rfl
theorem w_inPlan : Cond.instantiable RX3 14 ∈ TB := tbm_1 (i := 38) rfl rfl
theorem w_izPlan : Cond.initialized RX3 ∈ TB := tbm_1 (i := 3) rfl rfl
theorem w_clHour : Cond.classLink RX5 35 RX1 ∈ TB := tbm_1 (i := 209) rfl rfl
theorem w_inHour : Cond.instantiable RX1 4 ∈ TB := tbm_1 (i := 210) rfl rfl
theorem w_izHour : Cond.initialized RX1 ∈ TB := tbm_1 (i := 8) rfl rfl
theorem w_clCounsel : Cond.classLink RX5 46 RX0 ∈ TB := tbm_2 (i := 3) rfl rfl
theorem w_inCounsel : Cond.instantiable RX0 2 ∈ TB := tbm_2 (i := 4) rfl rfl
theorem w_izCounsel : Cond.initialized RX0 ∈ TB := tbm_1 (i := 9) rfl rfl
theorem w_clPile : Cond.classLink RX5 67 RX2 ∈ TB := tbm_2 (i := 16) rfl rfl
theorem w_inPile : Cond.instantiable RX2 6 ∈ TB := tbm_2 (i := 17) rfl rfl
theorem w_izPile : Cond.initialized RX2 ∈ TB := tbm_1 (i := 10) rfl rfl
theorem w_mlReader : Cond.methodLink RX5 19 yX4_init ∈ TB := tbm_1 (i := 24) rfl rfl
theorem w_imReader : Cond.instanceMethod yX4_init ∈ TB := tbm_1 (i := 25) rfl rfl
theorem w_coReader : Cond.code yX4_init cX4_init 1 none ∈ TB := tbm_1 (i := 26) rfl rfl
theorem w_mlPlan : Cond.methodLink RX5 22 yX3_init ∈ TB := tbm_1 (i := 39) rfl rfl
theorem w_imPlan : Cond.instanceMethod yX3_init ∈ TB := tbm_1 (i := 40) rfl rfl
theorem w_coPlan : Cond.code yX3_init cX3_init 1 none ∈ TB := tbm_1 (i := 41) rfl rfl
theorem w_mlCounsel : Cond.methodLink RX5 48 yX0_init ∈ TB := tbm_2 (i := 5) rfl rfl
theorem w_imCounsel : Cond.instanceMethod yX0_init ∈ TB := tbm_2 (i := 6) rfl rfl
theorem w_coCounsel : Cond.code yX0_init cX0_init 1 none ∈ TB := tbm_2 (i := 7) rfl rfl
theorem w_mlPile : Cond.methodLink RX5 69 yX2_init ∈ TB := tbm_2 (i := 18) rfl rfl
theorem w_imPile : Cond.instanceMethod yX2_init ∈ TB := tbm_2 (i := 19) rfl rfl
theorem w_coPile : Cond.code yX2_init cX2_init 3 none ∈ TB := tbm_2 (i := 20) rfl rfl
theorem w_mlTc : Cond.methodLink RX5 25 yJ0_toCharArray_70df3 ∈ TB := tbm_1 (i := 107) rfl rfl
theorem w_imTc : Cond.instanceMethod yJ0_toCharArray_70df3 ∈ TB := tbm_1 (i := 108) rfl rfl
theorem w_seTc : Cond.selects RJ0 yJ0_toCharArray_70df3 yJ0_toCharArray_70df3 ∈ TB := tbm_1 (i := 109) rfl rfl
theorem w_coTc : Cond.code yJ0_toCharArray_70df3 cJ0_toCharArray_70df3 1 (some (.array .char)) ∈ TB := tbm_1 (i := 110) rfl rfl
theorem w_izS : Cond.initialized RJ0 ∈ TB := tbm_1 (i := 4) rfl rfl
theorem w_mlIl : Cond.methodLink RJ0 492 yJ0_isLatin1_aae02 ∈ TB := tbm_1 (i := 111) rfl rfl
theorem w_imIl : Cond.instanceMethod yJ0_isLatin1_aae02 ∈ TB := tbm_1 (i := 112) rfl rfl
theorem w_seIl : Cond.selects RJ0 yJ0_isLatin1_aae02 yJ0_isLatin1_aae02 ∈ TB := tbm_1 (i := 113) rfl rfl
theorem w_coIl : Cond.code yJ0_isLatin1_aae02 cJ0_isLatin1_aae02 1 (some .boolean) ∈ TB := tbm_1 (i := 114) rfl rfl
theorem w_flV : Cond.fieldLink RJ0 9 "java/lang/String" "value" "[B" ∈ TB := tbm_5 (i := 66) rfl rfl
theorem w_flC : Cond.fieldLink RJ0 15 "java/lang/String" "coder" "B" ∈ TB := tbm_5 (i := 65) rfl rfl
theorem w_flP : Cond.fieldLink RJ0 38 "java/lang/String" "COMPACT_STRINGS" "Z" ∈ TB := tbm_1 (i := 115) rfl rfl
theorem w_mlTs : Cond.methodLink RJ0 299 yJ1_toChars_9d188 ∈ TB := tbm_1 (i := 117) rfl rfl
theorem w_stTs : Cond.static yJ1_toChars_9d188 ∈ TB := tbm_1 (i := 118) rfl rfl
theorem w_coTs : Cond.code yJ1_toChars_9d188 cJ1_toChars_9d188 2 (some (.array .char)) ∈ TB := tbm_1 (i := 119) rfl rfl
theorem w_izL : Cond.initialized RJ1 ∈ TB := tbm_1 (i := 5) rfl rfl
theorem w_mlNf : Cond.methodLink RJ1 13 yJ1_inflate_03870 ∈ TB := tbm_1 (i := 120) rfl rfl
theorem w_stNf : Cond.static yJ1_inflate_03870 ∈ TB := tbm_1 (i := 121) rfl rfl
theorem w_coNf : Cond.code yJ1_inflate_03870 cJ1_inflate_03870 6 none ∈ TB := tbm_1 (i := 122) rfl rfl
