/-! ===== the words that the law uses ===== -/
theorem tbi_1 {i : Nat} {w : Cond} (h : tables_1_1[i]? = some w) : w ∈ lw_tbl := List.mem_append_right _ (List.mem_append_left _ (List.mem_of_getElem? h))
theorem tbi_2 {i : Nat} {w : Cond} (h : tables_1_2[i]? = some w) : w ∈ lw_tbl := List.mem_append_right _ (List.mem_append_right _ (List.mem_append_left _ (List.mem_of_getElem? h)))
theorem tbi_3 {i : Nat} {w : Cond} (h : tables_1_3[i]? = some w) : w ∈ lw_tbl := List.mem_append_right _ (List.mem_append_right _ (List.mem_append_right _ (List.mem_append_left _ (List.mem_of_getElem? h))))
theorem tbi_4 {i : Nat} {w : Cond} (h : tables_1_4[i]? = some w) : w ∈ lw_tbl := List.mem_append_right _ (List.mem_append_right _ (List.mem_append_right _ (List.mem_append_right _ (List.mem_append_left _ (List.mem_of_getElem? h)))))
theorem tbi_5 {i : Nat} {w : Cond} (h : tables_1_5[i]? = some w) : w ∈ lw_tbl := List.mem_append_right _ (List.mem_append_right _ (List.mem_append_right _ (List.mem_append_right _ (List.mem_append_right _ (List.mem_of_getElem? h)))))
theorem la_X5_init : Cond.methodLink R_law 9 (mY MX5_init) ∈ TB := tbm_1 (i := 16) rfl rfl
theorem lb_X5_init : Cond.instanceMethod (mY MX5_init) ∈ TB := tbm_1 (i := 17) rfl rfl
theorem ld_X5_init : Cond.code (mY MX5_init) (mC MX5_init) (mN MX5_init) (mR MX5_init) ∈ TB := tbm_1 (i := 18) rfl rfl
theorem li_X5_init : Cond.initialized (mY MX5_init).cls ∈ TB := tbm_1 (i := 1) rfl rfl
theorem lf_X5_init : CFL MX5_init 0 := ⟨li_X5_init, ld_X5_init, ⟨by decide, by decide, by decide +kernel⟩, ⟨by decide, by decide⟩⟩
theorem la_X6_init : Cond.methodLink R_law 12 (mY MX6_init) ∈ TB := tbm_3 (i := 184) rfl rfl
theorem lb_X6_init : Cond.instanceMethod (mY MX6_init) ∈ TB := tbm_3 (i := 185) rfl rfl
theorem ld_X6_init : Cond.code (mY MX6_init) (mC MX6_init) (mN MX6_init) (mR MX6_init) ∈ TB := tbm_3 (i := 186) rfl rfl
theorem li_X6_init : Cond.initialized (mY MX6_init).cls ∈ TB := tbm_1 (i := 11) rfl rfl
theorem lf_X6_init : CFL MX6_init 0 := ⟨li_X6_init, ld_X6_init, ⟨by decide, by decide, by decide +kernel⟩, ⟨by decide, by decide⟩⟩
theorem la_X5_write : Cond.methodLink R_law 13 (mY MX5_write) ∈ TB := tbm_2 (i := 82) rfl rfl
theorem lb_X5_write : Cond.instanceMethod (mY MX5_write) ∈ TB := tbm_2 (i := 83) rfl rfl
theorem lc_X5_write : Cond.selects (mY MX5_write).cls (mY MX5_write) (mY MX5_write) ∈ TB := tbm_2 (i := 84) rfl rfl
theorem ld_X5_write : Cond.code (mY MX5_write) (mC MX5_write) (mN MX5_write) (mR MX5_write) ∈ TB := tbm_2 (i := 85) rfl rfl
theorem lf_X5_write : CFL MX5_write 1 := ⟨li_X5_init, ld_X5_write, ⟨by decide, by decide, by decide +kernel⟩, ⟨by decide, by decide⟩⟩
theorem la_X6_write : Cond.methodLink R_law 17 (mY MX6_write) ∈ TB := tbm_4 (i := 61) rfl rfl
theorem lb_X6_write : Cond.instanceMethod (mY MX6_write) ∈ TB := tbm_4 (i := 62) rfl rfl
theorem lc_X6_write : Cond.selects (mY MX6_write).cls (mY MX6_write) (mY MX6_write) ∈ TB := tbm_4 (i := 63) rfl rfl
theorem ld_X6_write : Cond.code (mY MX6_write) (mC MX6_write) (mN MX6_write) (mR MX6_write) ∈ TB := tbm_4 (i := 64) rfl rfl
theorem lf_X6_write : CFL MX6_write 1 := ⟨li_X6_init, ld_X6_write, ⟨by decide, by decide, by decide +kernel⟩, ⟨by decide, by decide⟩⟩
theorem la_X5_wipe : Cond.methodLink R_law 18 (mY MX5_wipe) ∈ TB := tbm_2 (i := 86) rfl rfl
theorem lb_X5_wipe : Cond.instanceMethod (mY MX5_wipe) ∈ TB := tbm_2 (i := 87) rfl rfl
theorem lc_X5_wipe : Cond.selects (mY MX5_wipe).cls (mY MX5_wipe) (mY MX5_wipe) ∈ TB := tbm_2 (i := 88) rfl rfl
theorem ld_X5_wipe : Cond.code (mY MX5_wipe) (mC MX5_wipe) (mN MX5_wipe) (mR MX5_wipe) ∈ TB := tbm_2 (i := 89) rfl rfl
theorem lf_X5_wipe : CFL MX5_wipe 0 := ⟨li_X5_init, ld_X5_wipe, ⟨by decide, by decide, by decide +kernel⟩, ⟨by decide, by decide⟩⟩
theorem la_X6_wipe : Cond.methodLink R_law 22 (mY MX6_wipe) ∈ TB := tbm_4 (i := 70) rfl rfl
theorem lb_X6_wipe : Cond.instanceMethod (mY MX6_wipe) ∈ TB := tbm_4 (i := 71) rfl rfl
theorem lc_X6_wipe : Cond.selects (mY MX6_wipe).cls (mY MX6_wipe) (mY MX6_wipe) ∈ TB := tbm_4 (i := 72) rfl rfl
theorem ld_X6_wipe : Cond.code (mY MX6_wipe) (mC MX6_wipe) (mN MX6_wipe) (mR MX6_wipe) ∈ TB := tbm_4 (i := 73) rfl rfl
theorem lf_X6_wipe : CFL MX6_wipe 0 := ⟨li_X6_init, ld_X6_wipe, ⟨by decide, by decide, by decide +kernel⟩, ⟨by decide, by decide⟩⟩
theorem la_X5_fault : Cond.methodLink R_law 23 (mY MX5_fault) ∈ TB := tbm_2 (i := 90) rfl rfl
theorem lb_X5_fault : Cond.instanceMethod (mY MX5_fault) ∈ TB := tbm_2 (i := 91) rfl rfl
theorem lc_X5_fault : Cond.selects (mY MX5_fault).cls (mY MX5_fault) (mY MX5_fault) ∈ TB := tbm_2 (i := 92) rfl rfl
theorem ld_X5_fault : Cond.code (mY MX5_fault) (mC MX5_fault) (mN MX5_fault) (mR MX5_fault) ∈ TB := tbm_2 (i := 93) rfl rfl
theorem lf_X5_fault : CFL MX5_fault 0 := ⟨li_X5_init, ld_X5_fault, ⟨by decide, by decide, by decide +kernel⟩, ⟨by decide, by decide⟩⟩
theorem la_X6_fault : Cond.methodLink R_law 26 (mY MX6_fault) ∈ TB := tbm_4 (i := 74) rfl rfl
theorem lb_X6_fault : Cond.instanceMethod (mY MX6_fault) ∈ TB := tbm_4 (i := 75) rfl rfl
theorem lc_X6_fault : Cond.selects (mY MX6_fault).cls (mY MX6_fault) (mY MX6_fault) ∈ TB := tbm_4 (i := 76) rfl rfl
theorem ld_X6_fault : Cond.code (mY MX6_fault) (mC MX6_fault) (mN MX6_fault) (mR MX6_fault) ∈ TB := tbm_4 (i := 77) rfl rfl
theorem lf_X6_fault : CFL MX6_fault 0 := ⟨li_X6_init, ld_X6_fault, ⟨by decide, by decide, by decide +kernel⟩, ⟨by decide, by decide⟩⟩
theorem la_X5_lay : Cond.methodLink R_law 27 (mY MX5_lay) ∈ TB := tbm_2 (i := 94) rfl rfl
theorem lb_X5_lay : Cond.instanceMethod (mY MX5_lay) ∈ TB := tbm_2 (i := 95) rfl rfl
theorem lc_X5_lay : Cond.selects (mY MX5_lay).cls (mY MX5_lay) (mY MX5_lay) ∈ TB := tbm_2 (i := 96) rfl rfl
theorem ld_X5_lay : Cond.code (mY MX5_lay) (mC MX5_lay) (mN MX5_lay) (mR MX5_lay) ∈ TB := tbm_2 (i := 97) rfl rfl
theorem lf_X5_lay : CFL MX5_lay 0 := ⟨li_X5_init, ld_X5_lay, ⟨by decide, by decide, by decide +kernel⟩, ⟨by decide, by decide⟩⟩
theorem la_X6_lay : Cond.methodLink R_law 30 (mY MX6_lay) ∈ TB := tbm_4 (i := 112) rfl rfl
theorem lb_X6_lay : Cond.instanceMethod (mY MX6_lay) ∈ TB := tbm_4 (i := 113) rfl rfl
theorem lc_X6_lay : Cond.selects (mY MX6_lay).cls (mY MX6_lay) (mY MX6_lay) ∈ TB := tbm_4 (i := 114) rfl rfl
theorem ld_X6_lay : Cond.code (mY MX6_lay) (mC MX6_lay) (mN MX6_lay) (mR MX6_lay) ∈ TB := tbm_4 (i := 115) rfl rfl
theorem lf_X6_lay : CFL MX6_lay 0 := ⟨li_X6_init, ld_X6_lay, ⟨by decide, by decide, by decide +kernel⟩, ⟨by decide, by decide⟩⟩
theorem la_X5_thing : Cond.methodLink R_law 31 (mY MX5_thing) ∈ TB := tbm_2 (i := 106) rfl rfl
theorem lb_X5_thing : Cond.instanceMethod (mY MX5_thing) ∈ TB := tbm_2 (i := 107) rfl rfl
theorem lc_X5_thing : Cond.selects (mY MX5_thing).cls (mY MX5_thing) (mY MX5_thing) ∈ TB := tbm_2 (i := 108) rfl rfl
theorem ld_X5_thing : Cond.code (mY MX5_thing) (mC MX5_thing) (mN MX5_thing) (mR MX5_thing) ∈ TB := tbm_2 (i := 109) rfl rfl
theorem lf_X5_thing : CFL MX5_thing 2 := ⟨li_X5_init, ld_X5_thing, ⟨by decide, by decide, by decide +kernel⟩, ⟨by decide, by decide⟩⟩
theorem la_X6_thing : Cond.methodLink R_law 35 (mY MX6_thing) ∈ TB := tbm_4 (i := 116) rfl rfl
theorem lb_X6_thing : Cond.instanceMethod (mY MX6_thing) ∈ TB := tbm_4 (i := 117) rfl rfl
theorem lc_X6_thing : Cond.selects (mY MX6_thing).cls (mY MX6_thing) (mY MX6_thing) ∈ TB := tbm_4 (i := 118) rfl rfl
theorem ld_X6_thing : Cond.code (mY MX6_thing) (mC MX6_thing) (mN MX6_thing) (mR MX6_thing) ∈ TB := tbm_4 (i := 119) rfl rfl
theorem lf_X6_thing : CFL MX6_thing 2 := ⟨li_X6_init, ld_X6_thing, ⟨by decide, by decide, by decide +kernel⟩, ⟨by decide, by decide⟩⟩
theorem la_X5_life : Cond.methodLink R_law 36 (mY MX5_life) ∈ TB := tbm_2 (i := 137) rfl rfl
theorem lb_X5_life : Cond.instanceMethod (mY MX5_life) ∈ TB := tbm_2 (i := 138) rfl rfl
theorem lc_X5_life : Cond.selects (mY MX5_life).cls (mY MX5_life) (mY MX5_life) ∈ TB := tbm_2 (i := 139) rfl rfl
theorem ld_X5_life : Cond.code (mY MX5_life) (mC MX5_life) (mN MX5_life) (mR MX5_life) ∈ TB := tbm_2 (i := 140) rfl rfl
theorem lf_X5_life : CFL MX5_life 2 := ⟨li_X5_init, ld_X5_life, ⟨by decide, by decide, by decide +kernel⟩, ⟨by decide, by decide⟩⟩
theorem la_X6_life : Cond.methodLink R_law 39 (mY MX6_life) ∈ TB := tbm_4 (i := 139) rfl rfl
theorem lb_X6_life : Cond.instanceMethod (mY MX6_life) ∈ TB := tbm_4 (i := 140) rfl rfl
theorem lc_X6_life : Cond.selects (mY MX6_life).cls (mY MX6_life) (mY MX6_life) ∈ TB := tbm_4 (i := 141) rfl rfl
theorem ld_X6_life : Cond.code (mY MX6_life) (mC MX6_life) (mN MX6_life) (mR MX6_life) ∈ TB := tbm_4 (i := 142) rfl rfl
theorem lf_X6_life : CFL MX6_life 2 := ⟨li_X6_init, ld_X6_life, ⟨by decide, by decide, by decide +kernel⟩, ⟨by decide, by decide⟩⟩
theorem la_X5_room : Cond.methodLink R_law 40 (mY MX5_room) ∈ TB := tbm_2 (i := 146) rfl rfl
theorem lb_X5_room : Cond.instanceMethod (mY MX5_room) ∈ TB := tbm_2 (i := 147) rfl rfl
theorem lc_X5_room : Cond.selects (mY MX5_room).cls (mY MX5_room) (mY MX5_room) ∈ TB := tbm_2 (i := 148) rfl rfl
theorem ld_X5_room : Cond.code (mY MX5_room) (mC MX5_room) (mN MX5_room) (mR MX5_room) ∈ TB := tbm_2 (i := 149) rfl rfl
theorem lf_X5_room : CFL MX5_room 0 := ⟨li_X5_init, ld_X5_room, ⟨by decide, by decide, by decide +kernel⟩, ⟨by decide, by decide⟩⟩
theorem la_X6_room : Cond.methodLink R_law 43 (mY MX6_room) ∈ TB := tbm_4 (i := 154) rfl rfl
theorem lb_X6_room : Cond.instanceMethod (mY MX6_room) ∈ TB := tbm_4 (i := 155) rfl rfl
theorem lc_X6_room : Cond.selects (mY MX6_room).cls (mY MX6_room) (mY MX6_room) ∈ TB := tbm_4 (i := 156) rfl rfl
theorem ld_X6_room : Cond.code (mY MX6_room) (mC MX6_room) (mN MX6_room) (mR MX6_room) ∈ TB := tbm_4 (i := 157) rfl rfl
theorem lf_X6_room : CFL MX6_room 0 := ⟨li_X6_init, ld_X6_room, ⟨by decide, by decide, by decide +kernel⟩, ⟨by decide, by decide⟩⟩
theorem la_X5_worth : Cond.methodLink R_law 44 (mY MX5_worth) ∈ TB := tbm_2 (i := 151) rfl rfl
theorem lb_X5_worth : Cond.instanceMethod (mY MX5_worth) ∈ TB := tbm_2 (i := 152) rfl rfl
theorem lc_X5_worth : Cond.selects (mY MX5_worth).cls (mY MX5_worth) (mY MX5_worth) ∈ TB := tbm_2 (i := 153) rfl rfl
theorem ld_X5_worth : Cond.code (mY MX5_worth) (mC MX5_worth) (mN MX5_worth) (mR MX5_worth) ∈ TB := tbm_2 (i := 154) rfl rfl
theorem lf_X5_worth : CFL MX5_worth 2 := ⟨li_X5_init, ld_X5_worth, ⟨by decide, by decide, by decide +kernel⟩, ⟨by decide, by decide⟩⟩
theorem la_X6_worth : Cond.methodLink R_law 47 (mY MX6_worth) ∈ TB := tbm_4 (i := 158) rfl rfl
theorem lb_X6_worth : Cond.instanceMethod (mY MX6_worth) ∈ TB := tbm_4 (i := 159) rfl rfl
theorem lc_X6_worth : Cond.selects (mY MX6_worth).cls (mY MX6_worth) (mY MX6_worth) ∈ TB := tbm_4 (i := 160) rfl rfl
theorem ld_X6_worth : Cond.code (mY MX6_worth) (mC MX6_worth) (mN MX6_worth) (mR MX6_worth) ∈ TB := tbm_4 (i := 161) rfl rfl
theorem lf_X6_worth : CFL MX6_worth 2 := ⟨li_X6_init, ld_X6_worth, ⟨by decide, by decide, by decide +kernel⟩, ⟨by decide, by decide⟩⟩
theorem la_X5_put : Cond.methodLink R_law 48 (mY MX5_put) ∈ TB := tbm_2 (i := 181) rfl rfl
theorem lb_X5_put : Cond.instanceMethod (mY MX5_put) ∈ TB := tbm_2 (i := 182) rfl rfl
theorem lc_X5_put : Cond.selects (mY MX5_put).cls (mY MX5_put) (mY MX5_put) ∈ TB := tbm_2 (i := 183) rfl rfl
theorem ld_X5_put : Cond.code (mY MX5_put) (mC MX5_put) (mN MX5_put) (mR MX5_put) ∈ TB := tbm_2 (i := 184) rfl rfl
theorem lf_X5_put : CFL MX5_put 1 := ⟨li_X5_init, ld_X5_put, ⟨by decide, by decide, by decide +kernel⟩, ⟨by decide, by decide⟩⟩
theorem la_X6_put : Cond.methodLink R_law 51 (mY MX6_put) ∈ TB := tbm_4 (i := 182) rfl rfl
theorem lb_X6_put : Cond.instanceMethod (mY MX6_put) ∈ TB := tbm_4 (i := 183) rfl rfl
theorem lc_X6_put : Cond.selects (mY MX6_put).cls (mY MX6_put) (mY MX6_put) ∈ TB := tbm_4 (i := 184) rfl rfl
theorem ld_X6_put : Cond.code (mY MX6_put) (mC MX6_put) (mN MX6_put) (mR MX6_put) ∈ TB := tbm_4 (i := 185) rfl rfl
theorem lf_X6_put : CFL MX6_put 1 := ⟨li_X6_init, ld_X6_put, ⟨by decide, by decide, by decide +kernel⟩, ⟨by decide, by decide⟩⟩
theorem la_X5_out : Cond.methodLink R_law 52 (mY MX5_out) ∈ TB := tbm_2 (i := 203) rfl rfl
theorem lb_X5_out : Cond.instanceMethod (mY MX5_out) ∈ TB := tbm_2 (i := 204) rfl rfl
theorem lc_X5_out : Cond.selects (mY MX5_out).cls (mY MX5_out) (mY MX5_out) ∈ TB := tbm_2 (i := 205) rfl rfl
theorem ld_X5_out : Cond.code (mY MX5_out) (mC MX5_out) (mN MX5_out) (mR MX5_out) ∈ TB := tbm_2 (i := 206) rfl rfl
theorem lf_X5_out : CFL MX5_out 1 := ⟨li_X5_init, ld_X5_out, ⟨by decide, by decide, by decide +kernel⟩, ⟨by decide, by decide⟩⟩
theorem la_X6_out : Cond.methodLink R_law 55 (mY MX6_out) ∈ TB := tbm_4 (i := 198) rfl rfl
theorem lb_X6_out : Cond.instanceMethod (mY MX6_out) ∈ TB := tbm_4 (i := 199) rfl rfl
theorem lc_X6_out : Cond.selects (mY MX6_out).cls (mY MX6_out) (mY MX6_out) ∈ TB := tbm_4 (i := 200) rfl rfl
theorem ld_X6_out : Cond.code (mY MX6_out) (mC MX6_out) (mN MX6_out) (mR MX6_out) ∈ TB := tbm_4 (i := 201) rfl rfl
theorem lf_X6_out : CFL MX6_out 1 := ⟨li_X6_init, ld_X6_out, ⟨by decide, by decide, by decide +kernel⟩, ⟨by decide, by decide⟩⟩
theorem la_X5_live : Cond.methodLink R_law 56 (mY MX5_live) ∈ TB := tbm_2 (i := 211) rfl rfl
theorem lb_X5_live : Cond.instanceMethod (mY MX5_live) ∈ TB := tbm_2 (i := 212) rfl rfl
theorem lc_X5_live : Cond.selects (mY MX5_live).cls (mY MX5_live) (mY MX5_live) ∈ TB := tbm_2 (i := 213) rfl rfl
theorem ld_X5_live : Cond.code (mY MX5_live) (mC MX5_live) (mN MX5_live) (mR MX5_live) ∈ TB := tbm_2 (i := 214) rfl rfl
theorem lf_X5_live : CFL MX5_live 1 := ⟨li_X5_init, ld_X5_live, ⟨by decide, by decide, by decide +kernel⟩, ⟨by decide, by decide⟩⟩
theorem la_X6_live : Cond.methodLink R_law 59 (mY MX6_live) ∈ TB := tbm_4 (i := 202) rfl rfl
theorem lb_X6_live : Cond.instanceMethod (mY MX6_live) ∈ TB := tbm_4 (i := 203) rfl rfl
theorem lc_X6_live : Cond.selects (mY MX6_live).cls (mY MX6_live) (mY MX6_live) ∈ TB := tbm_4 (i := 204) rfl rfl
theorem ld_X6_live : Cond.code (mY MX6_live) (mC MX6_live) (mN MX6_live) (mR MX6_live) ∈ TB := tbm_4 (i := 205) rfl rfl
theorem lf_X6_live : CFL MX6_live 1 := ⟨li_X6_init, ld_X6_live, ⟨by decide, by decide, by decide +kernel⟩, ⟨by decide, by decide⟩⟩
theorem la_X5_pass : Cond.methodLink R_law 60 (mY MX5_pass) ∈ TB := tbm_2 (i := 228) rfl rfl
theorem lb_X5_pass : Cond.instanceMethod (mY MX5_pass) ∈ TB := tbm_2 (i := 229) rfl rfl
theorem lc_X5_pass : Cond.selects (mY MX5_pass).cls (mY MX5_pass) (mY MX5_pass) ∈ TB := tbm_2 (i := 230) rfl rfl
theorem ld_X5_pass : Cond.code (mY MX5_pass) (mC MX5_pass) (mN MX5_pass) (mR MX5_pass) ∈ TB := tbm_2 (i := 231) rfl rfl
theorem lf_X5_pass : CFL MX5_pass 1 := ⟨li_X5_init, ld_X5_pass, ⟨by decide, by decide, by decide +kernel⟩, ⟨by decide, by decide⟩⟩
theorem la_X6_pass : Cond.methodLink R_law 63 (mY MX6_pass) ∈ TB := tbm_4 (i := 218) rfl rfl
theorem lb_X6_pass : Cond.instanceMethod (mY MX6_pass) ∈ TB := tbm_4 (i := 219) rfl rfl
theorem lc_X6_pass : Cond.selects (mY MX6_pass).cls (mY MX6_pass) (mY MX6_pass) ∈ TB := tbm_4 (i := 220) rfl rfl
theorem ld_X6_pass : Cond.code (mY MX6_pass) (mC MX6_pass) (mN MX6_pass) (mR MX6_pass) ∈ TB := tbm_4 (i := 221) rfl rfl
theorem lf_X6_pass : CFL MX6_pass 1 := ⟨li_X6_init, ld_X6_pass, ⟨by decide, by decide, by decide +kernel⟩, ⟨by decide, by decide⟩⟩
theorem la_X5_undo : Cond.methodLink R_law 64 (mY MX5_undo) ∈ TB := tbm_3 (i := 3) rfl rfl
theorem lb_X5_undo : Cond.instanceMethod (mY MX5_undo) ∈ TB := tbm_3 (i := 4) rfl rfl
theorem lc_X5_undo : Cond.selects (mY MX5_undo).cls (mY MX5_undo) (mY MX5_undo) ∈ TB := tbm_3 (i := 5) rfl rfl
theorem ld_X5_undo : Cond.code (mY MX5_undo) (mC MX5_undo) (mN MX5_undo) (mR MX5_undo) ∈ TB := tbm_3 (i := 6) rfl rfl
theorem lf_X5_undo : CFL MX5_undo 0 := ⟨li_X5_init, ld_X5_undo, ⟨by decide, by decide, by decide +kernel⟩, ⟨by decide, by decide⟩⟩
theorem la_X6_undo : Cond.methodLink R_law 67 (mY MX6_undo) ∈ TB := tbm_4 (i := 227) rfl rfl
theorem lb_X6_undo : Cond.instanceMethod (mY MX6_undo) ∈ TB := tbm_4 (i := 228) rfl rfl
theorem lc_X6_undo : Cond.selects (mY MX6_undo).cls (mY MX6_undo) (mY MX6_undo) ∈ TB := tbm_4 (i := 229) rfl rfl
theorem ld_X6_undo : Cond.code (mY MX6_undo) (mC MX6_undo) (mN MX6_undo) (mR MX6_undo) ∈ TB := tbm_4 (i := 230) rfl rfl
theorem lf_X6_undo : CFL MX6_undo 0 := ⟨li_X6_init, ld_X6_undo, ⟨by decide, by decide, by decide +kernel⟩, ⟨by decide, by decide⟩⟩
theorem la_X5_best : Cond.methodLink R_law 68 (mY MX5_best) ∈ TB := tbm_3 (i := 11) rfl rfl
theorem lb_X5_best : Cond.instanceMethod (mY MX5_best) ∈ TB := tbm_3 (i := 12) rfl rfl
theorem lc_X5_best : Cond.selects (mY MX5_best).cls (mY MX5_best) (mY MX5_best) ∈ TB := tbm_3 (i := 13) rfl rfl
theorem ld_X5_best : Cond.code (mY MX5_best) (mC MX5_best) (mN MX5_best) (mR MX5_best) ∈ TB := tbm_3 (i := 14) rfl rfl
theorem lf_X5_best : CFL MX5_best 2 := ⟨li_X5_init, ld_X5_best, ⟨by decide, by decide, by decide +kernel⟩, ⟨by decide, by decide⟩⟩
theorem la_X6_best : Cond.methodLink R_law 71 (mY MX6_best) ∈ TB := tbm_4 (i := 231) rfl rfl
theorem lb_X6_best : Cond.instanceMethod (mY MX6_best) ∈ TB := tbm_4 (i := 232) rfl rfl
theorem lc_X6_best : Cond.selects (mY MX6_best).cls (mY MX6_best) (mY MX6_best) ∈ TB := tbm_4 (i := 233) rfl rfl
theorem ld_X6_best : Cond.code (mY MX6_best) (mC MX6_best) (mN MX6_best) (mR MX6_best) ∈ TB := tbm_4 (i := 234) rfl rfl
theorem lf_X6_best : CFL MX6_best 2 := ⟨li_X6_init, ld_X6_best, ⟨by decide, by decide, by decide +kernel⟩, ⟨by decide, by decide⟩⟩
theorem la_X5_cover : Cond.methodLink R_law 72 (mY MX5_cover) ∈ TB := tbm_3 (i := 34) rfl rfl
theorem lb_X5_cover : Cond.instanceMethod (mY MX5_cover) ∈ TB := tbm_3 (i := 35) rfl rfl
theorem lc_X5_cover : Cond.selects (mY MX5_cover).cls (mY MX5_cover) (mY MX5_cover) ∈ TB := tbm_3 (i := 36) rfl rfl
theorem ld_X5_cover : Cond.code (mY MX5_cover) (mC MX5_cover) (mN MX5_cover) (mR MX5_cover) ∈ TB := tbm_3 (i := 37) rfl rfl
theorem lf_X5_cover : CFL MX5_cover 2 := ⟨li_X5_init, ld_X5_cover, ⟨by decide, by decide, by decide +kernel⟩, ⟨by decide, by decide⟩⟩
theorem la_X6_cover : Cond.methodLink R_law 75 (mY MX6_cover) ∈ TB := tbm_5 (i := 0) rfl rfl
theorem lb_X6_cover : Cond.instanceMethod (mY MX6_cover) ∈ TB := tbm_5 (i := 1) rfl rfl
theorem lc_X6_cover : Cond.selects (mY MX6_cover).cls (mY MX6_cover) (mY MX6_cover) ∈ TB := tbm_5 (i := 2) rfl rfl
theorem ld_X6_cover : Cond.code (mY MX6_cover) (mC MX6_cover) (mN MX6_cover) (mR MX6_cover) ∈ TB := tbm_5 (i := 3) rfl rfl
theorem lf_X6_cover : CFL MX6_cover 2 := ⟨li_X6_init, ld_X6_cover, ⟨by decide, by decide, by decide +kernel⟩, ⟨by decide, by decide⟩⟩
theorem la_X5_serves : Cond.methodLink R_law 76 (mY MX5_serves) ∈ TB := tbm_3 (i := 51) rfl rfl
theorem lb_X5_serves : Cond.instanceMethod (mY MX5_serves) ∈ TB := tbm_3 (i := 52) rfl rfl
theorem lc_X5_serves : Cond.selects (mY MX5_serves).cls (mY MX5_serves) (mY MX5_serves) ∈ TB := tbm_3 (i := 53) rfl rfl
theorem ld_X5_serves : Cond.code (mY MX5_serves) (mC MX5_serves) (mN MX5_serves) (mR MX5_serves) ∈ TB := tbm_3 (i := 54) rfl rfl
theorem lf_X5_serves : CFL MX5_serves 0 := ⟨li_X5_init, ld_X5_serves, ⟨by decide, by decide, by decide +kernel⟩, ⟨by decide, by decide⟩⟩
theorem la_X6_serves : Cond.methodLink R_law 79 (mY MX6_serves) ∈ TB := tbm_5 (i := 8) rfl rfl
theorem lb_X6_serves : Cond.instanceMethod (mY MX6_serves) ∈ TB := tbm_5 (i := 9) rfl rfl
theorem lc_X6_serves : Cond.selects (mY MX6_serves).cls (mY MX6_serves) (mY MX6_serves) ∈ TB := tbm_5 (i := 10) rfl rfl
theorem ld_X6_serves : Cond.code (mY MX6_serves) (mC MX6_serves) (mN MX6_serves) (mR MX6_serves) ∈ TB := tbm_5 (i := 11) rfl rfl
theorem lf_X6_serves : CFL MX6_serves 0 := ⟨li_X6_init, ld_X6_serves, ⟨by decide, by decide, by decide +kernel⟩, ⟨by decide, by decide⟩⟩
theorem la_X5_row : Cond.methodLink R_law 80 (mY MX5_row) ∈ TB := tbm_3 (i := 60) rfl rfl
theorem lb_X5_row : Cond.instanceMethod (mY MX5_row) ∈ TB := tbm_3 (i := 61) rfl rfl
theorem lc_X5_row : Cond.selects (mY MX5_row).cls (mY MX5_row) (mY MX5_row) ∈ TB := tbm_3 (i := 62) rfl rfl
theorem ld_X5_row : Cond.code (mY MX5_row) (mC MX5_row) (mN MX5_row) (mR MX5_row) ∈ TB := tbm_3 (i := 63) rfl rfl
theorem lf_X5_row : CFL MX5_row 1 := ⟨li_X5_init, ld_X5_row, ⟨by decide, by decide, by decide +kernel⟩, ⟨by decide, by decide⟩⟩
theorem la_X6_row : Cond.methodLink R_law 83 (mY MX6_row) ∈ TB := tbm_5 (i := 13) rfl rfl
theorem lb_X6_row : Cond.instanceMethod (mY MX6_row) ∈ TB := tbm_5 (i := 14) rfl rfl
theorem lc_X6_row : Cond.selects (mY MX6_row).cls (mY MX6_row) (mY MX6_row) ∈ TB := tbm_5 (i := 15) rfl rfl
theorem ld_X6_row : Cond.code (mY MX6_row) (mC MX6_row) (mN MX6_row) (mR MX6_row) ∈ TB := tbm_5 (i := 16) rfl rfl
theorem lf_X6_row : CFL MX6_row 1 := ⟨li_X6_init, ld_X6_row, ⟨by decide, by decide, by decide +kernel⟩, ⟨by decide, by decide⟩⟩
theorem la_X5_bargain : Cond.methodLink R_law 84 (mY MX5_bargain) ∈ TB := tbm_3 (i := 90) rfl rfl
theorem lb_X5_bargain : Cond.instanceMethod (mY MX5_bargain) ∈ TB := tbm_3 (i := 91) rfl rfl
theorem lc_X5_bargain : Cond.selects (mY MX5_bargain).cls (mY MX5_bargain) (mY MX5_bargain) ∈ TB := tbm_3 (i := 92) rfl rfl
theorem ld_X5_bargain : Cond.code (mY MX5_bargain) (mC MX5_bargain) (mN MX5_bargain) (mR MX5_bargain) ∈ TB := tbm_3 (i := 93) rfl rfl
theorem lf_X5_bargain : CFL MX5_bargain 0 := ⟨li_X5_init, ld_X5_bargain, ⟨by decide, by decide, by decide +kernel⟩, ⟨by decide, by decide⟩⟩
theorem la_X6_bargain : Cond.methodLink R_law 87 (mY MX6_bargain) ∈ TB := tbm_5 (i := 22) rfl rfl
theorem lb_X6_bargain : Cond.instanceMethod (mY MX6_bargain) ∈ TB := tbm_5 (i := 23) rfl rfl
theorem lc_X6_bargain : Cond.selects (mY MX6_bargain).cls (mY MX6_bargain) (mY MX6_bargain) ∈ TB := tbm_5 (i := 24) rfl rfl
theorem ld_X6_bargain : Cond.code (mY MX6_bargain) (mC MX6_bargain) (mN MX6_bargain) (mR MX6_bargain) ∈ TB := tbm_5 (i := 25) rfl rfl
theorem lf_X6_bargain : CFL MX6_bargain 0 := ⟨li_X6_init, ld_X6_bargain, ⟨by decide, by decide, by decide +kernel⟩, ⟨by decide, by decide⟩⟩
theorem la_X5_talk : Cond.methodLink R_law 88 (mY MX5_talk) ∈ TB := tbm_3 (i := 102) rfl rfl
theorem lb_X5_talk : Cond.instanceMethod (mY MX5_talk) ∈ TB := tbm_3 (i := 103) rfl rfl
theorem lc_X5_talk : Cond.selects (mY MX5_talk).cls (mY MX5_talk) (mY MX5_talk) ∈ TB := tbm_3 (i := 104) rfl rfl
theorem ld_X5_talk : Cond.code (mY MX5_talk) (mC MX5_talk) (mN MX5_talk) (mR MX5_talk) ∈ TB := tbm_3 (i := 105) rfl rfl
theorem lf_X5_talk : CFL MX5_talk 1 := ⟨li_X5_init, ld_X5_talk, ⟨by decide, by decide, by decide +kernel⟩, ⟨by decide, by decide⟩⟩
theorem la_X6_talk : Cond.methodLink R_law 91 (mY MX6_talk) ∈ TB := tbm_5 (i := 26) rfl rfl
theorem lb_X6_talk : Cond.instanceMethod (mY MX6_talk) ∈ TB := tbm_5 (i := 27) rfl rfl
theorem lc_X6_talk : Cond.selects (mY MX6_talk).cls (mY MX6_talk) (mY MX6_talk) ∈ TB := tbm_5 (i := 28) rfl rfl
theorem ld_X6_talk : Cond.code (mY MX6_talk) (mC MX6_talk) (mN MX6_talk) (mR MX6_talk) ∈ TB := tbm_5 (i := 29) rfl rfl
theorem lf_X6_talk : CFL MX6_talk 1 := ⟨li_X6_init, ld_X6_talk, ⟨by decide, by decide, by decide +kernel⟩, ⟨by decide, by decide⟩⟩
theorem la_X5_see : Cond.methodLink R_law 92 (mY MX5_see) ∈ TB := tbm_3 (i := 122) rfl rfl
theorem lb_X5_see : Cond.instanceMethod (mY MX5_see) ∈ TB := tbm_3 (i := 123) rfl rfl
theorem lc_X5_see : Cond.selects (mY MX5_see).cls (mY MX5_see) (mY MX5_see) ∈ TB := tbm_3 (i := 124) rfl rfl
theorem ld_X5_see : Cond.code (mY MX5_see) (mC MX5_see) (mN MX5_see) (mR MX5_see) ∈ TB := tbm_3 (i := 125) rfl rfl
theorem lf_X5_see : CFL MX5_see 2 := ⟨li_X5_init, ld_X5_see, ⟨by decide, by decide, by decide +kernel⟩, ⟨by decide, by decide⟩⟩
theorem la_X6_see : Cond.methodLink R_law 96 (mY MX6_see) ∈ TB := tbm_5 (i := 30) rfl rfl
theorem lb_X6_see : Cond.instanceMethod (mY MX6_see) ∈ TB := tbm_5 (i := 31) rfl rfl
theorem lc_X6_see : Cond.selects (mY MX6_see).cls (mY MX6_see) (mY MX6_see) ∈ TB := tbm_5 (i := 32) rfl rfl
theorem ld_X6_see : Cond.code (mY MX6_see) (mC MX6_see) (mN MX6_see) (mR MX6_see) ∈ TB := tbm_5 (i := 33) rfl rfl
theorem lf_X6_see : CFL MX6_see 2 := ⟨li_X6_init, ld_X6_see, ⟨by decide, by decide, by decide +kernel⟩, ⟨by decide, by decide⟩⟩
theorem la_X5_forget : Cond.methodLink R_law 97 (mY MX5_forget) ∈ TB := tbm_3 (i := 126) rfl rfl
theorem lb_X5_forget : Cond.instanceMethod (mY MX5_forget) ∈ TB := tbm_2 (i := 103) rfl rfl
theorem lc_X5_forget : Cond.selects (mY MX5_forget).cls (mY MX5_forget) (mY MX5_forget) ∈ TB := tbm_2 (i := 104) rfl rfl
theorem ld_X5_forget : Cond.code (mY MX5_forget) (mC MX5_forget) (mN MX5_forget) (mR MX5_forget) ∈ TB := tbm_2 (i := 105) rfl rfl
theorem lf_X5_forget : CFL MX5_forget 0 := ⟨li_X5_init, ld_X5_forget, ⟨by decide, by decide, by decide +kernel⟩, ⟨by decide, by decide⟩⟩
theorem la_X6_forget : Cond.methodLink R_law 100 (mY MX6_forget) ∈ TB := tbm_5 (i := 34) rfl rfl
theorem lb_X6_forget : Cond.instanceMethod (mY MX6_forget) ∈ TB := tbm_3 (i := 201) rfl rfl
theorem lc_X6_forget : Cond.selects (mY MX6_forget).cls (mY MX6_forget) (mY MX6_forget) ∈ TB := tbm_3 (i := 202) rfl rfl
theorem ld_X6_forget : Cond.code (mY MX6_forget) (mC MX6_forget) (mN MX6_forget) (mR MX6_forget) ∈ TB := tbm_3 (i := 203) rfl rfl
theorem lf_X6_forget : CFL MX6_forget 0 := ⟨li_X6_init, ld_X6_forget, ⟨by decide, by decide, by decide +kernel⟩, ⟨by decide, by decide⟩⟩
theorem la_X5_meant : Cond.methodLink R_law 101 (mY MX5_meant) ∈ TB := tbm_3 (i := 127) rfl rfl
theorem lb_X5_meant : Cond.instanceMethod (mY MX5_meant) ∈ TB := tbm_3 (i := 128) rfl rfl
theorem lc_X5_meant : Cond.selects (mY MX5_meant).cls (mY MX5_meant) (mY MX5_meant) ∈ TB := tbm_3 (i := 129) rfl rfl
theorem ld_X5_meant : Cond.code (mY MX5_meant) (mC MX5_meant) (mN MX5_meant) (mR MX5_meant) ∈ TB := tbm_3 (i := 130) rfl rfl
theorem lf_X5_meant : CFL MX5_meant 0 := ⟨li_X5_init, ld_X5_meant, ⟨by decide, by decide, by decide +kernel⟩, ⟨by decide, by decide⟩⟩
theorem la_X6_meant : Cond.methodLink R_law 104 (mY MX6_meant) ∈ TB := tbm_5 (i := 35) rfl rfl
theorem lb_X6_meant : Cond.instanceMethod (mY MX6_meant) ∈ TB := tbm_5 (i := 36) rfl rfl
theorem lc_X6_meant : Cond.selects (mY MX6_meant).cls (mY MX6_meant) (mY MX6_meant) ∈ TB := tbm_5 (i := 37) rfl rfl
theorem ld_X6_meant : Cond.code (mY MX6_meant) (mC MX6_meant) (mN MX6_meant) (mR MX6_meant) ∈ TB := tbm_5 (i := 38) rfl rfl
theorem lf_X6_meant : CFL MX6_meant 0 := ⟨li_X6_init, ld_X6_meant, ⟨by decide, by decide, by decide +kernel⟩, ⟨by decide, by decide⟩⟩
theorem la_X5_moths : Cond.methodLink R_law 105 (mY MX5_moths) ∈ TB := tbm_3 (i := 131) rfl rfl
theorem lb_X5_moths : Cond.instanceMethod (mY MX5_moths) ∈ TB := tbm_3 (i := 132) rfl rfl
theorem lc_X5_moths : Cond.selects (mY MX5_moths).cls (mY MX5_moths) (mY MX5_moths) ∈ TB := tbm_3 (i := 133) rfl rfl
theorem ld_X5_moths : Cond.code (mY MX5_moths) (mC MX5_moths) (mN MX5_moths) (mR MX5_moths) ∈ TB := tbm_3 (i := 134) rfl rfl
theorem lf_X5_moths : CFL MX5_moths 3 := ⟨li_X5_init, ld_X5_moths, ⟨by decide, by decide, by decide +kernel⟩, ⟨by decide, by decide⟩⟩
theorem la_X6_moths : Cond.methodLink R_law 109 (mY MX6_moths) ∈ TB := tbm_5 (i := 39) rfl rfl
theorem lb_X6_moths : Cond.instanceMethod (mY MX6_moths) ∈ TB := tbm_5 (i := 40) rfl rfl
theorem lc_X6_moths : Cond.selects (mY MX6_moths).cls (mY MX6_moths) (mY MX6_moths) ∈ TB := tbm_5 (i := 41) rfl rfl
theorem ld_X6_moths : Cond.code (mY MX6_moths) (mC MX6_moths) (mN MX6_moths) (mR MX6_moths) ∈ TB := tbm_5 (i := 42) rfl rfl
theorem lf_X6_moths : CFL MX6_moths 3 := ⟨li_X6_init, ld_X6_moths, ⟨by decide, by decide, by decide +kernel⟩, ⟨by decide, by decide⟩⟩
theorem la_X5_year : Cond.methodLink R_law 110 (mY MX5_year) ∈ TB := tbm_3 (i := 142) rfl rfl
theorem lb_X5_year : Cond.instanceMethod (mY MX5_year) ∈ TB := tbm_3 (i := 143) rfl rfl
theorem lc_X5_year : Cond.selects (mY MX5_year).cls (mY MX5_year) (mY MX5_year) ∈ TB := tbm_3 (i := 144) rfl rfl
theorem ld_X5_year : Cond.code (mY MX5_year) (mC MX5_year) (mN MX5_year) (mR MX5_year) ∈ TB := tbm_3 (i := 145) rfl rfl
theorem lf_X5_year : CFL MX5_year 3 := ⟨li_X5_init, ld_X5_year, ⟨by decide, by decide, by decide +kernel⟩, ⟨by decide, by decide⟩⟩
theorem la_X6_year : Cond.methodLink R_law 113 (mY MX6_year) ∈ TB := tbm_5 (i := 44) rfl rfl
theorem lb_X6_year : Cond.instanceMethod (mY MX6_year) ∈ TB := tbm_5 (i := 45) rfl rfl
theorem lc_X6_year : Cond.selects (mY MX6_year).cls (mY MX6_year) (mY MX6_year) ∈ TB := tbm_5 (i := 46) rfl rfl
theorem ld_X6_year : Cond.code (mY MX6_year) (mC MX6_year) (mN MX6_year) (mR MX6_year) ∈ TB := tbm_5 (i := 47) rfl rfl
theorem lf_X6_year : CFL MX6_year 3 := ⟨li_X6_init, ld_X6_year, ⟨by decide, by decide, by decide +kernel⟩, ⟨by decide, by decide⟩⟩
theorem la_X5_keep : Cond.methodLink R_law 114 (mY MX5_keep) ∈ TB := tbm_3 (i := 170) rfl rfl
theorem lb_X5_keep : Cond.instanceMethod (mY MX5_keep) ∈ TB := tbm_3 (i := 171) rfl rfl
theorem lc_X5_keep : Cond.selects (mY MX5_keep).cls (mY MX5_keep) (mY MX5_keep) ∈ TB := tbm_3 (i := 172) rfl rfl
theorem ld_X5_keep : Cond.code (mY MX5_keep) (mC MX5_keep) (mN MX5_keep) (mR MX5_keep) ∈ TB := tbm_3 (i := 173) rfl rfl
theorem lf_X5_keep : CFL MX5_keep 0 := ⟨li_X5_init, ld_X5_keep, ⟨by decide, by decide, by decide +kernel⟩, ⟨by decide, by decide⟩⟩
theorem la_X6_keep : Cond.methodLink R_law 117 (mY MX6_keep) ∈ TB := tbm_5 (i := 53) rfl rfl
theorem lb_X6_keep : Cond.instanceMethod (mY MX6_keep) ∈ TB := tbm_5 (i := 54) rfl rfl
theorem lc_X6_keep : Cond.selects (mY MX6_keep).cls (mY MX6_keep) (mY MX6_keep) ∈ TB := tbm_5 (i := 55) rfl rfl
theorem ld_X6_keep : Cond.code (mY MX6_keep) (mC MX6_keep) (mN MX6_keep) (mR MX6_keep) ∈ TB := tbm_5 (i := 56) rfl rfl
theorem lf_X6_keep : CFL MX6_keep 0 := ⟨li_X6_init, ld_X6_keep, ⟨by decide, by decide, by decide +kernel⟩, ⟨by decide, by decide⟩⟩
theorem la_X5_back : Cond.methodLink R_law 118 (mY MX5_back) ∈ TB := tbm_3 (i := 174) rfl rfl
theorem lb_X5_back : Cond.instanceMethod (mY MX5_back) ∈ TB := tbm_3 (i := 175) rfl rfl
theorem lc_X5_back : Cond.selects (mY MX5_back).cls (mY MX5_back) (mY MX5_back) ∈ TB := tbm_3 (i := 176) rfl rfl
theorem ld_X5_back : Cond.code (mY MX5_back) (mC MX5_back) (mN MX5_back) (mR MX5_back) ∈ TB := tbm_3 (i := 177) rfl rfl
theorem lf_X5_back : CFL MX5_back 0 := ⟨li_X5_init, ld_X5_back, ⟨by decide, by decide, by decide +kernel⟩, ⟨by decide, by decide⟩⟩
theorem la_X6_back : Cond.methodLink R_law 121 (mY MX6_back) ∈ TB := tbm_5 (i := 57) rfl rfl
theorem lb_X6_back : Cond.instanceMethod (mY MX6_back) ∈ TB := tbm_5 (i := 58) rfl rfl
theorem lc_X6_back : Cond.selects (mY MX6_back).cls (mY MX6_back) (mY MX6_back) ∈ TB := tbm_5 (i := 59) rfl rfl
theorem ld_X6_back : Cond.code (mY MX6_back) (mC MX6_back) (mN MX6_back) (mR MX6_back) ∈ TB := tbm_5 (i := 60) rfl rfl
theorem lf_X6_back : CFL MX6_back 0 := ⟨li_X6_init, ld_X6_back, ⟨by decide, by decide, by decide +kernel⟩, ⟨by decide, by decide⟩⟩
theorem la_X5_count : Cond.methodLink R_law 122 (mY MX5_count) ∈ TB := tbm_3 (i := 178) rfl rfl
theorem lb_X5_count : Cond.instanceMethod (mY MX5_count) ∈ TB := tbm_3 (i := 179) rfl rfl
theorem lc_X5_count : Cond.selects (mY MX5_count).cls (mY MX5_count) (mY MX5_count) ∈ TB := tbm_3 (i := 180) rfl rfl
theorem ld_X5_count : Cond.code (mY MX5_count) (mC MX5_count) (mN MX5_count) (mR MX5_count) ∈ TB := tbm_3 (i := 181) rfl rfl
theorem lf_X5_count : CFL MX5_count 1 := ⟨li_X5_init, ld_X5_count, ⟨by decide, by decide, by decide +kernel⟩, ⟨by decide, by decide⟩⟩
theorem la_X6_count : Cond.methodLink R_law 125 (mY MX6_count) ∈ TB := tbm_5 (i := 61) rfl rfl
theorem lb_X6_count : Cond.instanceMethod (mY MX6_count) ∈ TB := tbm_5 (i := 62) rfl rfl
theorem lc_X6_count : Cond.selects (mY MX6_count).cls (mY MX6_count) (mY MX6_count) ∈ TB := tbm_5 (i := 63) rfl rfl
theorem ld_X6_count : Cond.code (mY MX6_count) (mC MX6_count) (mN MX6_count) (mR MX6_count) ∈ TB := tbm_5 (i := 64) rfl rfl
theorem lf_X6_count : CFL MX6_count 1 := ⟨li_X6_init, ld_X6_count, ⟨by decide, by decide, by decide +kernel⟩, ⟨by decide, by decide⟩⟩
theorem lk_X5 : Cond.classLink R_law 7 RX5 ∈ TB := tbm_1 (i := 14) rfl rfl
theorem ln_X5 : Cond.instantiable RX5 13 ∈ TB := tbm_1 (i := 15) rfl rfl
theorem lk_X6 : Cond.classLink R_law 10 RX6 ∈ TB := tbm_3 (i := 182) rfl rfl
theorem ln_X6 : Cond.instantiable RX6 32 ∈ TB := tbm_3 (i := 183) rfl rfl
theorem w_stref : Cond.stringRef "BottomDrawer" 23 START ∈ lw_tbl := tbi_1 (i := 106) rfl
theorem w_cstr : Cond.laysStatic "java/lang/String" "COMPACT_STRINGS" "Z" ∈ lw_tbl := tbi_1 (i := 116) rfl
theorem df5 : ∀ j, j < 13 → defaultValue (tyX5 j) = vp_V [.null, .int 0, .null, .null, .null, .null, .null, .null, .null, .null, .int 0, .int 0, .int 0] j := fun j hj => match j, hj with
  | 0, _ => rfl
  | 1, _ => rfl
  | 2, _ => rfl
  | 3, _ => rfl
  | 4, _ => rfl
  | 5, _ => rfl
  | 6, _ => rfl
  | 7, _ => rfl
  | 8, _ => rfl
  | 9, _ => rfl
  | 10, _ => rfl
  | 11, _ => rfl
  | 12, _ => rfl
  | n + 13, h => absurd h (by omega)
theorem df6 : ∀ j, j < 32 → defaultValue (tyX6 j) = vp_V [.null, .int 0, .int 0, .int 0, .int 0, .int 0, .null, .null, .null, .int 0, .null, .null, .null, .null, .int 0, .int 0, .int 0, .null, .int 0, .int 0, .int 0, .int 0, .int 0, .int 0, .null, .int 0, .null, .null, .null, .null, .null, .null] j := fun j hj => match j, hj with
  | 0, _ => rfl
  | 1, _ => rfl
  | 2, _ => rfl
  | 3, _ => rfl
  | 4, _ => rfl
  | 5, _ => rfl
  | 6, _ => rfl
  | 7, _ => rfl
  | 8, _ => rfl
  | 9, _ => rfl
  | 10, _ => rfl
  | 11, _ => rfl
  | 12, _ => rfl
  | 13, _ => rfl
  | 14, _ => rfl
  | 15, _ => rfl
  | 16, _ => rfl
  | 17, _ => rfl
  | 18, _ => rfl
  | 19, _ => rfl
  | 20, _ => rfl
  | 21, _ => rfl
  | 22, _ => rfl
  | 23, _ => rfl
  | 24, _ => rfl
  | 25, _ => rfl
  | 26, _ => rfl
  | 27, _ => rfl
  | 28, _ => rfl
  | 29, _ => rfl
  | 30, _ => rfl
  | 31, _ => rfl
  | n + 32, h => absurd h (by omega)
