/-! the words of the tables that the small machine uses: every good word of lw_tbl -/
def TB : List Cond := lw_tbl.filter goodWord
theorem TB_good : ∀ w ∈ TB, goodWord w = true := fun w h => (List.mem_filter.mp h).2
theorem TB_in : ∀ w ∈ TB, w ∈ lw_tbl := fun w h => (List.mem_filter.mp h).1
theorem tbm_1 {i : Nat} {w : Cond} (h : tables_1_1[i]? = some w) (g : goodWord w = true) : w ∈ TB := List.mem_filter.mpr ⟨List.mem_append_right _ (List.mem_append_left _ (List.mem_of_getElem? h)), g⟩
theorem tbm_2 {i : Nat} {w : Cond} (h : tables_1_2[i]? = some w) (g : goodWord w = true) : w ∈ TB := List.mem_filter.mpr ⟨List.mem_append_right _ (List.mem_append_right _ (List.mem_append_left _ (List.mem_of_getElem? h))), g⟩
theorem tbm_3 {i : Nat} {w : Cond} (h : tables_1_3[i]? = some w) (g : goodWord w = true) : w ∈ TB := List.mem_filter.mpr ⟨List.mem_append_right _ (List.mem_append_right _ (List.mem_append_right _ (List.mem_append_left _ (List.mem_of_getElem? h)))), g⟩
theorem tbm_4 {i : Nat} {w : Cond} (h : tables_1_4[i]? = some w) (g : goodWord w = true) : w ∈ TB := List.mem_filter.mpr ⟨List.mem_append_right _ (List.mem_append_right _ (List.mem_append_right _ (List.mem_append_right _ (List.mem_append_left _ (List.mem_of_getElem? h))))), g⟩
theorem tbm_5 {i : Nat} {w : Cond} (h : tables_1_5[i]? = some w) (g : goodWord w = true) : w ∈ TB := List.mem_filter.mpr ⟨List.mem_append_right _ (List.mem_append_right _ (List.mem_append_right _ (List.mem_append_right _ (List.mem_append_right _ (List.mem_of_getElem? h))))), g⟩
theorem tbp_1 {i : Nat} {q : MethodName × Nat} (h : lw_privs_1[i]? = some q) : Cond.selects q.1.cls q.1 q.1 ∈ TB := List.mem_filter.mpr ⟨List.mem_append_left _ (List.mem_map.mpr ⟨q, List.mem_append_left _ (List.mem_of_getElem? h), rfl⟩), rfl⟩
theorem tbp_2 {i : Nat} {q : MethodName × Nat} (h : lw_privs_2[i]? = some q) : Cond.selects q.1.cls q.1 q.1 ∈ TB := List.mem_filter.mpr ⟨List.mem_append_left _ (List.mem_map.mpr ⟨q, List.mem_append_right _ (List.mem_append_left _ (List.mem_of_getElem? h)), rfl⟩), rfl⟩
theorem tbp_3 {i : Nat} {q : MethodName × Nat} (h : lw_privs_3[i]? = some q) : Cond.selects q.1.cls q.1 q.1 ∈ TB := List.mem_filter.mpr ⟨List.mem_append_left _ (List.mem_map.mpr ⟨q, List.mem_append_right _ (List.mem_append_right _ (List.mem_of_getElem? h)), rfl⟩), rfl⟩
theorem w0 : Cond.laysFinal RX0 "BottomDrawer$Counsel" "longest" "[I" ∈ TB := tbm_2 (i := 11) rfl rfl
theorem w1 : Cond.laysFinal RX0 "BottomDrawer$Counsel" "left" "[I" ∈ TB := tbm_2 (i := 13) rfl rfl
theorem tbX0 : ∀ w ∈ u_ws RX0 TX0 2, w ∈ TB := List.forall_mem_cons.mpr ⟨w0, List.forall_mem_cons.mpr ⟨w1, fun _ h => absurd h List.not_mem_nil⟩⟩
theorem w2 : Cond.lays RX1 "BottomDrawer$Hour" "drawer" "I" ∈ TB := tbm_1 (i := 229) rfl rfl
theorem w3 : Cond.lays RX1 "BottomDrawer$Hour" "lived" "I" ∈ TB := tbm_1 (i := 231) rfl rfl
theorem w4 : Cond.lays RX1 "BottomDrawer$Hour" "coins" "I" ∈ TB := tbm_1 (i := 233) rfl rfl
theorem w5 : Cond.lays RX1 "BottomDrawer$Hour" "years" "I" ∈ TB := tbm_1 (i := 235) rfl rfl
theorem tbX1 : ∀ w ∈ u_ws RX1 TX1 4, w ∈ TB := List.forall_mem_cons.mpr ⟨w2, List.forall_mem_cons.mpr ⟨w3, List.forall_mem_cons.mpr ⟨w4, List.forall_mem_cons.mpr ⟨w5, fun _ h => absurd h List.not_mem_nil⟩⟩⟩⟩
theorem w6 : Cond.lays RX2 "BottomDrawer$Pile" "height" "I" ∈ TB := tbm_2 (i := 29) rfl rfl
theorem w7 : Cond.laysFinal RX2 "BottomDrawer$Pile" "limit" "I" ∈ TB := tbm_2 (i := 31) rfl rfl
theorem w8 : Cond.laysFinal RX2 "BottomDrawer$Pile" "drawers" "[I" ∈ TB := tbm_2 (i := 33) rfl rfl
theorem w9 : Cond.laysFinal RX2 "BottomDrawer$Pile" "lived" "[I" ∈ TB := tbm_2 (i := 35) rfl rfl
theorem w10 : Cond.laysFinal RX2 "BottomDrawer$Pile" "coins" "[I" ∈ TB := tbm_2 (i := 37) rfl rfl
theorem w11 : Cond.laysFinal RX2 "BottomDrawer$Pile" "years" "[I" ∈ TB := tbm_2 (i := 39) rfl rfl
theorem tbX2 : ∀ w ∈ u_ws RX2 TX2 6, w ∈ TB := List.forall_mem_cons.mpr ⟨w6, List.forall_mem_cons.mpr ⟨w7, List.forall_mem_cons.mpr ⟨w8, List.forall_mem_cons.mpr ⟨w9, List.forall_mem_cons.mpr ⟨w10, List.forall_mem_cons.mpr ⟨w11, fun _ h => absurd h List.not_mem_nil⟩⟩⟩⟩⟩⟩
theorem w12 : Cond.lays RX3 "BottomDrawer$Plan" "room" "I" ∈ TB := tbm_1 (i := 77) rfl rfl
theorem w13 : Cond.lays RX3 "BottomDrawer$Plan" "allowance" "I" ∈ TB := tbm_1 (i := 79) rfl rfl
theorem w14 : Cond.lays RX3 "BottomDrawer$Plan" "things" "I" ∈ TB := tbm_1 (i := 81) rfl rfl
theorem w15 : Cond.lays RX3 "BottomDrawer$Plan" "lives" "I" ∈ TB := tbm_1 (i := 83) rfl rfl
theorem w16 : Cond.lays RX3 "BottomDrawer$Plan" "flannel" "I" ∈ TB := tbm_1 (i := 85) rfl rfl
theorem w17 : Cond.lays RX3 "BottomDrawer$Plan" "linen" "I" ∈ TB := tbm_1 (i := 87) rfl rfl
theorem w18 : Cond.lays RX3 "BottomDrawer$Plan" "folding" "I" ∈ TB := tbm_1 (i := 89) rfl rfl
theorem w19 : Cond.laysFinal RX3 "BottomDrawer$Plan" "kinds" "[I" ∈ TB := tbm_1 (i := 91) rfl rfl
theorem w20 : Cond.laysFinal RX3 "BottomDrawer$Plan" "sizes" "[I" ∈ TB := tbm_1 (i := 93) rfl rfl
theorem w21 : Cond.laysFinal RX3 "BottomDrawer$Plan" "costs" "[I" ∈ TB := tbm_1 (i := 95) rfl rfl
theorem w22 : Cond.laysFinal RX3 "BottomDrawer$Plan" "chances" "[I" ∈ TB := tbm_1 (i := 97) rfl rfl
theorem w23 : Cond.laysFinal RX3 "BottomDrawer$Plan" "hers" "[I" ∈ TB := tbm_1 (i := 99) rfl rfl
theorem w24 : Cond.laysFinal RX3 "BottomDrawer$Plan" "his" "[I" ∈ TB := tbm_1 (i := 101) rfl rfl
theorem w25 : Cond.laysFinal RX3 "BottomDrawer$Plan" "needs" "[I" ∈ TB := tbm_1 (i := 103) rfl rfl
theorem tbX3 : ∀ w ∈ u_ws RX3 TX3 14, w ∈ TB := List.forall_mem_cons.mpr ⟨w12, List.forall_mem_cons.mpr ⟨w13, List.forall_mem_cons.mpr ⟨w14, List.forall_mem_cons.mpr ⟨w15, List.forall_mem_cons.mpr ⟨w16, List.forall_mem_cons.mpr ⟨w17, List.forall_mem_cons.mpr ⟨w18, List.forall_mem_cons.mpr ⟨w19, List.forall_mem_cons.mpr ⟨w20, List.forall_mem_cons.mpr ⟨w21, List.forall_mem_cons.mpr ⟨w22, List.forall_mem_cons.mpr ⟨w23, List.forall_mem_cons.mpr ⟨w24, List.forall_mem_cons.mpr ⟨w25, fun _ h => absurd h List.not_mem_nil⟩⟩⟩⟩⟩⟩⟩⟩⟩⟩⟩⟩⟩⟩
theorem w26 : Cond.laysFinal RX4 "BottomDrawer$Reader" "numbers" "[I" ∈ TB := tbm_1 (i := 30) rfl rfl
theorem w27 : Cond.lays RX4 "BottomDrawer$Reader" "amount" "I" ∈ TB := tbm_1 (i := 32) rfl rfl
theorem tbX4 : ∀ w ∈ u_ws RX4 TX4 2, w ∈ TB := List.forall_mem_cons.mpr ⟨w26, List.forall_mem_cons.mpr ⟨w27, fun _ h => absurd h List.not_mem_nil⟩⟩
theorem w28 : Cond.laysFinal RX5 "BottomDrawer" "text" "[C" ∈ TB := tbm_2 (i := 55) rfl rfl
theorem w29 : Cond.lays RX5 "BottomDrawer" "length" "I" ∈ TB := tbm_2 (i := 57) rfl rfl
theorem w30 : Cond.laysFinal RX5 "BottomDrawer" "reader" "LBottomDrawer$Reader;" ∈ TB := tbm_2 (i := 59) rfl rfl
theorem w31 : Cond.laysFinal RX5 "BottomDrawer" "counsel" "LBottomDrawer$Counsel;" ∈ TB := tbm_2 (i := 61) rfl rfl
theorem w32 : Cond.lays RX5 "BottomDrawer" "laid" "LBottomDrawer$Plan;" ∈ TB := tbm_2 (i := 63) rfl rfl
theorem w33 : Cond.lays RX5 "BottomDrawer" "spare" "LBottomDrawer$Plan;" ∈ TB := tbm_2 (i := 65) rfl rfl
theorem w34 : Cond.laysFinal RX5 "BottomDrawer" "now" "LBottomDrawer$Hour;" ∈ TB := tbm_2 (i := 67) rfl rfl
theorem w35 : Cond.laysFinal RX5 "BottomDrawer" "then" "LBottomDrawer$Hour;" ∈ TB := tbm_2 (i := 69) rfl rfl
theorem w36 : Cond.laysFinal RX5 "BottomDrawer" "past" "LBottomDrawer$Pile;" ∈ TB := tbm_2 (i := 71) rfl rfl
theorem w37 : Cond.laysFinal RX5 "BottomDrawer" "kept" "LBottomDrawer$Pile;" ∈ TB := tbm_2 (i := 73) rfl rfl
theorem w38 : Cond.lays RX5 "BottomDrawer" "seen" "I" ∈ TB := tbm_2 (i := 75) rfl rfl
theorem w39 : Cond.lays RX5 "BottomDrawer" "seenToBe" "I" ∈ TB := tbm_2 (i := 77) rfl rfl
theorem w40 : Cond.lays RX5 "BottomDrawer" "seenNotToBe" "I" ∈ TB := tbm_2 (i := 79) rfl rfl
theorem tbX5 : ∀ w ∈ u_ws RX5 TX5 13, w ∈ TB := List.forall_mem_cons.mpr ⟨w28, List.forall_mem_cons.mpr ⟨w29, List.forall_mem_cons.mpr ⟨w30, List.forall_mem_cons.mpr ⟨w31, List.forall_mem_cons.mpr ⟨w32, List.forall_mem_cons.mpr ⟨w33, List.forall_mem_cons.mpr ⟨w34, List.forall_mem_cons.mpr ⟨w35, List.forall_mem_cons.mpr ⟨w36, List.forall_mem_cons.mpr ⟨w37, List.forall_mem_cons.mpr ⟨w38, List.forall_mem_cons.mpr ⟨w39, List.forall_mem_cons.mpr ⟨w40, fun _ h => absurd h List.not_mem_nil⟩⟩⟩⟩⟩⟩⟩⟩⟩⟩⟩⟩⟩
theorem w41 : Cond.laysFinal RX6 "BottomDrawerModel" "w" "[I" ∈ TB := tbm_3 (i := 236) rfl rfl
theorem w42 : Cond.lays RX6 "BottomDrawerModel" "undoes" "I" ∈ TB := tbm_3 (i := 238) rfl rfl
theorem w43 : Cond.lays RX6 "BottomDrawerModel" "kept" "I" ∈ TB := tbm_4 (i := 0) rfl rfl
theorem w44 : Cond.lays RX6 "BottomDrawerModel" "space" "I" ∈ TB := tbm_4 (i := 2) rfl rfl
theorem w45 : Cond.lays RX6 "BottomDrawerModel" "yearly" "I" ∈ TB := tbm_4 (i := 4) rfl rfl
theorem w46 : Cond.lays RX6 "BottomDrawerModel" "things" "I" ∈ TB := tbm_4 (i := 6) rfl rfl
theorem w47 : Cond.laysFinal RX6 "BottomDrawerModel" "kind" "[I" ∈ TB := tbm_4 (i := 8) rfl rfl
theorem w48 : Cond.laysFinal RX6 "BottomDrawerModel" "takes" "[I" ∈ TB := tbm_4 (i := 10) rfl rfl
theorem w49 : Cond.laysFinal RX6 "BottomDrawerModel" "costs" "[I" ∈ TB := tbm_4 (i := 12) rfl rfl
theorem w50 : Cond.lays RX6 "BottomDrawerModel" "lives" "I" ∈ TB := tbm_4 (i := 14) rfl rfl
theorem w51 : Cond.laysFinal RX6 "BottomDrawerModel" "likely" "[I" ∈ TB := tbm_4 (i := 16) rfl rfl
theorem w52 : Cond.laysFinal RX6 "BottomDrawerModel" "toHer" "[I" ∈ TB := tbm_4 (i := 18) rfl rfl
theorem w53 : Cond.laysFinal RX6 "BottomDrawerModel" "toHim" "[I" ∈ TB := tbm_4 (i := 20) rfl rfl
theorem w54 : Cond.laysFinal RX6 "BottomDrawerModel" "needs" "[I" ∈ TB := tbm_4 (i := 22) rfl rfl
theorem w55 : Cond.lays RX6 "BottomDrawerModel" "seenAs" "I" ∈ TB := tbm_4 (i := 24) rfl rfl
theorem w56 : Cond.lays RX6 "BottomDrawerModel" "seenNot" "I" ∈ TB := tbm_4 (i := 26) rfl rfl
theorem w57 : Cond.lays RX6 "BottomDrawerModel" "seen" "I" ∈ TB := tbm_4 (i := 28) rfl rfl
theorem w58 : Cond.laysFinal RX6 "BottomDrawerModel" "text" "[I" ∈ TB := tbm_4 (i := 30) rfl rfl
theorem w59 : Cond.lays RX6 "BottomDrawerModel" "texted" "I" ∈ TB := tbm_4 (i := 32) rfl rfl
theorem w60 : Cond.lays RX6 "BottomDrawerModel" "place" "I" ∈ TB := tbm_4 (i := 34) rfl rfl
theorem w61 : Cond.lays RX6 "BottomDrawerModel" "number" "I" ∈ TB := tbm_4 (i := 36) rfl rfl
theorem w62 : Cond.lays RX6 "BottomDrawerModel" "readSpace" "I" ∈ TB := tbm_4 (i := 38) rfl rfl
theorem w63 : Cond.lays RX6 "BottomDrawerModel" "readYearly" "I" ∈ TB := tbm_4 (i := 40) rfl rfl
theorem w64 : Cond.lays RX6 "BottomDrawerModel" "readThings" "I" ∈ TB := tbm_4 (i := 42) rfl rfl
theorem w65 : Cond.laysFinal RX6 "BottomDrawerModel" "readThing" "[I" ∈ TB := tbm_4 (i := 44) rfl rfl
theorem w66 : Cond.lays RX6 "BottomDrawerModel" "readLives" "I" ∈ TB := tbm_4 (i := 46) rfl rfl
theorem w67 : Cond.laysFinal RX6 "BottomDrawerModel" "readLife" "[I" ∈ TB := tbm_4 (i := 48) rfl rfl
theorem w68 : Cond.laysFinal RX6 "BottomDrawerModel" "readNeeds" "[I" ∈ TB := tbm_4 (i := 50) rfl rfl
theorem w69 : Cond.laysFinal RX6 "BottomDrawerModel" "tried" "[I" ∈ TB := tbm_4 (i := 52) rfl rfl
theorem w70 : Cond.laysFinal RX6 "BottomDrawerModel" "bestRow" "[I" ∈ TB := tbm_4 (i := 54) rfl rfl
theorem w71 : Cond.laysFinal RX6 "BottomDrawerModel" "left" "[I" ∈ TB := tbm_4 (i := 56) rfl rfl
theorem w72 : Cond.laysFinal RX6 "BottomDrawerModel" "struck" "[I" ∈ TB := tbm_4 (i := 58) rfl rfl
theorem tbX6 : ∀ w ∈ u_ws RX6 TX6 32, w ∈ TB := List.forall_mem_cons.mpr ⟨w41, List.forall_mem_cons.mpr ⟨w42, List.forall_mem_cons.mpr ⟨w43, List.forall_mem_cons.mpr ⟨w44, List.forall_mem_cons.mpr ⟨w45, List.forall_mem_cons.mpr ⟨w46, List.forall_mem_cons.mpr ⟨w47, List.forall_mem_cons.mpr ⟨w48, List.forall_mem_cons.mpr ⟨w49, List.forall_mem_cons.mpr ⟨w50, List.forall_mem_cons.mpr ⟨w51, List.forall_mem_cons.mpr ⟨w52, List.forall_mem_cons.mpr ⟨w53, List.forall_mem_cons.mpr ⟨w54, List.forall_mem_cons.mpr ⟨w55, List.forall_mem_cons.mpr ⟨w56, List.forall_mem_cons.mpr ⟨w57, List.forall_mem_cons.mpr ⟨w58, List.forall_mem_cons.mpr ⟨w59, List.forall_mem_cons.mpr ⟨w60, List.forall_mem_cons.mpr ⟨w61, List.forall_mem_cons.mpr ⟨w62, List.forall_mem_cons.mpr ⟨w63, List.forall_mem_cons.mpr ⟨w64, List.forall_mem_cons.mpr ⟨w65, List.forall_mem_cons.mpr ⟨w66, List.forall_mem_cons.mpr ⟨w67, List.forall_mem_cons.mpr ⟨w68, List.forall_mem_cons.mpr ⟨w69, List.forall_mem_cons.mpr ⟨w70, List.forall_mem_cons.mpr ⟨w71, List.forall_mem_cons.mpr ⟨w72, fun _ h => absurd h List.not_mem_nil⟩⟩⟩⟩⟩⟩⟩⟩⟩⟩⟩⟩⟩⟩⟩⟩⟩⟩⟩⟩⟩⟩⟩⟩⟩⟩⟩⟩⟩⟩⟩⟩
def NTB : List Cond := [Cond.methodLinkNest RX4 34 yX5_store RX5, Cond.methodLinkNest RX4 42 yX5_at RX5, Cond.methodLinkNest RX3 55 yX5_store RX5, Cond.methodLinkNest RX3 59 yX5_bit RX5, Cond.methodLinkNest RX3 70 yX5_at RX5, Cond.methodLinkNest RX5 37 yX1_init RX5, Cond.methodLinkNest RX1 29 yX5_has RX5, Cond.methodLinkNest RX1 37 yX5_at RX5, Cond.methodLinkNest RX3 74 yX5_has RX5, Cond.methodLinkNest RX2 49 yX5_at RX5, Cond.methodLinkNest RX2 37 yX5_store RX5, Cond.methodLinkNest RX0 62 yX5_has RX5, Cond.methodLinkNest RX0 69 yX5_at RX5, Cond.methodLinkNest RX0 93 yX5_store RX5]
theorem NTB_form : ∀ w ∈ NTB, ∃ (a : String) (i : Nat) (x : MethodName) (n : String), w = Cond.methodLinkNest a i x n := List.forall_mem_cons.mpr ⟨⟨_, _, _, _, rfl⟩, List.forall_mem_cons.mpr ⟨⟨_, _, _, _, rfl⟩, List.forall_mem_cons.mpr ⟨⟨_, _, _, _, rfl⟩, List.forall_mem_cons.mpr ⟨⟨_, _, _, _, rfl⟩, List.forall_mem_cons.mpr ⟨⟨_, _, _, _, rfl⟩, List.forall_mem_cons.mpr ⟨⟨_, _, _, _, rfl⟩, List.forall_mem_cons.mpr ⟨⟨_, _, _, _, rfl⟩, List.forall_mem_cons.mpr ⟨⟨_, _, _, _, rfl⟩, List.forall_mem_cons.mpr ⟨⟨_, _, _, _, rfl⟩, List.forall_mem_cons.mpr ⟨⟨_, _, _, _, rfl⟩, List.forall_mem_cons.mpr ⟨⟨_, _, _, _, rfl⟩, List.forall_mem_cons.mpr ⟨⟨_, _, _, _, rfl⟩, List.forall_mem_cons.mpr ⟨⟨_, _, _, _, rfl⟩, List.forall_mem_cons.mpr ⟨⟨_, _, _, _, rfl⟩, fun _ h => absurd h List.not_mem_nil⟩⟩⟩⟩⟩⟩⟩⟩⟩⟩⟩⟩⟩⟩
theorem NTB_in : ∀ w ∈ NTB, w ∈ lw_tbl := List.forall_mem_cons.mpr ⟨List.mem_append_right _ (List.mem_append_left _ (List.mem_of_getElem? (i := 170) rfl)), List.forall_mem_cons.mpr ⟨List.mem_append_right _ (List.mem_append_left _ (List.mem_of_getElem? (i := 177) rfl)), List.forall_mem_cons.mpr ⟨List.mem_append_right _ (List.mem_append_left _ (List.mem_of_getElem? (i := 188) rfl)), List.forall_mem_cons.mpr ⟨List.mem_append_right _ (List.mem_append_left _ (List.mem_of_getElem? (i := 189) rfl)), List.forall_mem_cons.mpr ⟨List.mem_append_right _ (List.mem_append_left _ (List.mem_of_getElem? (i := 208) rfl)), List.forall_mem_cons.mpr ⟨List.mem_append_right _ (List.mem_append_left _ (List.mem_of_getElem? (i := 211) rfl)), List.forall_mem_cons.mpr ⟨List.mem_append_right _ (List.mem_append_right _ (List.mem_append_left _ (List.mem_of_getElem? (i := 120) rfl))), List.forall_mem_cons.mpr ⟨List.mem_append_right _ (List.mem_append_right _ (List.mem_append_left _ (List.mem_of_getElem? (i := 121) rfl))), List.forall_mem_cons.mpr ⟨List.mem_append_right _ (List.mem_append_right _ (List.mem_append_left _ (List.mem_of_getElem? (i := 132) rfl))), List.forall_mem_cons.mpr ⟨List.mem_append_right _ (List.mem_append_right _ (List.mem_append_left _ (List.mem_of_getElem? (i := 193) rfl))), List.forall_mem_cons.mpr ⟨List.mem_append_right _ (List.mem_append_right _ (List.mem_append_left _ (List.mem_of_getElem? (i := 194) rfl))), List.forall_mem_cons.mpr ⟨List.mem_append_right _ (List.mem_append_right _ (List.mem_append_right _ (List.mem_append_left _ (List.mem_of_getElem? (i := 59) rfl)))), List.forall_mem_cons.mpr ⟨List.mem_append_right _ (List.mem_append_right _ (List.mem_append_right _ (List.mem_append_left _ (List.mem_of_getElem? (i := 81) rfl)))), List.forall_mem_cons.mpr ⟨List.mem_append_right _ (List.mem_append_right _ (List.mem_append_right _ (List.mem_append_left _ (List.mem_of_getElem? (i := 85) rfl)))), fun _ h => absurd h List.not_mem_nil⟩⟩⟩⟩⟩⟩⟩⟩⟩⟩⟩⟩⟩⟩
theorem nt0 : Cond.methodLinkNest RX4 34 yX5_store RX5 ∈ NTB := List.mem_of_getElem? (i := 0) rfl
theorem nt1 : Cond.methodLinkNest RX4 42 yX5_at RX5 ∈ NTB := List.mem_of_getElem? (i := 1) rfl
theorem nt2 : Cond.methodLinkNest RX3 55 yX5_store RX5 ∈ NTB := List.mem_of_getElem? (i := 2) rfl
theorem nt3 : Cond.methodLinkNest RX3 59 yX5_bit RX5 ∈ NTB := List.mem_of_getElem? (i := 3) rfl
theorem nt4 : Cond.methodLinkNest RX3 70 yX5_at RX5 ∈ NTB := List.mem_of_getElem? (i := 4) rfl
theorem nt5 : Cond.methodLinkNest RX5 37 yX1_init RX5 ∈ NTB := List.mem_of_getElem? (i := 5) rfl
theorem nt6 : Cond.methodLinkNest RX1 29 yX5_has RX5 ∈ NTB := List.mem_of_getElem? (i := 6) rfl
theorem nt7 : Cond.methodLinkNest RX1 37 yX5_at RX5 ∈ NTB := List.mem_of_getElem? (i := 7) rfl
theorem nt8 : Cond.methodLinkNest RX3 74 yX5_has RX5 ∈ NTB := List.mem_of_getElem? (i := 8) rfl
theorem nt9 : Cond.methodLinkNest RX2 49 yX5_at RX5 ∈ NTB := List.mem_of_getElem? (i := 9) rfl
theorem nt10 : Cond.methodLinkNest RX2 37 yX5_store RX5 ∈ NTB := List.mem_of_getElem? (i := 10) rfl
theorem nt11 : Cond.methodLinkNest RX0 62 yX5_has RX5 ∈ NTB := List.mem_of_getElem? (i := 11) rfl
theorem nt12 : Cond.methodLinkNest RX0 69 yX5_at RX5 ∈ NTB := List.mem_of_getElem? (i := 12) rfl
theorem nt13 : Cond.methodLinkNest RX0 93 yX5_store RX5 ∈ NTB := List.mem_of_getElem? (i := 13) rfl
theorem w73 : Cond.methodLink RX0 3 objectInit ∈ TB := tbm_2 (i := 8) rfl rfl
theorem w74 : Cond.instanceMethod objectInit ∈ TB := tbm_1 (i := 20) rfl rfl
theorem w75 : Cond.code objectInit ⟨#[0xb1]⟩ 1 none ∈ TB := tbm_1 (i := 21) rfl rfl
theorem w76 : Cond.fieldLink RX0 9 "BottomDrawer$Counsel" "longest" "[I" ∈ TB := tbm_2 (i := 9) rfl rfl
theorem w77 : Cond.fieldLink RX0 15 "BottomDrawer$Counsel" "left" "[I" ∈ TB := tbm_2 (i := 10) rfl rfl
theorem w78 : Cond.initialized RX1 ∈ TB := tbm_1 (i := 8) rfl rfl
theorem w79 : Cond.code yX1_coinsBehind cX1_coinsBehind 3 (some .int) ∈ TB := tbm_2 (i := 239) rfl rfl
theorem w80 : Cond.methodLink RX0 18 yX1_coinsBehind ∈ TB := tbm_3 (i := 19) rfl rfl
theorem w81 : Cond.instanceMethod yX1_coinsBehind ∈ TB := tbm_2 (i := 237) rfl rfl
theorem w82 : Cond.selects RX1 yX1_coinsBehind yX1_coinsBehind ∈ TB := tbm_2 (i := 238) rfl rfl
theorem w83 : Cond.initialized RX3 ∈ TB := tbm_1 (i := 3) rfl rfl
theorem w84 : Cond.code yX3_gain cX3_gain 4 (some .int) ∈ TB := tbm_2 (i := 169) rfl rfl
theorem w85 : Cond.methodLink RX0 24 yX3_gain ∈ TB := tbm_3 (i := 20) rfl rfl
theorem w86 : Cond.instanceMethod yX3_gain ∈ TB := tbm_2 (i := 167) rfl rfl
theorem w87 : Cond.selects RX3 yX3_gain yX3_gain ∈ TB := tbm_2 (i := 168) rfl rfl
theorem w88 : Cond.code yX3_allThings cX3_allThings 1 (some .int) ∈ TB := tbm_3 (i := 24) rfl rfl
theorem w89 : Cond.methodLink RX0 30 yX3_allThings ∈ TB := tbm_3 (i := 21) rfl rfl
theorem w90 : Cond.instanceMethod yX3_allThings ∈ TB := tbm_3 (i := 22) rfl rfl
theorem w91 : Cond.selects RX3 yX3_allThings yX3_allThings ∈ TB := tbm_3 (i := 23) rfl rfl
theorem w92 : Cond.code yX3_roomTaken cX3_roomTaken 6 (some .int) ∈ TB := tbm_2 (i := 125) rfl rfl
theorem w93 : Cond.methodLink RX0 34 yX3_roomTaken ∈ TB := tbm_3 (i := 25) rfl rfl
theorem w94 : Cond.instanceMethod yX3_roomTaken ∈ TB := tbm_2 (i := 123) rfl rfl
theorem w95 : Cond.selects RX3 yX3_roomTaken yX3_roomTaken ∈ TB := tbm_2 (i := 124) rfl rfl
theorem w96 : Cond.fieldLink RX0 37 "BottomDrawer$Plan" "room" "I" ∈ TB := tbm_1 (i := 44) rfl rfl
theorem w97 : Cond.fieldLink RX0 41 "BottomDrawer$Hour" "drawer" "I" ∈ TB := tbm_1 (i := 216) rfl rfl
theorem w98 : Cond.code yX3_price cX3_price 4 (some .int) ∈ TB := tbm_3 (i := 29) rfl rfl
theorem w99 : Cond.methodLink RX0 44 yX3_price ∈ TB := tbm_3 (i := 26) rfl rfl
theorem w100 : Cond.instanceMethod yX3_price ∈ TB := tbm_3 (i := 27) rfl rfl
theorem w101 : Cond.selects RX3 yX3_price yX3_price ∈ TB := tbm_3 (i := 28) rfl rfl
theorem w102 : Cond.initialized RX0 ∈ TB := tbm_1 (i := 9) rfl rfl
theorem w103 : Cond.code yX0_isFewer cX0_isFewer 2 (some .boolean) ∈ TB := tbm_3 (i := 32) rfl rfl
theorem w104 : Cond.methodLink RX0 47 yX0_isFewer ∈ TB := tbm_3 (i := 30) rfl rfl
theorem w105 : Cond.static yX0_isFewer ∈ TB := tbm_3 (i := 31) rfl rfl
theorem w106 : Cond.initialized RJ6 ∈ TB := tbm_1 (i := 12) rfl rfl
theorem w107 : Cond.code yJ6_bitCount_0f7a4 cJ6_bitCount_0f7a4 1 (some .int) ∈ TB := tbm_2 (i := 128) rfl rfl
theorem w108 : Cond.methodLink RX0 51 yJ6_bitCount_0f7a4 ∈ TB := tbm_3 (i := 33) rfl rfl
theorem w109 : Cond.static yJ6_bitCount_0f7a4 ∈ TB := tbm_2 (i := 127) rfl rfl
theorem w110 : Cond.code yX3_livesBy cX3_livesBy 4 (some .int) ∈ TB := tbm_3 (i := 49) rfl rfl
theorem w111 : Cond.methodLink RX0 56 yX3_livesBy ∈ TB := tbm_3 (i := 46) rfl rfl
theorem w112 : Cond.instanceMethod yX3_livesBy ∈ TB := tbm_3 (i := 47) rfl rfl
theorem w113 : Cond.selects RX3 yX3_livesBy yX3_livesBy ∈ TB := tbm_3 (i := 48) rfl rfl
theorem w114 : Cond.fieldLink RX0 59 "BottomDrawer$Plan" "things" "I" ∈ TB := tbm_1 (i := 50) rfl rfl
theorem w115 : Cond.initialized RX5 ∈ TB := tbm_1 (i := 1) rfl rfl
theorem w116 : Cond.code yX5_has cX5_has 2 (some .boolean) ∈ TB := tbm_2 (i := 114) rfl rfl
theorem w117 : Cond.static yX5_has ∈ TB := tbm_2 (i := 113) rfl rfl
theorem w118 : Cond.code yX0_findLongest cX0_findLongest 6 none ∈ TB := tbm_3 (i := 71) rfl rfl
theorem w119 : Cond.methodLink RX0 65 yX0_findLongest ∈ TB := tbm_3 (i := 68) rfl rfl
theorem w120 : Cond.instanceMethod yX0_findLongest ∈ TB := tbm_3 (i := 70) rfl rfl
theorem w121 : Cond.selects RX0 yX0_findLongest yX0_findLongest ∈ TB := tbp_1 (i := 5) (q := (yX0_findLongest, 2)) rfl
theorem w122 : Cond.code yX5_at cX5_at 2 (some .int) ∈ TB := tbm_1 (i := 179) rfl rfl
theorem w123 : Cond.static yX5_at ∈ TB := tbm_1 (i := 178) rfl rfl
theorem w124 : Cond.code yX0_nextInRow cX0_nextInRow 5 (some .int) ∈ TB := tbm_3 (i := 89) rfl rfl
theorem w125 : Cond.methodLink RX0 73 yX0_nextInRow ∈ TB := tbm_3 (i := 86) rfl rfl
theorem w126 : Cond.instanceMethod yX0_nextInRow ∈ TB := tbm_3 (i := 88) rfl rfl
theorem w127 : Cond.selects RX0 yX0_nextInRow yX0_nextInRow ∈ TB := tbp_1 (i := 6) (q := (yX0_nextInRow, 2)) rfl
theorem w128 : Cond.code yX3_allLives cX3_allLives 1 (some .int) ∈ TB := tbm_3 (i := 75) rfl rfl
theorem w129 : Cond.methodLink RX0 77 yX3_allLives ∈ TB := tbm_3 (i := 72) rfl rfl
theorem w130 : Cond.instanceMethod yX3_allLives ∈ TB := tbm_3 (i := 73) rfl rfl
theorem w131 : Cond.selects RX3 yX3_allLives yX3_allLives ∈ TB := tbm_3 (i := 74) rfl rfl
theorem w132 : Cond.fieldLink RX0 80 "BottomDrawer$Plan" "lives" "I" ∈ TB := tbm_1 (i := 55) rfl rfl
theorem w133 : Cond.code yX0_canFollow cX0_canFollow 4 (some .boolean) ∈ TB := tbm_3 (i := 78) rfl rfl
theorem w134 : Cond.methodLink RX0 83 yX0_canFollow ∈ TB := tbm_3 (i := 76) rfl rfl
theorem w135 : Cond.static yX0_canFollow ∈ TB := tbm_3 (i := 77) rfl rfl
theorem w136 : Cond.methodLink RX0 87 Lib.Math.max.name ∈ TB := tbm_3 (i := 82) rfl rfl
theorem w137 : Cond.static Lib.Math.max.name ∈ TB := tbm_3 (i := 83) rfl rfl
theorem w138 : Cond.initialized RJ9 ∈ TB := tbm_1 (i := 13) rfl rfl
theorem w139 : Cond.code Lib.Math.max.name Lib.Math.max.code 2 (some .int) ∈ TB := tbm_3 (i := 84) rfl rfl
theorem w140 : Cond.code yX5_store cX5_store 3 none ∈ TB := tbm_1 (i := 172) rfl rfl
theorem w141 : Cond.static yX5_store ∈ TB := tbm_1 (i := 171) rfl rfl
theorem w142 : Cond.fieldLink RX0 97 "BottomDrawer$Hour" "lived" "I" ∈ TB := tbm_1 (i := 222) rfl rfl
theorem w143 : Cond.code yX3_linenOf cX3_linenOf 4 (some .int) ∈ TB := tbm_2 (i := 227) rfl rfl
theorem w144 : Cond.methodLink RX0 100 yX3_linenOf ∈ TB := tbm_3 (i := 79) rfl rfl
theorem w145 : Cond.instanceMethod yX3_linenOf ∈ TB := tbm_2 (i := 225) rfl rfl
theorem w146 : Cond.selects RX3 yX3_linenOf yX3_linenOf ∈ TB := tbm_2 (i := 226) rfl rfl
theorem w147 : Cond.code yX3_canBe cX3_canBe 5 (some .boolean) ∈ TB := tbm_2 (i := 145) rfl rfl
theorem w148 : Cond.methodLink RX0 103 yX3_canBe ∈ TB := tbm_3 (i := 80) rfl rfl
theorem w149 : Cond.instanceMethod yX3_canBe ∈ TB := tbm_2 (i := 143) rfl rfl
theorem w150 : Cond.selects RX3 yX3_canBe yX3_canBe ∈ TB := tbm_2 (i := 144) rfl rfl
theorem w151 : Cond.code yX0_isLeftForAnother cX0_isLeftForAnother 6 (some .boolean) ∈ TB := tbm_3 (i := 101) rfl rfl
theorem w152 : Cond.methodLink RX0 106 yX0_isLeftForAnother ∈ TB := tbm_3 (i := 99) rfl rfl
theorem w153 : Cond.static yX0_isLeftForAnother ∈ TB := tbm_3 (i := 100) rfl rfl
theorem w154 : Cond.fieldLink RX0 110 "BottomDrawer$Plan" "hers" "[I" ∈ TB := tbm_1 (i := 71) rfl rfl
theorem w155 : Cond.fieldLink RX0 113 "BottomDrawer$Plan" "his" "[I" ∈ TB := tbm_1 (i := 74) rfl rfl
theorem w156 : Cond.code yX0_findLeft cX0_findLeft 8 none ∈ TB := tbm_3 (i := 113) rfl rfl
theorem w157 : Cond.methodLink RX0 116 yX0_findLeft ∈ TB := tbm_3 (i := 110) rfl rfl
theorem w158 : Cond.instanceMethod yX0_findLeft ∈ TB := tbm_3 (i := 112) rfl rfl
theorem w159 : Cond.selects RX0 yX0_findLeft yX0_findLeft ∈ TB := tbp_1 (i := 7) (q := (yX0_findLeft, 2)) rfl
theorem w160 : Cond.code yX0_strike cX0_strike 8 (some .int) ∈ TB := tbm_3 (i := 117) rfl rfl
theorem w161 : Cond.methodLink RX0 120 yX0_strike ∈ TB := tbm_3 (i := 114) rfl rfl
theorem w162 : Cond.instanceMethod yX0_strike ∈ TB := tbm_3 (i := 116) rfl rfl
theorem w163 : Cond.selects RX0 yX0_strike yX0_strike ∈ TB := tbp_1 (i := 8) (q := (yX0_strike, 2)) rfl
theorem w164 : Cond.methodLink RX1 3 objectInit ∈ TB := tbm_1 (i := 214) rfl rfl
theorem w165 : Cond.fieldLink RX1 9 "BottomDrawer$Hour" "drawer" "I" ∈ TB := tbm_1 (i := 215) rfl rfl
theorem w166 : Cond.fieldLink RX1 15 "BottomDrawer$Hour" "lived" "I" ∈ TB := tbm_1 (i := 219) rfl rfl
theorem w167 : Cond.fieldLink RX1 18 "BottomDrawer$Plan" "allowance" "I" ∈ TB := tbm_1 (i := 48) rfl rfl
theorem w168 : Cond.fieldLink RX1 23 "BottomDrawer$Hour" "coins" "I" ∈ TB := tbm_1 (i := 223) rfl rfl
theorem w169 : Cond.fieldLink RX1 26 "BottomDrawer$Hour" "years" "I" ∈ TB := tbm_1 (i := 226) rfl rfl
theorem w170 : Cond.fieldLink RX1 33 "BottomDrawer$Plan" "costs" "[I" ∈ TB := tbm_1 (i := 65) rfl rfl
theorem w171 : Cond.methodLink RX1 41 yX3_roomTaken ∈ TB := tbm_2 (i := 122) rfl rfl
theorem w172 : Cond.fieldLink RX1 45 "BottomDrawer$Plan" "room" "I" ∈ TB := tbm_1 (i := 45) rfl rfl
theorem w173 : Cond.methodLink RX1 48 yX3_canBe ∈ TB := tbm_2 (i := 219) rfl rfl
theorem w174 : Cond.methodLink RX1 51 yX3_linenOf ∈ TB := tbm_2 (i := 224) rfl rfl
theorem w175 : Cond.methodLink RX1 54 yX1_coinsBehind ∈ TB := tbm_2 (i := 236) rfl rfl
theorem w176 : Cond.methodLink RX1 58 Lib.Math.min.name ∈ TB := tbm_3 (i := 0) rfl rfl
theorem w177 : Cond.static Lib.Math.min.name ∈ TB := tbm_3 (i := 1) rfl rfl
theorem w178 : Cond.code Lib.Math.min.name Lib.Math.min.code 2 (some .int) ∈ TB := tbm_3 (i := 2) rfl rfl
theorem w179 : Cond.fieldLink RX1 64 "BottomDrawer$Plan" "things" "I" ∈ TB := tbm_1 (i := 52) rfl rfl
theorem w180 : Cond.code yX1_putOrTakeOut cX1_putOrTakeOut 4 none ∈ TB := tbm_3 (i := 163) rfl rfl
theorem w181 : Cond.methodLink RX1 67 yX1_putOrTakeOut ∈ TB := tbm_3 (i := 160) rfl rfl
theorem w182 : Cond.instanceMethod yX1_putOrTakeOut ∈ TB := tbm_3 (i := 162) rfl rfl
theorem w183 : Cond.selects RX1 yX1_putOrTakeOut yX1_putOrTakeOut ∈ TB := tbp_1 (i := 10) (q := (yX1_putOrTakeOut, 4)) rfl
theorem w184 : Cond.fieldLink RX1 71 "BottomDrawer$Plan" "lives" "I" ∈ TB := tbm_1 (i := 56) rfl rfl
theorem w185 : Cond.code yX1_canBeLived cX1_canBeLived 3 (some .boolean) ∈ TB := tbm_2 (i := 218) rfl rfl
theorem w186 : Cond.methodLink RX1 74 yX1_canBeLived ∈ TB := tbm_3 (i := 167) rfl rfl
theorem w187 : Cond.instanceMethod yX1_canBeLived ∈ TB := tbm_2 (i := 216) rfl rfl
theorem w188 : Cond.selects RX1 yX1_canBeLived yX1_canBeLived ∈ TB := tbm_2 (i := 217) rfl rfl
theorem w189 : Cond.code yX1_liveLife cX1_liveLife 4 (some .int) ∈ TB := tbm_2 (i := 223) rfl rfl
theorem w190 : Cond.methodLink RX1 78 yX1_liveLife ∈ TB := tbm_3 (i := 168) rfl rfl
theorem w191 : Cond.instanceMethod yX1_liveLife ∈ TB := tbm_2 (i := 221) rfl rfl
theorem w192 : Cond.selects RX1 yX1_liveLife yX1_liveLife ∈ TB := tbm_2 (i := 222) rfl rfl
theorem w193 : Cond.code yX1_goBy cX1_goBy 3 none ∈ TB := tbm_2 (i := 235) rfl rfl
theorem w194 : Cond.methodLink RX1 81 yX1_goBy ∈ TB := tbm_3 (i := 169) rfl rfl
theorem w195 : Cond.instanceMethod yX1_goBy ∈ TB := tbm_2 (i := 233) rfl rfl
theorem w196 : Cond.selects RX1 yX1_goBy yX1_goBy ∈ TB := tbm_2 (i := 234) rfl rfl
theorem w197 : Cond.code yX1_canPutBy cX1_canPutBy 3 (some .boolean) ∈ TB := tbm_2 (i := 119) rfl rfl
theorem w198 : Cond.methodLink RX1 85 yX1_canPutBy ∈ TB := tbm_3 (i := 164) rfl rfl
theorem w199 : Cond.instanceMethod yX1_canPutBy ∈ TB := tbm_2 (i := 117) rfl rfl
theorem w200 : Cond.selects RX1 yX1_canPutBy yX1_canPutBy ∈ TB := tbm_2 (i := 118) rfl rfl
theorem w201 : Cond.code yX1_putBy cX1_putBy 3 none ∈ TB := tbm_2 (i := 198) rfl rfl
theorem w202 : Cond.methodLink RX1 88 yX1_putBy ∈ TB := tbm_3 (i := 165) rfl rfl
theorem w203 : Cond.instanceMethod yX1_putBy ∈ TB := tbm_2 (i := 196) rfl rfl
theorem w204 : Cond.selects RX1 yX1_putBy yX1_putBy ∈ TB := tbm_2 (i := 197) rfl rfl
theorem w205 : Cond.code yX1_takeOut cX1_takeOut 2 none ∈ TB := tbm_2 (i := 210) rfl rfl
theorem w206 : Cond.methodLink RX1 91 yX1_takeOut ∈ TB := tbm_3 (i := 166) rfl rfl
theorem w207 : Cond.instanceMethod yX1_takeOut ∈ TB := tbm_2 (i := 208) rfl rfl
theorem w208 : Cond.selects RX1 yX1_takeOut yX1_takeOut ∈ TB := tbm_2 (i := 209) rfl rfl
theorem w209 : Cond.methodLink RX2 1 objectInit ∈ TB := tbm_2 (i := 21) rfl rfl
theorem w210 : Cond.fieldLink RX2 7 "BottomDrawer$Pile" "limit" "I" ∈ TB := tbm_2 (i := 24) rfl rfl
theorem w211 : Cond.fieldLink RX2 13 "BottomDrawer$Pile" "drawers" "[I" ∈ TB := tbm_2 (i := 25) rfl rfl
theorem w212 : Cond.fieldLink RX2 17 "BottomDrawer$Pile" "lived" "[I" ∈ TB := tbm_2 (i := 26) rfl rfl
theorem w213 : Cond.fieldLink RX2 20 "BottomDrawer$Pile" "coins" "[I" ∈ TB := tbm_2 (i := 27) rfl rfl
theorem w214 : Cond.fieldLink RX2 23 "BottomDrawer$Pile" "years" "[I" ∈ TB := tbm_2 (i := 28) rfl rfl
theorem w215 : Cond.fieldLink RX2 26 "BottomDrawer$Pile" "height" "I" ∈ TB := tbm_2 (i := 22) rfl rfl
theorem w216 : Cond.initialized RX2 ∈ TB := tbm_1 (i := 10) rfl rfl
theorem w217 : Cond.code yX2_dropLowest cX2_dropLowest 2 none ∈ TB := tbm_2 (i := 192) rfl rfl
theorem w218 : Cond.methodLink RX2 29 yX2_dropLowest ∈ TB := tbm_2 (i := 189) rfl rfl
theorem w219 : Cond.instanceMethod yX2_dropLowest ∈ TB := tbm_2 (i := 191) rfl rfl
theorem w220 : Cond.selects RX2 yX2_dropLowest yX2_dropLowest ∈ TB := tbp_1 (i := 3) (q := (yX2_dropLowest, 6)) rfl
theorem w221 : Cond.fieldLink RX2 32 "BottomDrawer$Hour" "drawer" "I" ∈ TB := tbm_1 (i := 217) rfl rfl
theorem w222 : Cond.fieldLink RX2 43 "BottomDrawer$Hour" "lived" "I" ∈ TB := tbm_1 (i := 220) rfl rfl
theorem w223 : Cond.fieldLink RX2 45 "BottomDrawer$Hour" "coins" "I" ∈ TB := tbm_1 (i := 224) rfl rfl
theorem w224 : Cond.fieldLink RX2 47 "BottomDrawer$Hour" "years" "I" ∈ TB := tbm_1 (i := 227) rfl rfl
theorem w225 : Cond.methodLink RX3 3 objectInit ∈ TB := tbm_1 (i := 42) rfl rfl
theorem w226 : Cond.fieldLink RX3 9 "BottomDrawer$Plan" "kinds" "[I" ∈ TB := tbm_1 (i := 60) rfl rfl
theorem w227 : Cond.fieldLink RX3 15 "BottomDrawer$Plan" "sizes" "[I" ∈ TB := tbm_1 (i := 62) rfl rfl
theorem w228 : Cond.fieldLink RX3 18 "BottomDrawer$Plan" "costs" "[I" ∈ TB := tbm_1 (i := 64) rfl rfl
theorem w229 : Cond.fieldLink RX3 21 "BottomDrawer$Plan" "chances" "[I" ∈ TB := tbm_1 (i := 67) rfl rfl
theorem w230 : Cond.fieldLink RX3 24 "BottomDrawer$Plan" "hers" "[I" ∈ TB := tbm_1 (i := 69) rfl rfl
theorem w231 : Cond.fieldLink RX3 27 "BottomDrawer$Plan" "his" "[I" ∈ TB := tbm_1 (i := 72) rfl rfl
theorem w232 : Cond.fieldLink RX3 30 "BottomDrawer$Plan" "needs" "[I" ∈ TB := tbm_1 (i := 75) rfl rfl
theorem w233 : Cond.fieldLink RX3 33 "BottomDrawer$Plan" "room" "I" ∈ TB := tbm_1 (i := 43) rfl rfl
theorem w234 : Cond.fieldLink RX3 37 "BottomDrawer$Plan" "allowance" "I" ∈ TB := tbm_1 (i := 47) rfl rfl
theorem w235 : Cond.fieldLink RX3 40 "BottomDrawer$Plan" "things" "I" ∈ TB := tbm_1 (i := 49) rfl rfl
theorem w236 : Cond.fieldLink RX3 43 "BottomDrawer$Plan" "lives" "I" ∈ TB := tbm_1 (i := 53) rfl rfl
theorem w237 : Cond.fieldLink RX3 46 "BottomDrawer$Plan" "flannel" "I" ∈ TB := tbm_1 (i := 57) rfl rfl
theorem w238 : Cond.fieldLink RX3 49 "BottomDrawer$Plan" "linen" "I" ∈ TB := tbm_1 (i := 58) rfl rfl
theorem w239 : Cond.fieldLink RX3 52 "BottomDrawer$Plan" "folding" "I" ∈ TB := tbm_1 (i := 59) rfl rfl
theorem w240 : Cond.code yX5_bit cX5_bit 1 (some .int) ∈ TB := tbm_1 (i := 191) rfl rfl
theorem w241 : Cond.static yX5_bit ∈ TB := tbm_1 (i := 190) rfl rfl
theorem w242 : Cond.code yX3_isLife cX3_isLife 2 (some .boolean) ∈ TB := tbm_1 (i := 203) rfl rfl
theorem w243 : Cond.methodLink RX3 63 yX3_isLife ∈ TB := tbm_1 (i := 200) rfl rfl
theorem w244 : Cond.instanceMethod yX3_isLife ∈ TB := tbm_1 (i := 201) rfl rfl
theorem w245 : Cond.selects RX3 yX3_isLife yX3_isLife ∈ TB := tbm_1 (i := 202) rfl rfl
theorem w246 : Cond.code yX3_isThing cX3_isThing 2 (some .boolean) ∈ TB := tbm_1 (i := 207) rfl rfl
theorem w247 : Cond.methodLink RX3 67 yX3_isThing ∈ TB := tbm_1 (i := 204) rfl rfl
theorem w248 : Cond.instanceMethod yX3_isThing ∈ TB := tbm_1 (i := 205) rfl rfl
theorem w249 : Cond.selects RX3 yX3_isThing yX3_isThing ∈ TB := tbm_1 (i := 206) rfl rfl
theorem w250 : Cond.methodLink RX3 78 yJ6_bitCount_0f7a4 ∈ TB := tbm_2 (i := 126) rfl rfl
theorem w251 : Cond.methodLink RX3 84 yX3_canBe ∈ TB := tbm_2 (i := 170) rfl rfl
theorem w252 : Cond.methodLink RX4 3 objectInit ∈ TB := tbm_1 (i := 27) rfl rfl
theorem w253 : Cond.fieldLink RX4 9 "BottomDrawer$Reader" "numbers" "[I" ∈ TB := tbm_1 (i := 28) rfl rfl
theorem w254 : Cond.code yX3_begin cX3_begin 1 none ∈ TB := tbm_1 (i := 159) rfl rfl
theorem w255 : Cond.methodLink RX4 15 yX3_begin ∈ TB := tbm_1 (i := 156) rfl rfl
theorem w256 : Cond.instanceMethod yX3_begin ∈ TB := tbm_1 (i := 157) rfl rfl
theorem w257 : Cond.selects RX3 yX3_begin yX3_begin ∈ TB := tbm_1 (i := 158) rfl rfl
theorem w258 : Cond.initialized RX4 ∈ TB := tbm_1 (i := 2) rfl rfl
theorem w259 : Cond.code yX4_readNumbers cX4_readNumbers 9 (some .int) ∈ TB := tbm_1 (i := 163) rfl rfl
theorem w260 : Cond.methodLink RX4 20 yX4_readNumbers ∈ TB := tbm_1 (i := 160) rfl rfl
theorem w261 : Cond.instanceMethod yX4_readNumbers ∈ TB := tbm_1 (i := 162) rfl rfl
theorem w262 : Cond.selects RX4 yX4_readNumbers yX4_readNumbers ∈ TB := tbp_1 (i := 0) (q := (yX4_readNumbers, 2)) rfl
theorem w263 : Cond.code yX4_letter cX4_letter 3 (some .int) ∈ TB := tbm_1 (i := 169) rfl rfl
theorem w264 : Cond.methodLink RX4 24 yX4_letter ∈ TB := tbm_1 (i := 167) rfl rfl
theorem w265 : Cond.static yX4_letter ∈ TB := tbm_1 (i := 168) rfl rfl
theorem w266 : Cond.code yX4_tellItem cX4_tellItem 6 (some .boolean) ∈ TB := tbm_1 (i := 176) rfl rfl
theorem w267 : Cond.methodLink RX4 27 yX4_tellItem ∈ TB := tbm_1 (i := 173) rfl rfl
theorem w268 : Cond.instanceMethod yX4_tellItem ∈ TB := tbm_1 (i := 175) rfl rfl
theorem w269 : Cond.selects RX4 yX4_tellItem yX4_tellItem ∈ TB := tbp_1 (i := 1) (q := (yX4_tellItem, 2)) rfl
theorem w270 : Cond.code yX4_figure cX4_figure 4 (some .int) ∈ TB := tbm_1 (i := 166) rfl rfl
theorem w271 : Cond.methodLink RX4 31 yX4_figure ∈ TB := tbm_1 (i := 164) rfl rfl
theorem w272 : Cond.static yX4_figure ∈ TB := tbm_1 (i := 165) rfl rfl
theorem w273 : Cond.fieldLink RX4 38 "BottomDrawer$Reader" "amount" "I" ∈ TB := tbm_1 (i := 29) rfl rfl
theorem w274 : Cond.code yX3_tellRoom cX3_tellRoom 3 (some .boolean) ∈ TB := tbm_1 (i := 183) rfl rfl
theorem w275 : Cond.methodLink RX4 46 yX3_tellRoom ∈ TB := tbm_1 (i := 180) rfl rfl
theorem w276 : Cond.instanceMethod yX3_tellRoom ∈ TB := tbm_1 (i := 181) rfl rfl
theorem w277 : Cond.selects RX3 yX3_tellRoom yX3_tellRoom ∈ TB := tbm_1 (i := 182) rfl rfl
theorem w278 : Cond.code yX3_tellThing cX3_tellThing 4 (some .boolean) ∈ TB := tbm_1 (i := 187) rfl rfl
theorem w279 : Cond.methodLink RX4 50 yX3_tellThing ∈ TB := tbm_1 (i := 184) rfl rfl
theorem w280 : Cond.instanceMethod yX3_tellThing ∈ TB := tbm_1 (i := 185) rfl rfl
theorem w281 : Cond.selects RX3 yX3_tellThing yX3_tellThing ∈ TB := tbm_1 (i := 186) rfl rfl
theorem w282 : Cond.code yX3_tellLife cX3_tellLife 4 (some .boolean) ∈ TB := tbm_1 (i := 195) rfl rfl
theorem w283 : Cond.methodLink RX4 54 yX3_tellLife ∈ TB := tbm_1 (i := 192) rfl rfl
theorem w284 : Cond.instanceMethod yX3_tellLife ∈ TB := tbm_1 (i := 193) rfl rfl
theorem w285 : Cond.selects RX3 yX3_tellLife yX3_tellLife ∈ TB := tbm_1 (i := 194) rfl rfl
theorem w286 : Cond.code yX3_tellNeed cX3_tellNeed 3 (some .boolean) ∈ TB := tbm_1 (i := 199) rfl rfl
theorem w287 : Cond.methodLink RX4 57 yX3_tellNeed ∈ TB := tbm_1 (i := 196) rfl rfl
theorem w288 : Cond.instanceMethod yX3_tellNeed ∈ TB := tbm_1 (i := 197) rfl rfl
theorem w289 : Cond.selects RX3 yX3_tellNeed yX3_tellNeed ∈ TB := tbm_1 (i := 198) rfl rfl
theorem w290 : Cond.methodLink RX5 1 objectInit ∈ TB := tbm_1 (i := 19) rfl rfl
theorem w291 : Cond.fieldLink RX5 9 "BottomDrawer" "text" "[C" ∈ TB := tbm_2 (i := 42) rfl rfl
theorem w292 : Cond.fieldLink RX5 13 "BottomDrawer" "length" "I" ∈ TB := tbm_2 (i := 43) rfl rfl
theorem w293 : Cond.code yX4_firstFault cX4_firstFault 7 (some .int) ∈ TB := tbm_1 (i := 155) rfl rfl
theorem w294 : Cond.methodLink RX5 31 yX4_firstFault ∈ TB := tbm_1 (i := 152) rfl rfl
theorem w295 : Cond.instanceMethod yX4_firstFault ∈ TB := tbm_1 (i := 153) rfl rfl
theorem w296 : Cond.selects RX4 yX4_firstFault yX4_firstFault ∈ TB := tbm_1 (i := 154) rfl rfl
theorem w297 : Cond.code yX1_init cX1_init 1 none ∈ TB := tbm_1 (i := 213) rfl rfl
theorem w298 : Cond.instanceMethod yX1_init ∈ TB := tbm_1 (i := 212) rfl rfl
theorem w299 : Cond.code yX1_begin cX1_begin 2 none ∈ TB := tbm_2 (i := 2) rfl rfl
theorem w300 : Cond.methodLink RX5 38 yX1_begin ∈ TB := tbm_1 (i := 239) rfl rfl
theorem w301 : Cond.instanceMethod yX1_begin ∈ TB := tbm_2 (i := 0) rfl rfl
theorem w302 : Cond.selects RX1 yX1_begin yX1_begin ∈ TB := tbm_2 (i := 1) rfl rfl
theorem w303 : Cond.fieldLink RX5 42 "BottomDrawer" "reader" "LBottomDrawer$Reader;" ∈ TB := tbm_2 (i := 44) rfl rfl
theorem w304 : Cond.fieldLink RX5 49 "BottomDrawer" "counsel" "LBottomDrawer$Counsel;" ∈ TB := tbm_2 (i := 45) rfl rfl
theorem w305 : Cond.fieldLink RX5 53 "BottomDrawer" "laid" "LBottomDrawer$Plan;" ∈ TB := tbm_2 (i := 46) rfl rfl
theorem w306 : Cond.fieldLink RX5 57 "BottomDrawer" "spare" "LBottomDrawer$Plan;" ∈ TB := tbm_2 (i := 47) rfl rfl
theorem w307 : Cond.fieldLink RX5 60 "BottomDrawer" "now" "LBottomDrawer$Hour;" ∈ TB := tbm_2 (i := 48) rfl rfl
theorem w308 : Cond.fieldLink RX5 64 "BottomDrawer" "then" "LBottomDrawer$Hour;" ∈ TB := tbm_2 (i := 49) rfl rfl
theorem w309 : Cond.fieldLink RX5 72 "BottomDrawer" "past" "LBottomDrawer$Pile;" ∈ TB := tbm_2 (i := 50) rfl rfl
theorem w310 : Cond.fieldLink RX5 76 "BottomDrawer" "kept" "LBottomDrawer$Pile;" ∈ TB := tbm_2 (i := 51) rfl rfl
theorem w311 : Cond.fieldLink RX5 79 "BottomDrawer$Plan" "things" "I" ∈ TB := tbm_1 (i := 51) rfl rfl
theorem w312 : Cond.fieldLink RX5 82 "BottomDrawer$Plan" "lives" "I" ∈ TB := tbm_1 (i := 54) rfl rfl
theorem w313 : Cond.code yX2_empty cX2_empty 1 none ∈ TB := tbm_2 (i := 101) rfl rfl
theorem w314 : Cond.methodLink RX5 85 yX2_empty ∈ TB := tbm_2 (i := 98) rfl rfl
theorem w315 : Cond.instanceMethod yX2_empty ∈ TB := tbm_2 (i := 99) rfl rfl
theorem w316 : Cond.selects RX2 yX2_empty yX2_empty ∈ TB := tbm_2 (i := 100) rfl rfl
theorem w317 : Cond.code yX5_forget cX5_forget 2 (some .int) ∈ TB := tbm_2 (i := 105) rfl rfl
theorem w318 : Cond.methodLink RX5 88 yX5_forget ∈ TB := tbm_2 (i := 102) rfl rfl
theorem w319 : Cond.instanceMethod yX5_forget ∈ TB := tbm_2 (i := 103) rfl rfl
theorem w320 : Cond.selects RX5 yX5_forget yX5_forget ∈ TB := tbm_2 (i := 104) rfl rfl
theorem w321 : Cond.methodLink RX5 92 yX3_isThing ∈ TB := tbm_2 (i := 110) rfl rfl
theorem w322 : Cond.fieldLink RX5 96 "BottomDrawer$Plan" "kinds" "[I" ∈ TB := tbm_1 (i := 61) rfl rfl
theorem w323 : Cond.methodLink RX5 100 yX5_at ∈ TB := tbm_2 (i := 111) rfl rfl
theorem w324 : Cond.fieldLink RX5 104 "BottomDrawer$Plan" "sizes" "[I" ∈ TB := tbm_1 (i := 63) rfl rfl
theorem w325 : Cond.fieldLink RX5 107 "BottomDrawer$Plan" "costs" "[I" ∈ TB := tbm_1 (i := 66) rfl rfl
theorem w326 : Cond.fieldLink RX5 110 "BottomDrawer$Hour" "drawer" "I" ∈ TB := tbm_1 (i := 218) rfl rfl
theorem w327 : Cond.methodLink RX5 113 yX5_has ∈ TB := tbm_2 (i := 112) rfl rfl
theorem w328 : Cond.methodLink RX5 117 yX5_bit ∈ TB := tbm_2 (i := 115) rfl rfl
theorem w329 : Cond.methodLink RX5 121 yX1_canPutBy ∈ TB := tbm_2 (i := 116) rfl rfl
theorem w330 : Cond.code yX3_livesThatNeed cX3_livesThatNeed 4 (some .int) ∈ TB := tbm_2 (i := 136) rfl rfl
theorem w331 : Cond.methodLink RX5 125 yX3_livesThatNeed ∈ TB := tbm_2 (i := 133) rfl rfl
theorem w332 : Cond.instanceMethod yX3_livesThatNeed ∈ TB := tbm_2 (i := 134) rfl rfl
theorem w333 : Cond.selects RX3 yX3_livesThatNeed yX3_livesThatNeed ∈ TB := tbm_2 (i := 135) rfl rfl
theorem w334 : Cond.methodLink RX5 129 yX3_isLife ∈ TB := tbm_2 (i := 141) rfl rfl
theorem w335 : Cond.fieldLink RX5 132 "BottomDrawer$Plan" "chances" "[I" ∈ TB := tbm_1 (i := 68) rfl rfl
theorem w336 : Cond.fieldLink RX5 135 "BottomDrawer$Plan" "hers" "[I" ∈ TB := tbm_1 (i := 70) rfl rfl
theorem w337 : Cond.fieldLink RX5 138 "BottomDrawer$Plan" "his" "[I" ∈ TB := tbm_1 (i := 73) rfl rfl
theorem w338 : Cond.fieldLink RX5 141 "BottomDrawer$Plan" "needs" "[I" ∈ TB := tbm_1 (i := 76) rfl rfl
theorem w339 : Cond.methodLink RX5 144 yX3_canBe ∈ TB := tbm_2 (i := 142) rfl rfl
theorem w340 : Cond.fieldLink RX5 147 "BottomDrawer$Hour" "lived" "I" ∈ TB := tbm_1 (i := 221) rfl rfl
theorem w341 : Cond.methodLink RX5 150 yX3_roomTaken ∈ TB := tbm_2 (i := 150) rfl rfl
theorem w342 : Cond.code yX3_isSetOfThings cX3_isSetOfThings 2 (some .boolean) ∈ TB := tbm_2 (i := 158) rfl rfl
theorem w343 : Cond.methodLink RX5 153 yX3_isSetOfThings ∈ TB := tbm_2 (i := 155) rfl rfl
theorem w344 : Cond.instanceMethod yX3_isSetOfThings ∈ TB := tbm_2 (i := 156) rfl rfl
theorem w345 : Cond.selects RX3 yX3_isSetOfThings yX3_isSetOfThings ∈ TB := tbm_2 (i := 157) rfl rfl
theorem w346 : Cond.code yX5_isPart cX5_isPart 1 (some .boolean) ∈ TB := tbm_2 (i := 161) rfl rfl
theorem w347 : Cond.methodLink RX5 156 yX5_isPart ∈ TB := tbm_2 (i := 159) rfl rfl
theorem w348 : Cond.static yX5_isPart ∈ TB := tbm_2 (i := 160) rfl rfl
theorem w349 : Cond.code yX5_worthPart cX5_worthPart 3 (some .int) ∈ TB := tbm_2 (i := 165) rfl rfl
theorem w350 : Cond.methodLink RX5 159 yX5_worthPart ∈ TB := tbm_2 (i := 162) rfl rfl
theorem w351 : Cond.instanceMethod yX5_worthPart ∈ TB := tbm_2 (i := 164) rfl rfl
theorem w352 : Cond.selects RX5 yX5_worthPart yX5_worthPart ∈ TB := tbp_1 (i := 2) (q := (yX5_worthPart, 13)) rfl
theorem w353 : Cond.code yX2_add cX2_add 2 none ∈ TB := tbm_2 (i := 188) rfl rfl
theorem w354 : Cond.methodLink RX5 163 yX2_add ∈ TB := tbm_2 (i := 185) rfl rfl
theorem w355 : Cond.instanceMethod yX2_add ∈ TB := tbm_2 (i := 186) rfl rfl
theorem w356 : Cond.selects RX2 yX2_add yX2_add ∈ TB := tbm_2 (i := 187) rfl rfl
theorem w357 : Cond.methodLink RX5 167 yX1_putBy ∈ TB := tbm_2 (i := 195) rfl rfl
theorem w358 : Cond.code yX5_roomLeft cX5_roomLeft 1 (some .int) ∈ TB := tbm_2 (i := 202) rfl rfl
theorem w359 : Cond.methodLink RX5 171 yX5_roomLeft ∈ TB := tbm_2 (i := 199) rfl rfl
theorem w360 : Cond.instanceMethod yX5_roomLeft ∈ TB := tbm_2 (i := 201) rfl rfl
theorem w361 : Cond.selects RX5 yX5_roomLeft yX5_roomLeft ∈ TB := tbp_1 (i := 4) (q := (yX5_roomLeft, 13)) rfl
theorem w362 : Cond.methodLink RX5 174 yX1_takeOut ∈ TB := tbm_2 (i := 207) rfl rfl
theorem w363 : Cond.methodLink RX5 177 yX1_canBeLived ∈ TB := tbm_2 (i := 215) rfl rfl
theorem w364 : Cond.methodLink RX5 180 yX1_liveLife ∈ TB := tbm_2 (i := 220) rfl rfl
theorem w365 : Cond.methodLink RX5 184 yX1_goBy ∈ TB := tbm_2 (i := 232) rfl rfl
theorem w366 : Cond.fieldLink RX5 187 "BottomDrawer$Hour" "coins" "I" ∈ TB := tbm_1 (i := 225) rfl rfl
theorem w367 : Cond.fieldLink RX5 190 "BottomDrawer$Pile" "height" "I" ∈ TB := tbm_2 (i := 23) rfl rfl
theorem w368 : Cond.code yX2_takeTop cX2_takeTop 2 none ∈ TB := tbm_3 (i := 10) rfl rfl
theorem w369 : Cond.methodLink RX5 193 yX2_takeTop ∈ TB := tbm_3 (i := 7) rfl rfl
theorem w370 : Cond.instanceMethod yX2_takeTop ∈ TB := tbm_3 (i := 8) rfl rfl
theorem w371 : Cond.selects RX2 yX2_takeTop yX2_takeTop ∈ TB := tbm_3 (i := 9) rfl rfl
theorem w372 : Cond.code yX0_bestSet cX0_bestSet 9 (some .int) ∈ TB := tbm_3 (i := 18) rfl rfl
theorem w373 : Cond.methodLink RX5 196 yX0_bestSet ∈ TB := tbm_3 (i := 15) rfl rfl
theorem w374 : Cond.instanceMethod yX0_bestSet ∈ TB := tbm_3 (i := 16) rfl rfl
theorem w375 : Cond.selects RX0 yX0_bestSet yX0_bestSet ∈ TB := tbm_3 (i := 17) rfl rfl
theorem w376 : Cond.code yX3_isSetOfLives cX3_isSetOfLives 2 (some .boolean) ∈ TB := tbm_3 (i := 41) rfl rfl
theorem w377 : Cond.methodLink RX5 200 yX3_isSetOfLives ∈ TB := tbm_3 (i := 38) rfl rfl
theorem w378 : Cond.instanceMethod yX3_isSetOfLives ∈ TB := tbm_3 (i := 39) rfl rfl
theorem w379 : Cond.selects RX3 yX3_isSetOfLives yX3_isSetOfLives ∈ TB := tbm_3 (i := 40) rfl rfl
theorem w380 : Cond.code yX0_fewestThings cX0_fewestThings 5 (some .int) ∈ TB := tbm_3 (i := 45) rfl rfl
theorem w381 : Cond.methodLink RX5 203 yX0_fewestThings ∈ TB := tbm_3 (i := 42) rfl rfl
theorem w382 : Cond.instanceMethod yX0_fewestThings ∈ TB := tbm_3 (i := 43) rfl rfl
theorem w383 : Cond.selects RX0 yX0_fewestThings yX0_fewestThings ∈ TB := tbm_3 (i := 44) rfl rfl
theorem w384 : Cond.methodLink RX5 206 yJ6_bitCount_0f7a4 ∈ TB := tbm_3 (i := 50) rfl rfl
theorem w385 : Cond.code yX0_servesMost cX0_servesMost 7 (some .int) ∈ TB := tbm_3 (i := 58) rfl rfl
theorem w386 : Cond.methodLink RX5 211 yX0_servesMost ∈ TB := tbm_3 (i := 55) rfl rfl
theorem w387 : Cond.instanceMethod yX0_servesMost ∈ TB := tbm_3 (i := 56) rfl rfl
theorem w388 : Cond.selects RX0 yX0_servesMost yX0_servesMost ∈ TB := tbm_3 (i := 57) rfl rfl
theorem w389 : Cond.code yX0_longestRow cX0_longestRow 8 (some .int) ∈ TB := tbm_3 (i := 67) rfl rfl
theorem w390 : Cond.methodLink RX5 214 yX0_longestRow ∈ TB := tbm_3 (i := 64) rfl rfl
theorem w391 : Cond.instanceMethod yX0_longestRow ∈ TB := tbm_3 (i := 65) rfl rfl
theorem w392 : Cond.selects RX0 yX0_longestRow yX0_longestRow ∈ TB := tbm_3 (i := 66) rfl rfl
theorem w393 : Cond.methodLink RX5 217 yX3_livesBy ∈ TB := tbm_3 (i := 94) rfl rfl
theorem w394 : Cond.code yX0_bargains cX0_bargains 5 (some .int) ∈ TB := tbm_3 (i := 98) rfl rfl
theorem w395 : Cond.methodLink RX5 220 yX0_bargains ∈ TB := tbm_3 (i := 95) rfl rfl
theorem w396 : Cond.instanceMethod yX0_bargains ∈ TB := tbm_3 (i := 96) rfl rfl
theorem w397 : Cond.selects RX0 yX0_bargains yX0_bargains ∈ TB := tbm_3 (i := 97) rfl rfl
theorem w398 : Cond.code yX0_leftByTalk cX0_leftByTalk 3 (some .int) ∈ TB := tbm_3 (i := 109) rfl rfl
theorem w399 : Cond.methodLink RX5 223 yX0_leftByTalk ∈ TB := tbm_3 (i := 106) rfl rfl
theorem w400 : Cond.instanceMethod yX0_leftByTalk ∈ TB := tbm_3 (i := 107) rfl rfl
theorem w401 : Cond.selects RX0 yX0_leftByTalk yX0_leftByTalk ∈ TB := tbm_3 (i := 108) rfl rfl
theorem w402 : Cond.code yX0_struckFirst cX0_struckFirst 3 (some .int) ∈ TB := tbm_3 (i := 121) rfl rfl
theorem w403 : Cond.methodLink RX5 226 yX0_struckFirst ∈ TB := tbm_3 (i := 118) rfl rfl
theorem w404 : Cond.instanceMethod yX0_struckFirst ∈ TB := tbm_3 (i := 119) rfl rfl
theorem w405 : Cond.selects RX0 yX0_struckFirst yX0_struckFirst ∈ TB := tbm_3 (i := 120) rfl rfl
theorem w406 : Cond.fieldLink RX5 229 "BottomDrawer" "seen" "I" ∈ TB := tbm_2 (i := 52) rfl rfl
theorem w407 : Cond.fieldLink RX5 232 "BottomDrawer" "seenToBe" "I" ∈ TB := tbm_2 (i := 53) rfl rfl
theorem w408 : Cond.fieldLink RX5 235 "BottomDrawer" "seenNotToBe" "I" ∈ TB := tbm_2 (i := 54) rfl rfl
theorem w409 : Cond.code yX5_power cX5_power 4 (some .int) ∈ TB := tbm_3 (i := 137) rfl rfl
theorem w410 : Cond.methodLink RX5 238 yX5_power ∈ TB := tbm_3 (i := 135) rfl rfl
theorem w411 : Cond.static yX5_power ∈ TB := tbm_3 (i := 136) rfl rfl
theorem w412 : Cond.code yX5_chanceBehindMoths cX5_chanceBehindMoths 7 (some .int) ∈ TB := tbm_3 (i := 141) rfl rfl
theorem w413 : Cond.methodLink RX5 241 yX5_chanceBehindMoths ∈ TB := tbm_3 (i := 138) rfl rfl
theorem w414 : Cond.instanceMethod yX5_chanceBehindMoths ∈ TB := tbm_3 (i := 140) rfl rfl
theorem w415 : Cond.selects RX5 yX5_chanceBehindMoths yX5_chanceBehindMoths ∈ TB := tbp_1 (i := 9) (q := (yX5_chanceBehindMoths, 13)) rfl
theorem w416 : Cond.code yX5_lowestTerms cX5_lowestTerms 4 (some .int) ∈ TB := tbm_2 (i := 177) rfl rfl
theorem w417 : Cond.methodLink RX5 244 yX5_lowestTerms ∈ TB := tbm_2 (i := 175) rfl rfl
theorem w418 : Cond.static yX5_lowestTerms ∈ TB := tbm_2 (i := 176) rfl rfl
theorem w419 : Cond.code yX1_copy cX1_copy 2 none ∈ TB := tbm_3 (i := 149) rfl rfl
theorem w420 : Cond.methodLink RX5 248 yX1_copy ∈ TB := tbm_3 (i := 146) rfl rfl
theorem w421 : Cond.instanceMethod yX1_copy ∈ TB := tbm_3 (i := 147) rfl rfl
theorem w422 : Cond.selects RX1 yX1_copy yX1_copy ∈ TB := tbm_3 (i := 148) rfl rfl
theorem w423 : Cond.code yX5_draw cX5_draw 4 (some .int) ∈ TB := tbm_3 (i := 152) rfl rfl
theorem w424 : Cond.methodLink RX5 251 yX5_draw ∈ TB := tbm_3 (i := 150) rfl rfl
theorem w425 : Cond.static yX5_draw ∈ TB := tbm_3 (i := 151) rfl rfl
theorem w426 : Cond.code yX1_goByDraw cX1_goByDraw 4 none ∈ TB := tbm_3 (i := 159) rfl rfl
theorem w427 : Cond.methodLink RX5 254 yX1_goByDraw ∈ TB := tbm_3 (i := 156) rfl rfl
theorem w428 : Cond.instanceMethod yX1_goByDraw ∈ TB := tbm_3 (i := 157) rfl rfl
theorem w429 : Cond.selects RX1 yX1_goByDraw yX1_goByDraw ∈ TB := tbm_3 (i := 158) rfl rfl
theorem w430 : Cond.fieldLink RX5 257 "BottomDrawer$Plan" "room" "I" ∈ TB := tbm_1 (i := 46) rfl rfl
theorem w431 : Cond.fieldLink RX5 260 "BottomDrawer$Hour" "years" "I" ∈ TB := tbm_1 (i := 228) rfl rfl
theorem w432 : Cond.methodLink RX5 263 yX3_gain ∈ TB := tbm_2 (i := 166) rfl rfl
theorem w433 : Cond.code yX3_chanceOfAll cX3_chanceOfAll 3 (some .int) ∈ TB := tbm_2 (i := 174) rfl rfl
theorem w434 : Cond.methodLink RX5 266 yX3_chanceOfAll ∈ TB := tbm_2 (i := 171) rfl rfl
theorem w435 : Cond.instanceMethod yX3_chanceOfAll ∈ TB := tbm_2 (i := 172) rfl rfl
theorem w436 : Cond.selects RX3 yX3_chanceOfAll yX3_chanceOfAll ∈ TB := tbm_2 (i := 173) rfl rfl
theorem w437 : Cond.constantLong RX5 269 (7919) ∈ TB := tbm_3 (i := 153) rfl rfl
theorem w438 : Cond.constantLong RX5 271 (6151) ∈ TB := tbm_3 (i := 154) rfl rfl
theorem w439 : Cond.constantLong RX5 273 (65521) ∈ TB := tbm_3 (i := 155) rfl rfl
theorem w440 : Cond.code yX5_commonDivisor cX5_commonDivisor 6 (some .int) ∈ TB := tbm_2 (i := 180) rfl rfl
theorem w441 : Cond.methodLink RX5 275 yX5_commonDivisor ∈ TB := tbm_2 (i := 178) rfl rfl
theorem w442 : Cond.static yX5_commonDivisor ∈ TB := tbm_2 (i := 179) rfl rfl
theorem w443 : Cond.methodLink RX6 1 objectInit ∈ TB := tbm_3 (i := 187) rfl rfl
theorem w444 : Cond.fieldLink RX6 7 "BottomDrawerModel" "w" "[I" ∈ TB := tbm_3 (i := 204) rfl rfl
theorem w445 : Cond.fieldLink RX6 13 "BottomDrawerModel" "kind" "[I" ∈ TB := tbm_3 (i := 210) rfl rfl
theorem w446 : Cond.fieldLink RX6 16 "BottomDrawerModel" "takes" "[I" ∈ TB := tbm_3 (i := 211) rfl rfl
theorem w447 : Cond.fieldLink RX6 19 "BottomDrawerModel" "costs" "[I" ∈ TB := tbm_3 (i := 212) rfl rfl
theorem w448 : Cond.fieldLink RX6 22 "BottomDrawerModel" "likely" "[I" ∈ TB := tbm_3 (i := 214) rfl rfl
theorem w449 : Cond.fieldLink RX6 25 "BottomDrawerModel" "toHer" "[I" ∈ TB := tbm_3 (i := 215) rfl rfl
theorem w450 : Cond.fieldLink RX6 28 "BottomDrawerModel" "toHim" "[I" ∈ TB := tbm_3 (i := 216) rfl rfl
theorem w451 : Cond.fieldLink RX6 31 "BottomDrawerModel" "needs" "[I" ∈ TB := tbm_3 (i := 217) rfl rfl
theorem w452 : Cond.fieldLink RX6 34 "BottomDrawerModel" "text" "[I" ∈ TB := tbm_3 (i := 221) rfl rfl
theorem w453 : Cond.fieldLink RX6 37 "BottomDrawerModel" "readThing" "[I" ∈ TB := tbm_3 (i := 228) rfl rfl
theorem w454 : Cond.fieldLink RX6 40 "BottomDrawerModel" "readLife" "[I" ∈ TB := tbm_3 (i := 230) rfl rfl
theorem w455 : Cond.fieldLink RX6 43 "BottomDrawerModel" "readNeeds" "[I" ∈ TB := tbm_3 (i := 231) rfl rfl
theorem w456 : Cond.fieldLink RX6 46 "BottomDrawerModel" "tried" "[I" ∈ TB := tbm_3 (i := 232) rfl rfl
theorem w457 : Cond.fieldLink RX6 49 "BottomDrawerModel" "bestRow" "[I" ∈ TB := tbm_3 (i := 233) rfl rfl
theorem w458 : Cond.fieldLink RX6 52 "BottomDrawerModel" "left" "[I" ∈ TB := tbm_3 (i := 234) rfl rfl
theorem w459 : Cond.fieldLink RX6 55 "BottomDrawerModel" "struck" "[I" ∈ TB := tbm_3 (i := 235) rfl rfl
theorem w460 : Cond.fieldLink RX6 58 "BottomDrawerModel" "readSpace" "I" ∈ TB := tbm_3 (i := 225) rfl rfl
theorem w461 : Cond.fieldLink RX6 62 "BottomDrawerModel" "readYearly" "I" ∈ TB := tbm_3 (i := 226) rfl rfl
theorem w462 : Cond.initialized RX6 ∈ TB := tbm_1 (i := 11) rfl rfl
theorem w463 : Cond.code yX6_addsThing cX6_addsThing 4 none ∈ TB := tbm_3 (i := 191) rfl rfl
theorem w464 : Cond.methodLink RX6 65 yX6_addsThing ∈ TB := tbm_3 (i := 188) rfl rfl
theorem w465 : Cond.instanceMethod yX6_addsThing ∈ TB := tbm_3 (i := 190) rfl rfl
theorem w466 : Cond.selects RX6 yX6_addsThing yX6_addsThing ∈ TB := tbp_1 (i := 11) (q := (yX6_addsThing, 32)) rfl
theorem w467 : Cond.code yX6_addsLife cX6_addsLife 4 none ∈ TB := tbm_3 (i := 195) rfl rfl
theorem w468 : Cond.methodLink RX6 69 yX6_addsLife ∈ TB := tbm_3 (i := 192) rfl rfl
theorem w469 : Cond.instanceMethod yX6_addsLife ∈ TB := tbm_3 (i := 194) rfl rfl
theorem w470 : Cond.selects RX6 yX6_addsLife yX6_addsLife ∈ TB := tbp_1 (i := 12) (q := (yX6_addsLife, 32)) rfl
theorem w471 : Cond.code yX6_begins cX6_begins 2 none ∈ TB := tbm_3 (i := 199) rfl rfl
theorem w472 : Cond.methodLink RX6 72 yX6_begins ∈ TB := tbm_3 (i := 196) rfl rfl
theorem w473 : Cond.instanceMethod yX6_begins ∈ TB := tbm_3 (i := 198) rfl rfl
theorem w474 : Cond.selects RX6 yX6_begins yX6_begins ∈ TB := tbp_1 (i := 13) (q := (yX6_begins, 32)) rfl
theorem w475 : Cond.fieldLink RX6 75 "BottomDrawerModel" "things" "I" ∈ TB := tbm_3 (i := 209) rfl rfl
theorem w476 : Cond.code yX6_in cX6_in 6 (some .boolean) ∈ TB := tbm_4 (i := 69) rfl rfl
theorem w477 : Cond.methodLink RX6 78 yX6_in ∈ TB := tbm_4 (i := 67) rfl rfl
theorem w478 : Cond.static yX6_in ∈ TB := tbm_4 (i := 68) rfl rfl
theorem w479 : Cond.fieldLink RX6 82 "BottomDrawerModel" "lives" "I" ∈ TB := tbm_3 (i := 213) rfl rfl
theorem w480 : Cond.fieldLink RX6 85 "BottomDrawerModel" "readThings" "I" ∈ TB := tbm_3 (i := 227) rfl rfl
theorem w481 : Cond.fieldLink RX6 88 "BottomDrawerModel" "readLives" "I" ∈ TB := tbm_3 (i := 229) rfl rfl
theorem w482 : Cond.fieldLink RX6 91 "BottomDrawerModel" "space" "I" ∈ TB := tbm_3 (i := 207) rfl rfl
theorem w483 : Cond.fieldLink RX6 94 "BottomDrawerModel" "yearly" "I" ∈ TB := tbm_3 (i := 208) rfl rfl
theorem w484 : Cond.fieldLink RX6 97 "BottomDrawerModel" "undoes" "I" ∈ TB := tbm_3 (i := 205) rfl rfl
theorem w485 : Cond.fieldLink RX6 100 "BottomDrawerModel" "kept" "I" ∈ TB := tbm_3 (i := 206) rfl rfl
theorem w486 : Cond.code yX6_forget cX6_forget 2 (some .int) ∈ TB := tbm_3 (i := 203) rfl rfl
theorem w487 : Cond.methodLink RX6 103 yX6_forget ∈ TB := tbm_3 (i := 200) rfl rfl
theorem w488 : Cond.instanceMethod yX6_forget ∈ TB := tbm_3 (i := 201) rfl rfl
theorem w489 : Cond.selects RX6 yX6_forget yX6_forget ∈ TB := tbm_3 (i := 202) rfl rfl
theorem w490 : Cond.constantLong RX6 107 (32) ∈ TB := tbm_4 (i := 65) rfl rfl
theorem w491 : Cond.constantLong RX6 109 (126) ∈ TB := tbm_4 (i := 66) rfl rfl
theorem w492 : Cond.fieldLink RX6 111 "BottomDrawerModel" "texted" "I" ∈ TB := tbm_3 (i := 222) rfl rfl
theorem w493 : Cond.fieldLink RX6 114 "BottomDrawerModel" "place" "I" ∈ TB := tbm_3 (i := 223) rfl rfl
theorem w494 : Cond.fieldLink RX6 117 "BottomDrawerModel" "number" "I" ∈ TB := tbm_3 (i := 224) rfl rfl
theorem w495 : Cond.code yX6_letterAt cX6_letterAt 2 (some .int) ∈ TB := tbm_4 (i := 89) rfl rfl
theorem w496 : Cond.methodLink RX6 120 yX6_letterAt ∈ TB := tbm_4 (i := 86) rfl rfl
theorem w497 : Cond.instanceMethod yX6_letterAt ∈ TB := tbm_4 (i := 88) rfl rfl
theorem w498 : Cond.selects RX6 yX6_letterAt yX6_letterAt ∈ TB := tbp_2 (i := 0) (q := (yX6_letterAt, 32)) rfl
theorem w499 : Cond.constantLong RX6 124 (48) ∈ TB := tbm_4 (i := 98) rfl rfl
theorem w500 : Cond.constantLong RX6 126 (57) ∈ TB := tbm_4 (i := 99) rfl rfl
theorem w501 : Cond.code yX6_takesNumber cX6_takesNumber 5 (some .boolean) ∈ TB := tbm_4 (i := 97) rfl rfl
theorem w502 : Cond.methodLink RX6 128 yX6_takesNumber ∈ TB := tbm_4 (i := 94) rfl rfl
theorem w503 : Cond.instanceMethod yX6_takesNumber ∈ TB := tbm_4 (i := 96) rfl rfl
theorem w504 : Cond.selects RX6 yX6_takesNumber yX6_takesNumber ∈ TB := tbp_2 (i := 2) (q := (yX6_takesNumber, 32)) rfl
theorem w505 : Cond.code yX6_takesRoom cX6_takesRoom 2 (some .boolean) ∈ TB := tbm_4 (i := 93) rfl rfl
theorem w506 : Cond.methodLink RX6 132 yX6_takesRoom ∈ TB := tbm_4 (i := 90) rfl rfl
theorem w507 : Cond.instanceMethod yX6_takesRoom ∈ TB := tbm_4 (i := 92) rfl rfl
theorem w508 : Cond.selects RX6 yX6_takesRoom yX6_takesRoom ∈ TB := tbp_2 (i := 1) (q := (yX6_takesRoom, 32)) rfl
theorem w509 : Cond.code yX6_takesThing cX6_takesThing 3 (some .boolean) ∈ TB := tbm_4 (i := 103) rfl rfl
theorem w510 : Cond.methodLink RX6 136 yX6_takesThing ∈ TB := tbm_4 (i := 100) rfl rfl
theorem w511 : Cond.instanceMethod yX6_takesThing ∈ TB := tbm_4 (i := 102) rfl rfl
theorem w512 : Cond.selects RX6 yX6_takesThing yX6_takesThing ∈ TB := tbp_2 (i := 3) (q := (yX6_takesThing, 32)) rfl
theorem w513 : Cond.code yX6_takesLife cX6_takesLife 3 (some .boolean) ∈ TB := tbm_4 (i := 107) rfl rfl
theorem w514 : Cond.methodLink RX6 139 yX6_takesLife ∈ TB := tbm_4 (i := 104) rfl rfl
theorem w515 : Cond.instanceMethod yX6_takesLife ∈ TB := tbm_4 (i := 106) rfl rfl
theorem w516 : Cond.selects RX6 yX6_takesLife yX6_takesLife ∈ TB := tbp_2 (i := 4) (q := (yX6_takesLife, 32)) rfl
theorem w517 : Cond.code yX6_takesNeed cX6_takesNeed 2 (some .boolean) ∈ TB := tbm_4 (i := 111) rfl rfl
theorem w518 : Cond.methodLink RX6 142 yX6_takesNeed ∈ TB := tbm_4 (i := 108) rfl rfl
theorem w519 : Cond.instanceMethod yX6_takesNeed ∈ TB := tbm_4 (i := 110) rfl rfl
theorem w520 : Cond.selects RX6 yX6_takesNeed yX6_takesNeed ∈ TB := tbp_2 (i := 5) (q := (yX6_takesNeed, 32)) rfl
theorem w521 : Cond.code yX6_takesItem cX6_takesItem 2 (some .boolean) ∈ TB := tbm_4 (i := 85) rfl rfl
theorem w522 : Cond.methodLink RX6 145 yX6_takesItem ∈ TB := tbm_4 (i := 82) rfl rfl
theorem w523 : Cond.instanceMethod yX6_takesItem ∈ TB := tbm_4 (i := 84) rfl rfl
theorem w524 : Cond.selects RX6 yX6_takesItem yX6_takesItem ∈ TB := tbp_1 (i := 15) (q := (yX6_takesItem, 32)) rfl
theorem w525 : Cond.code yX6_faultOf cX6_faultOf 2 (some .int) ∈ TB := tbm_4 (i := 81) rfl rfl
theorem w526 : Cond.methodLink RX6 148 yX6_faultOf ∈ TB := tbm_4 (i := 78) rfl rfl
theorem w527 : Cond.instanceMethod yX6_faultOf ∈ TB := tbm_4 (i := 80) rfl rfl
theorem w528 : Cond.selects RX6 yX6_faultOf yX6_faultOf ∈ TB := tbp_1 (i := 14) (q := (yX6_faultOf, 32)) rfl
theorem w529 : Cond.code yX6_has cX6_has 2 (some .boolean) ∈ TB := tbm_4 (i := 130) rfl rfl
theorem w530 : Cond.methodLink RX6 151 yX6_has ∈ TB := tbm_4 (i := 128) rfl rfl
theorem w531 : Cond.static yX6_has ∈ TB := tbm_4 (i := 129) rfl rfl
theorem w532 : Cond.code yX6_ones cX6_ones 3 (some .int) ∈ TB := tbm_4 (i := 153) rfl rfl
theorem w533 : Cond.methodLink RX6 155 yX6_ones ∈ TB := tbm_4 (i := 151) rfl rfl
theorem w534 : Cond.static yX6_ones ∈ TB := tbm_4 (i := 152) rfl rfl
theorem w535 : Cond.code yX6_canBy cX6_canBy 6 (some .boolean) ∈ TB := tbm_4 (i := 150) rfl rfl
theorem w536 : Cond.methodLink RX6 158 yX6_canBy ∈ TB := tbm_4 (i := 147) rfl rfl
theorem w537 : Cond.instanceMethod yX6_canBy ∈ TB := tbm_4 (i := 149) rfl rfl
theorem w538 : Cond.selects RX6 yX6_canBy yX6_canBy ∈ TB := tbp_2 (i := 11) (q := (yX6_canBy, 32)) rfl
theorem w539 : Cond.code yX6_likelyOfAll cX6_likelyOfAll 3 (some .int) ∈ TB := tbm_4 (i := 173) rfl rfl
theorem w540 : Cond.methodLink RX6 161 yX6_likelyOfAll ∈ TB := tbm_4 (i := 170) rfl rfl
theorem w541 : Cond.instanceMethod yX6_likelyOfAll ∈ TB := tbm_4 (i := 172) rfl rfl
theorem w542 : Cond.selects RX6 yX6_likelyOfAll yX6_likelyOfAll ∈ TB := tbp_2 (i := 14) (q := (yX6_likelyOfAll, 32)) rfl
theorem w543 : Cond.code yX6_worthOf cX6_worthOf 4 (some .int) ∈ TB := tbm_4 (i := 177) rfl rfl
theorem w544 : Cond.methodLink RX6 164 yX6_worthOf ∈ TB := tbm_4 (i := 174) rfl rfl
theorem w545 : Cond.instanceMethod yX6_worthOf ∈ TB := tbm_4 (i := 176) rfl rfl
theorem w546 : Cond.selects RX6 yX6_worthOf yX6_worthOf ∈ TB := tbp_2 (i := 15) (q := (yX6_worthOf, 32)) rfl
theorem w547 : Cond.code yX6_partOf cX6_partOf 7 (some .int) ∈ TB := tbm_4 (i := 181) rfl rfl
theorem w548 : Cond.methodLink RX6 167 yX6_partOf ∈ TB := tbm_4 (i := 178) rfl rfl
theorem w549 : Cond.instanceMethod yX6_partOf ∈ TB := tbm_4 (i := 180) rfl rfl
theorem w550 : Cond.selects RX6 yX6_partOf yX6_partOf ∈ TB := tbp_3 (i := 0) (q := (yX6_partOf, 32)) rfl
theorem w551 : Cond.code yX6_roomOf cX6_roomOf 6 (some .int) ∈ TB := tbm_4 (i := 134) rfl rfl
theorem w552 : Cond.methodLink RX6 171 yX6_roomOf ∈ TB := tbm_4 (i := 131) rfl rfl
theorem w553 : Cond.instanceMethod yX6_roomOf ∈ TB := tbm_4 (i := 133) rfl rfl
theorem w554 : Cond.selects RX6 yX6_roomOf yX6_roomOf ∈ TB := tbp_2 (i := 8) (q := (yX6_roomOf, 32)) rfl
theorem w555 : Cond.code yX6_linenOf cX6_linenOf 5 (some .int) ∈ TB := tbm_4 (i := 217) rfl rfl
theorem w556 : Cond.methodLink RX6 174 yX6_linenOf ∈ TB := tbm_4 (i := 214) rfl rfl
theorem w557 : Cond.instanceMethod yX6_linenOf ∈ TB := tbm_4 (i := 216) rfl rfl
theorem w558 : Cond.selects RX6 yX6_linenOf yX6_linenOf ∈ TB := tbp_3 (i := 6) (q := (yX6_linenOf, 32)) rfl
theorem w559 : Cond.code yX6_isThing cX6_isThing 2 (some .boolean) ∈ TB := tbm_4 (i := 123) rfl rfl
theorem w560 : Cond.methodLink RX6 178 yX6_isThing ∈ TB := tbm_4 (i := 120) rfl rfl
theorem w561 : Cond.instanceMethod yX6_isThing ∈ TB := tbm_4 (i := 122) rfl rfl
theorem w562 : Cond.selects RX6 yX6_isThing yX6_isThing ∈ TB := tbp_2 (i := 6) (q := (yX6_isThing, 32)) rfl
theorem w563 : Cond.code yX6_canPut cX6_canPut 3 (some .boolean) ∈ TB := tbm_4 (i := 127) rfl rfl
theorem w564 : Cond.methodLink RX6 182 yX6_canPut ∈ TB := tbm_4 (i := 124) rfl rfl
theorem w565 : Cond.instanceMethod yX6_canPut ∈ TB := tbm_4 (i := 126) rfl rfl
theorem w566 : Cond.selects RX6 yX6_canPut yX6_canPut ∈ TB := tbp_2 (i := 7) (q := (yX6_canPut, 32)) rfl
theorem w567 : Cond.code yX6_neededBy cX6_neededBy 4 (some .int) ∈ TB := tbm_4 (i := 138) rfl rfl
theorem w568 : Cond.methodLink RX6 185 yX6_neededBy ∈ TB := tbm_4 (i := 135) rfl rfl
theorem w569 : Cond.instanceMethod yX6_neededBy ∈ TB := tbm_4 (i := 137) rfl rfl
theorem w570 : Cond.selects RX6 yX6_neededBy yX6_neededBy ∈ TB := tbp_2 (i := 9) (q := (yX6_neededBy, 32)) rfl
theorem w571 : Cond.code yX6_isLife cX6_isLife 2 (some .boolean) ∈ TB := tbm_4 (i := 146) rfl rfl
theorem w572 : Cond.methodLink RX6 188 yX6_isLife ∈ TB := tbm_4 (i := 143) rfl rfl
theorem w573 : Cond.instanceMethod yX6_isLife ∈ TB := tbm_4 (i := 145) rfl rfl
theorem w574 : Cond.selects RX6 yX6_isLife yX6_isLife ∈ TB := tbp_2 (i := 10) (q := (yX6_isLife, 32)) rfl
theorem w575 : Cond.code yX6_isSet cX6_isSet 2 (some .boolean) ∈ TB := tbm_4 (i := 165) rfl rfl
theorem w576 : Cond.methodLink RX6 191 yX6_isSet ∈ TB := tbm_4 (i := 162) rfl rfl
theorem w577 : Cond.instanceMethod yX6_isSet ∈ TB := tbm_4 (i := 164) rfl rfl
theorem w578 : Cond.selects RX6 yX6_isSet yX6_isSet ∈ TB := tbp_2 (i := 12) (q := (yX6_isSet, 32)) rfl
theorem w579 : Cond.code yX6_worthPart cX6_worthPart 4 (some .int) ∈ TB := tbm_4 (i := 169) rfl rfl
theorem w580 : Cond.methodLink RX6 194 yX6_worthPart ∈ TB := tbm_4 (i := 166) rfl rfl
theorem w581 : Cond.instanceMethod yX6_worthPart ∈ TB := tbm_4 (i := 168) rfl rfl
theorem w582 : Cond.selects RX6 yX6_worthPart yX6_worthPart ∈ TB := tbp_2 (i := 13) (q := (yX6_worthPart, 32)) rfl
theorem w583 : Cond.code yX6_copy cX6_copy 4 none ∈ TB := tbm_4 (i := 193) rfl rfl
theorem w584 : Cond.methodLink RX6 197 yX6_copy ∈ TB := tbm_4 (i := 190) rfl rfl
theorem w585 : Cond.instanceMethod yX6_copy ∈ TB := tbm_4 (i := 192) rfl rfl
theorem w586 : Cond.selects RX6 yX6_copy yX6_copy ∈ TB := tbp_3 (i := 2) (q := (yX6_copy, 32)) rfl
theorem w587 : Cond.code yX6_minds cX6_minds 2 none ∈ TB := tbm_4 (i := 189) rfl rfl
theorem w588 : Cond.methodLink RX6 201 yX6_minds ∈ TB := tbm_4 (i := 186) rfl rfl
theorem w589 : Cond.instanceMethod yX6_minds ∈ TB := tbm_4 (i := 188) rfl rfl
theorem w590 : Cond.selects RX6 yX6_minds yX6_minds ∈ TB := tbp_3 (i := 1) (q := (yX6_minds, 32)) rfl
theorem w591 : Cond.code yX6_puts cX6_puts 3 none ∈ TB := tbm_4 (i := 197) rfl rfl
theorem w592 : Cond.methodLink RX6 204 yX6_puts ∈ TB := tbm_4 (i := 194) rfl rfl
theorem w593 : Cond.instanceMethod yX6_puts ∈ TB := tbm_4 (i := 196) rfl rfl
theorem w594 : Cond.selects RX6 yX6_puts yX6_puts ∈ TB := tbp_3 (i := 3) (q := (yX6_puts, 32)) rfl
theorem w595 : Cond.code yX6_canLive cX6_canLive 3 (some .boolean) ∈ TB := tbm_4 (i := 209) rfl rfl
theorem w596 : Cond.methodLink RX6 207 yX6_canLive ∈ TB := tbm_4 (i := 206) rfl rfl
theorem w597 : Cond.instanceMethod yX6_canLive ∈ TB := tbm_4 (i := 208) rfl rfl
theorem w598 : Cond.selects RX6 yX6_canLive yX6_canLive ∈ TB := tbp_3 (i := 4) (q := (yX6_canLive, 32)) rfl
theorem w599 : Cond.code yX6_livesOne cX6_livesOne 4 (some .int) ∈ TB := tbm_4 (i := 213) rfl rfl
theorem w600 : Cond.methodLink RX6 210 yX6_livesOne ∈ TB := tbm_4 (i := 210) rfl rfl
theorem w601 : Cond.instanceMethod yX6_livesOne ∈ TB := tbm_4 (i := 212) rfl rfl
theorem w602 : Cond.selects RX6 yX6_livesOne yX6_livesOne ∈ TB := tbp_3 (i := 5) (q := (yX6_livesOne, 32)) rfl
theorem w603 : Cond.constantLong RX6 213 (20) ∈ TB := tbm_4 (i := 222) rfl rfl
theorem w604 : Cond.code yX6_passes cX6_passes 2 none ∈ TB := tbm_4 (i := 226) rfl rfl
theorem w605 : Cond.methodLink RX6 215 yX6_passes ∈ TB := tbm_4 (i := 223) rfl rfl
theorem w606 : Cond.instanceMethod yX6_passes ∈ TB := tbm_4 (i := 225) rfl rfl
theorem w607 : Cond.selects RX6 yX6_passes yX6_passes ∈ TB := tbp_3 (i := 7) (q := (yX6_passes, 32)) rfl
theorem w608 : Cond.constantLong RX6 219 (2) ∈ TB := tbm_4 (i := 235) rfl rfl
theorem w609 : Cond.code yX6_costOf cX6_costOf 4 (some .int) ∈ TB := tbm_4 (i := 239) rfl rfl
theorem w610 : Cond.methodLink RX6 221 yX6_costOf ∈ TB := tbm_4 (i := 236) rfl rfl
theorem w611 : Cond.instanceMethod yX6_costOf ∈ TB := tbm_4 (i := 238) rfl rfl
theorem w612 : Cond.selects RX6 yX6_costOf yX6_costOf ∈ TB := tbp_3 (i := 8) (q := (yX6_costOf, 32)) rfl
theorem w613 : Cond.code yX6_livesBy cX6_livesBy 4 (some .int) ∈ TB := tbm_5 (i := 7) rfl rfl
theorem w614 : Cond.methodLink RX6 224 yX6_livesBy ∈ TB := tbm_5 (i := 4) rfl rfl
theorem w615 : Cond.instanceMethod yX6_livesBy ∈ TB := tbm_5 (i := 6) rfl rfl
theorem w616 : Cond.selects RX6 yX6_livesBy yX6_livesBy ∈ TB := tbp_3 (i := 9) (q := (yX6_livesBy, 32)) rfl
theorem w617 : Cond.constant RX6 227 (1000000) ∈ TB := tbm_5 (i := 12) rfl rfl
theorem w618 : Cond.constantLong RX6 228 (6) ∈ TB := tbm_5 (i := 17) rfl rfl
theorem w619 : Cond.code yX6_longestRow cX6_longestRow 6 (some .int) ∈ TB := tbm_5 (i := 21) rfl rfl
theorem w620 : Cond.methodLink RX6 230 yX6_longestRow ∈ TB := tbm_5 (i := 18) rfl rfl
theorem w621 : Cond.instanceMethod yX6_longestRow ∈ TB := tbm_5 (i := 20) rfl rfl
theorem w622 : Cond.selects RX6 yX6_longestRow yX6_longestRow ∈ TB := tbp_3 (i := 10) (q := (yX6_longestRow, 32)) rfl
theorem w623 : Cond.fieldLink RX6 233 "BottomDrawerModel" "seen" "I" ∈ TB := tbm_3 (i := 220) rfl rfl
theorem w624 : Cond.fieldLink RX6 236 "BottomDrawerModel" "seenAs" "I" ∈ TB := tbm_3 (i := 218) rfl rfl
theorem w625 : Cond.fieldLink RX6 239 "BottomDrawerModel" "seenNot" "I" ∈ TB := tbm_3 (i := 219) rfl rfl
theorem w626 : Cond.constantLong RX6 242 (10) ∈ TB := tbm_5 (i := 43) rfl rfl
theorem w627 : Cond.constantLong RX6 244 (9999) ∈ TB := tbm_5 (i := 48) rfl rfl
theorem w628 : Cond.constantLong RX6 246 (40) ∈ TB := tbm_5 (i := 49) rfl rfl
theorem w629 : Cond.constantLong RX6 248 (7919) ∈ TB := tbm_5 (i := 50) rfl rfl
theorem w630 : Cond.constantLong RX6 250 (6151) ∈ TB := tbm_5 (i := 51) rfl rfl
theorem w631 : Cond.constantLong RX6 252 (65521) ∈ TB := tbm_5 (i := 52) rfl rfl
theorem w632 : Cond.constant RJ6 265 (1431655765) ∈ TB := tbm_2 (i := 129) rfl rfl
theorem w633 : Cond.constant RJ6 266 (858993459) ∈ TB := tbm_2 (i := 130) rfl rfl
theorem w634 : Cond.constant RJ6 267 (252645135) ∈ TB := tbm_2 (i := 131) rfl rfl
