-- ===== PART A: goes FIRST, ahead of the names: the tables' words, and 'selects' of the private methods out of them =====
/-- a private method of a class that the tables say can be made, by its rows of tables_1 -/
def lw_okq (q : MethodName × Nat) : Prop := (q.1.cls ≠ "java/lang/invoke/MethodHandle" ∧ q.1.cls ≠ "java/lang/invoke/VarHandle") ∧ Cond.instantiable q.1.cls q.2 ∈ tables_1 ∧ Cond.privateMethod q.1 ∈ tables_1 ∧ Cond.instanceMethod q.1 ∈ tables_1
theorem lw_p0 : lw_okq (⟨"BottomDrawer$Reader", "readNumbers", "([CII)I"⟩, 2) := ⟨⟨by decide +kernel, by decide +kernel⟩, List.mem_of_getElem? (i := 23) (by decide +kernel), List.mem_of_getElem? (i := 161) (by decide +kernel), List.mem_of_getElem? (i := 162) (by decide +kernel)⟩
theorem lw_p1 : lw_okq (⟨"BottomDrawer$Reader", "tellItem", "(ILBottomDrawer$Plan;)Z"⟩, 2) := ⟨⟨by decide +kernel, by decide +kernel⟩, List.mem_of_getElem? (i := 23) (by decide +kernel), List.mem_of_getElem? (i := 174) (by decide +kernel), List.mem_of_getElem? (i := 175) (by decide +kernel)⟩
theorem lw_p2 : lw_okq (⟨"BottomDrawer", "worthPart", "(II)I"⟩, 13) := ⟨⟨by decide +kernel, by decide +kernel⟩, List.mem_of_getElem? (i := 15) (by decide +kernel), List.mem_of_getElem? (i := 403) (by decide +kernel), List.mem_of_getElem? (i := 404) (by decide +kernel)⟩
theorem lw_p3 : lw_okq (⟨"BottomDrawer$Pile", "dropLowest", "()V"⟩, 6) := ⟨⟨by decide +kernel, by decide +kernel⟩, List.mem_of_getElem? (i := 257) (by decide +kernel), List.mem_of_getElem? (i := 430) (by decide +kernel), List.mem_of_getElem? (i := 431) (by decide +kernel)⟩
theorem lw_p4 : lw_okq (⟨"BottomDrawer", "roomLeft", "()I"⟩, 13) := ⟨⟨by decide +kernel, by decide +kernel⟩, List.mem_of_getElem? (i := 15) (by decide +kernel), List.mem_of_getElem? (i := 440) (by decide +kernel), List.mem_of_getElem? (i := 441) (by decide +kernel)⟩
theorem lw_p5 : lw_okq (⟨"BottomDrawer$Counsel", "findLongest", "(LBottomDrawer$Plan;LBottomDrawer$Hour;)V"⟩, 2) := ⟨⟨by decide +kernel, by decide +kernel⟩, List.mem_of_getElem? (i := 244) (by decide +kernel), List.mem_of_getElem? (i := 549) (by decide +kernel), List.mem_of_getElem? (i := 550) (by decide +kernel)⟩
theorem lw_p6 : lw_okq (⟨"BottomDrawer$Counsel", "nextInRow", "(LBottomDrawer$Plan;LBottomDrawer$Hour;I)I"⟩, 2) := ⟨⟨by decide +kernel, by decide +kernel⟩, List.mem_of_getElem? (i := 244) (by decide +kernel), List.mem_of_getElem? (i := 567) (by decide +kernel), List.mem_of_getElem? (i := 568) (by decide +kernel)⟩
theorem lw_p7 : lw_okq (⟨"BottomDrawer$Counsel", "findLeft", "(LBottomDrawer$Plan;I)V"⟩, 2) := ⟨⟨by decide +kernel, by decide +kernel⟩, List.mem_of_getElem? (i := 244) (by decide +kernel), List.mem_of_getElem? (i := 591) (by decide +kernel), List.mem_of_getElem? (i := 592) (by decide +kernel)⟩
theorem lw_p8 : lw_okq (⟨"BottomDrawer$Counsel", "strike", "(LBottomDrawer$Plan;I[I)I"⟩, 2) := ⟨⟨by decide +kernel, by decide +kernel⟩, List.mem_of_getElem? (i := 244) (by decide +kernel), List.mem_of_getElem? (i := 595) (by decide +kernel), List.mem_of_getElem? (i := 596) (by decide +kernel)⟩
theorem lw_p9 : lw_okq (⟨"BottomDrawer", "chanceBehindMoths", "(II)I"⟩, 13) := ⟨⟨by decide +kernel, by decide +kernel⟩, List.mem_of_getElem? (i := 15) (by decide +kernel), List.mem_of_getElem? (i := 619) (by decide +kernel), List.mem_of_getElem? (i := 620) (by decide +kernel)⟩
theorem lw_p10 : lw_okq (⟨"BottomDrawer$Hour", "putOrTakeOut", "(LBottomDrawer$Plan;IZ)V"⟩, 4) := ⟨⟨by decide +kernel, by decide +kernel⟩, List.mem_of_getElem? (i := 210) (by decide +kernel), List.mem_of_getElem? (i := 641) (by decide +kernel), List.mem_of_getElem? (i := 642) (by decide +kernel)⟩
theorem lw_p11 : lw_okq (⟨"BottomDrawerModel", "addsThing", "(III)V"⟩, 32) := ⟨⟨by decide +kernel, by decide +kernel⟩, List.mem_of_getElem? (i := 663) (by decide +kernel), List.mem_of_getElem? (i := 669) (by decide +kernel), List.mem_of_getElem? (i := 670) (by decide +kernel)⟩
theorem lw_p12 : lw_okq (⟨"BottomDrawerModel", "addsLife", "(III)V"⟩, 32) := ⟨⟨by decide +kernel, by decide +kernel⟩, List.mem_of_getElem? (i := 663) (by decide +kernel), List.mem_of_getElem? (i := 673) (by decide +kernel), List.mem_of_getElem? (i := 674) (by decide +kernel)⟩
theorem lw_p13 : lw_okq (⟨"BottomDrawerModel", "begins", "()V"⟩, 32) := ⟨⟨by decide +kernel, by decide +kernel⟩, List.mem_of_getElem? (i := 663) (by decide +kernel), List.mem_of_getElem? (i := 677) (by decide +kernel), List.mem_of_getElem? (i := 678) (by decide +kernel)⟩
theorem lw_p14 : lw_okq (⟨"BottomDrawerModel", "faultOf", "()I"⟩, 32) := ⟨⟨by decide +kernel, by decide +kernel⟩, List.mem_of_getElem? (i := 663) (by decide +kernel), List.mem_of_getElem? (i := 799) (by decide +kernel), List.mem_of_getElem? (i := 800) (by decide +kernel)⟩
theorem lw_p15 : lw_okq (⟨"BottomDrawerModel", "takesItem", "()Z"⟩, 32) := ⟨⟨by decide +kernel, by decide +kernel⟩, List.mem_of_getElem? (i := 663) (by decide +kernel), List.mem_of_getElem? (i := 803) (by decide +kernel), List.mem_of_getElem? (i := 804) (by decide +kernel)⟩
def lw_privs_1 : List (MethodName × Nat) := [(⟨"BottomDrawer$Reader", "readNumbers", "([CII)I"⟩, 2), (⟨"BottomDrawer$Reader", "tellItem", "(ILBottomDrawer$Plan;)Z"⟩, 2), (⟨"BottomDrawer", "worthPart", "(II)I"⟩, 13), (⟨"BottomDrawer$Pile", "dropLowest", "()V"⟩, 6), (⟨"BottomDrawer", "roomLeft", "()I"⟩, 13), (⟨"BottomDrawer$Counsel", "findLongest", "(LBottomDrawer$Plan;LBottomDrawer$Hour;)V"⟩, 2), (⟨"BottomDrawer$Counsel", "nextInRow", "(LBottomDrawer$Plan;LBottomDrawer$Hour;I)I"⟩, 2), (⟨"BottomDrawer$Counsel", "findLeft", "(LBottomDrawer$Plan;I)V"⟩, 2), (⟨"BottomDrawer$Counsel", "strike", "(LBottomDrawer$Plan;I[I)I"⟩, 2), (⟨"BottomDrawer", "chanceBehindMoths", "(II)I"⟩, 13), (⟨"BottomDrawer$Hour", "putOrTakeOut", "(LBottomDrawer$Plan;IZ)V"⟩, 4), (⟨"BottomDrawerModel", "addsThing", "(III)V"⟩, 32), (⟨"BottomDrawerModel", "addsLife", "(III)V"⟩, 32), (⟨"BottomDrawerModel", "begins", "()V"⟩, 32), (⟨"BottomDrawerModel", "faultOf", "()I"⟩, 32), (⟨"BottomDrawerModel", "takesItem", "()Z"⟩, 32)]
theorem lw_r1 : ∀ q ∈ lw_privs_1, lw_okq q := List.forall_mem_cons.mpr ⟨lw_p0, List.forall_mem_cons.mpr ⟨lw_p1, List.forall_mem_cons.mpr ⟨lw_p2, List.forall_mem_cons.mpr ⟨lw_p3, List.forall_mem_cons.mpr ⟨lw_p4, List.forall_mem_cons.mpr ⟨lw_p5, List.forall_mem_cons.mpr ⟨lw_p6, List.forall_mem_cons.mpr ⟨lw_p7, List.forall_mem_cons.mpr ⟨lw_p8, List.forall_mem_cons.mpr ⟨lw_p9, List.forall_mem_cons.mpr ⟨lw_p10, List.forall_mem_cons.mpr ⟨lw_p11, List.forall_mem_cons.mpr ⟨lw_p12, List.forall_mem_cons.mpr ⟨lw_p13, List.forall_mem_cons.mpr ⟨lw_p14, List.forall_mem_cons.mpr ⟨lw_p15, fun _ h => absurd h List.not_mem_nil⟩⟩⟩⟩⟩⟩⟩⟩⟩⟩⟩⟩⟩⟩⟩⟩
theorem lw_p16 : lw_okq (⟨"BottomDrawerModel", "letterAt", "(I)I"⟩, 32) := ⟨⟨by decide +kernel, by decide +kernel⟩, List.mem_of_getElem? (i := 663) (by decide +kernel), List.mem_of_getElem? (i := 807) (by decide +kernel), List.mem_of_getElem? (i := 808) (by decide +kernel)⟩
theorem lw_p17 : lw_okq (⟨"BottomDrawerModel", "takesRoom", "()Z"⟩, 32) := ⟨⟨by decide +kernel, by decide +kernel⟩, List.mem_of_getElem? (i := 663) (by decide +kernel), List.mem_of_getElem? (i := 811) (by decide +kernel), List.mem_of_getElem? (i := 812) (by decide +kernel)⟩
theorem lw_p18 : lw_okq (⟨"BottomDrawerModel", "takesNumber", "(III)Z"⟩, 32) := ⟨⟨by decide +kernel, by decide +kernel⟩, List.mem_of_getElem? (i := 663) (by decide +kernel), List.mem_of_getElem? (i := 815) (by decide +kernel), List.mem_of_getElem? (i := 816) (by decide +kernel)⟩
theorem lw_p19 : lw_okq (⟨"BottomDrawerModel", "takesThing", "()Z"⟩, 32) := ⟨⟨by decide +kernel, by decide +kernel⟩, List.mem_of_getElem? (i := 663) (by decide +kernel), List.mem_of_getElem? (i := 821) (by decide +kernel), List.mem_of_getElem? (i := 822) (by decide +kernel)⟩
theorem lw_p20 : lw_okq (⟨"BottomDrawerModel", "takesLife", "()Z"⟩, 32) := ⟨⟨by decide +kernel, by decide +kernel⟩, List.mem_of_getElem? (i := 663) (by decide +kernel), List.mem_of_getElem? (i := 825) (by decide +kernel), List.mem_of_getElem? (i := 826) (by decide +kernel)⟩
theorem lw_p21 : lw_okq (⟨"BottomDrawerModel", "takesNeed", "()Z"⟩, 32) := ⟨⟨by decide +kernel, by decide +kernel⟩, List.mem_of_getElem? (i := 663) (by decide +kernel), List.mem_of_getElem? (i := 829) (by decide +kernel), List.mem_of_getElem? (i := 830) (by decide +kernel)⟩
theorem lw_p22 : lw_okq (⟨"BottomDrawerModel", "isThing", "(I)Z"⟩, 32) := ⟨⟨by decide +kernel, by decide +kernel⟩, List.mem_of_getElem? (i := 663) (by decide +kernel), List.mem_of_getElem? (i := 841) (by decide +kernel), List.mem_of_getElem? (i := 842) (by decide +kernel)⟩
theorem lw_p23 : lw_okq (⟨"BottomDrawerModel", "canPut", "(II)Z"⟩, 32) := ⟨⟨by decide +kernel, by decide +kernel⟩, List.mem_of_getElem? (i := 663) (by decide +kernel), List.mem_of_getElem? (i := 845) (by decide +kernel), List.mem_of_getElem? (i := 846) (by decide +kernel)⟩
theorem lw_p24 : lw_okq (⟨"BottomDrawerModel", "roomOf", "(I)I"⟩, 32) := ⟨⟨by decide +kernel, by decide +kernel⟩, List.mem_of_getElem? (i := 663) (by decide +kernel), List.mem_of_getElem? (i := 852) (by decide +kernel), List.mem_of_getElem? (i := 853) (by decide +kernel)⟩
theorem lw_p25 : lw_okq (⟨"BottomDrawerModel", "neededBy", "(I)I"⟩, 32) := ⟨⟨by decide +kernel, by decide +kernel⟩, List.mem_of_getElem? (i := 663) (by decide +kernel), List.mem_of_getElem? (i := 856) (by decide +kernel), List.mem_of_getElem? (i := 857) (by decide +kernel)⟩
theorem lw_p26 : lw_okq (⟨"BottomDrawerModel", "isLife", "(I)Z"⟩, 32) := ⟨⟨by decide +kernel, by decide +kernel⟩, List.mem_of_getElem? (i := 663) (by decide +kernel), List.mem_of_getElem? (i := 864) (by decide +kernel), List.mem_of_getElem? (i := 865) (by decide +kernel)⟩
theorem lw_p27 : lw_okq (⟨"BottomDrawerModel", "canBy", "(II)Z"⟩, 32) := ⟨⟨by decide +kernel, by decide +kernel⟩, List.mem_of_getElem? (i := 663) (by decide +kernel), List.mem_of_getElem? (i := 868) (by decide +kernel), List.mem_of_getElem? (i := 869) (by decide +kernel)⟩
theorem lw_p28 : lw_okq (⟨"BottomDrawerModel", "isSet", "(I)Z"⟩, 32) := ⟨⟨by decide +kernel, by decide +kernel⟩, List.mem_of_getElem? (i := 663) (by decide +kernel), List.mem_of_getElem? (i := 883) (by decide +kernel), List.mem_of_getElem? (i := 884) (by decide +kernel)⟩
theorem lw_p29 : lw_okq (⟨"BottomDrawerModel", "worthPart", "(II)I"⟩, 32) := ⟨⟨by decide +kernel, by decide +kernel⟩, List.mem_of_getElem? (i := 663) (by decide +kernel), List.mem_of_getElem? (i := 887) (by decide +kernel), List.mem_of_getElem? (i := 888) (by decide +kernel)⟩
theorem lw_p30 : lw_okq (⟨"BottomDrawerModel", "likelyOfAll", "()I"⟩, 32) := ⟨⟨by decide +kernel, by decide +kernel⟩, List.mem_of_getElem? (i := 663) (by decide +kernel), List.mem_of_getElem? (i := 891) (by decide +kernel), List.mem_of_getElem? (i := 892) (by decide +kernel)⟩
theorem lw_p31 : lw_okq (⟨"BottomDrawerModel", "worthOf", "(I)I"⟩, 32) := ⟨⟨by decide +kernel, by decide +kernel⟩, List.mem_of_getElem? (i := 663) (by decide +kernel), List.mem_of_getElem? (i := 895) (by decide +kernel), List.mem_of_getElem? (i := 896) (by decide +kernel)⟩
def lw_privs_2 : List (MethodName × Nat) := [(⟨"BottomDrawerModel", "letterAt", "(I)I"⟩, 32), (⟨"BottomDrawerModel", "takesRoom", "()Z"⟩, 32), (⟨"BottomDrawerModel", "takesNumber", "(III)Z"⟩, 32), (⟨"BottomDrawerModel", "takesThing", "()Z"⟩, 32), (⟨"BottomDrawerModel", "takesLife", "()Z"⟩, 32), (⟨"BottomDrawerModel", "takesNeed", "()Z"⟩, 32), (⟨"BottomDrawerModel", "isThing", "(I)Z"⟩, 32), (⟨"BottomDrawerModel", "canPut", "(II)Z"⟩, 32), (⟨"BottomDrawerModel", "roomOf", "(I)I"⟩, 32), (⟨"BottomDrawerModel", "neededBy", "(I)I"⟩, 32), (⟨"BottomDrawerModel", "isLife", "(I)Z"⟩, 32), (⟨"BottomDrawerModel", "canBy", "(II)Z"⟩, 32), (⟨"BottomDrawerModel", "isSet", "(I)Z"⟩, 32), (⟨"BottomDrawerModel", "worthPart", "(II)I"⟩, 32), (⟨"BottomDrawerModel", "likelyOfAll", "()I"⟩, 32), (⟨"BottomDrawerModel", "worthOf", "(I)I"⟩, 32)]
theorem lw_r2 : ∀ q ∈ lw_privs_2, lw_okq q := List.forall_mem_cons.mpr ⟨lw_p16, List.forall_mem_cons.mpr ⟨lw_p17, List.forall_mem_cons.mpr ⟨lw_p18, List.forall_mem_cons.mpr ⟨lw_p19, List.forall_mem_cons.mpr ⟨lw_p20, List.forall_mem_cons.mpr ⟨lw_p21, List.forall_mem_cons.mpr ⟨lw_p22, List.forall_mem_cons.mpr ⟨lw_p23, List.forall_mem_cons.mpr ⟨lw_p24, List.forall_mem_cons.mpr ⟨lw_p25, List.forall_mem_cons.mpr ⟨lw_p26, List.forall_mem_cons.mpr ⟨lw_p27, List.forall_mem_cons.mpr ⟨lw_p28, List.forall_mem_cons.mpr ⟨lw_p29, List.forall_mem_cons.mpr ⟨lw_p30, List.forall_mem_cons.mpr ⟨lw_p31, fun _ h => absurd h List.not_mem_nil⟩⟩⟩⟩⟩⟩⟩⟩⟩⟩⟩⟩⟩⟩⟩⟩
theorem lw_p32 : lw_okq (⟨"BottomDrawerModel", "partOf", "(III)I"⟩, 32) := ⟨⟨by decide +kernel, by decide +kernel⟩, List.mem_of_getElem? (i := 663) (by decide +kernel), List.mem_of_getElem? (i := 899) (by decide +kernel), List.mem_of_getElem? (i := 900) (by decide +kernel)⟩
theorem lw_p33 : lw_okq (⟨"BottomDrawerModel", "minds", "()V"⟩, 32) := ⟨⟨by decide +kernel, by decide +kernel⟩, List.mem_of_getElem? (i := 663) (by decide +kernel), List.mem_of_getElem? (i := 907) (by decide +kernel), List.mem_of_getElem? (i := 908) (by decide +kernel)⟩
theorem lw_p34 : lw_okq (⟨"BottomDrawerModel", "copy", "(II)V"⟩, 32) := ⟨⟨by decide +kernel, by decide +kernel⟩, List.mem_of_getElem? (i := 663) (by decide +kernel), List.mem_of_getElem? (i := 911) (by decide +kernel), List.mem_of_getElem? (i := 912) (by decide +kernel)⟩
theorem lw_p35 : lw_okq (⟨"BottomDrawerModel", "puts", "(II)V"⟩, 32) := ⟨⟨by decide +kernel, by decide +kernel⟩, List.mem_of_getElem? (i := 663) (by decide +kernel), List.mem_of_getElem? (i := 915) (by decide +kernel), List.mem_of_getElem? (i := 916) (by decide +kernel)⟩
theorem lw_p36 : lw_okq (⟨"BottomDrawerModel", "canLive", "(II)Z"⟩, 32) := ⟨⟨by decide +kernel, by decide +kernel⟩, List.mem_of_getElem? (i := 663) (by decide +kernel), List.mem_of_getElem? (i := 927) (by decide +kernel), List.mem_of_getElem? (i := 928) (by decide +kernel)⟩
theorem lw_p37 : lw_okq (⟨"BottomDrawerModel", "livesOne", "(II)I"⟩, 32) := ⟨⟨by decide +kernel, by decide +kernel⟩, List.mem_of_getElem? (i := 663) (by decide +kernel), List.mem_of_getElem? (i := 931) (by decide +kernel), List.mem_of_getElem? (i := 932) (by decide +kernel)⟩
theorem lw_p38 : lw_okq (⟨"BottomDrawerModel", "linenOf", "(II)I"⟩, 32) := ⟨⟨by decide +kernel, by decide +kernel⟩, List.mem_of_getElem? (i := 663) (by decide +kernel), List.mem_of_getElem? (i := 935) (by decide +kernel), List.mem_of_getElem? (i := 936) (by decide +kernel)⟩
theorem lw_p39 : lw_okq (⟨"BottomDrawerModel", "passes", "(I)V"⟩, 32) := ⟨⟨by decide +kernel, by decide +kernel⟩, List.mem_of_getElem? (i := 663) (by decide +kernel), List.mem_of_getElem? (i := 944) (by decide +kernel), List.mem_of_getElem? (i := 945) (by decide +kernel)⟩
theorem lw_p40 : lw_okq (⟨"BottomDrawerModel", "costOf", "(I)I"⟩, 32) := ⟨⟨by decide +kernel, by decide +kernel⟩, List.mem_of_getElem? (i := 663) (by decide +kernel), List.mem_of_getElem? (i := 957) (by decide +kernel), List.mem_of_getElem? (i := 958) (by decide +kernel)⟩
theorem lw_p41 : lw_okq (⟨"BottomDrawerModel", "livesBy", "(I)I"⟩, 32) := ⟨⟨by decide +kernel, by decide +kernel⟩, List.mem_of_getElem? (i := 663) (by decide +kernel), List.mem_of_getElem? (i := 965) (by decide +kernel), List.mem_of_getElem? (i := 966) (by decide +kernel)⟩
theorem lw_p42 : lw_okq (⟨"BottomDrawerModel", "longestRow", "()I"⟩, 32) := ⟨⟨by decide +kernel, by decide +kernel⟩, List.mem_of_getElem? (i := 663) (by decide +kernel), List.mem_of_getElem? (i := 979) (by decide +kernel), List.mem_of_getElem? (i := 980) (by decide +kernel)⟩
def lw_privs_3 : List (MethodName × Nat) := [(⟨"BottomDrawerModel", "partOf", "(III)I"⟩, 32), (⟨"BottomDrawerModel", "minds", "()V"⟩, 32), (⟨"BottomDrawerModel", "copy", "(II)V"⟩, 32), (⟨"BottomDrawerModel", "puts", "(II)V"⟩, 32), (⟨"BottomDrawerModel", "canLive", "(II)Z"⟩, 32), (⟨"BottomDrawerModel", "livesOne", "(II)I"⟩, 32), (⟨"BottomDrawerModel", "linenOf", "(II)I"⟩, 32), (⟨"BottomDrawerModel", "passes", "(I)V"⟩, 32), (⟨"BottomDrawerModel", "costOf", "(I)I"⟩, 32), (⟨"BottomDrawerModel", "livesBy", "(I)I"⟩, 32), (⟨"BottomDrawerModel", "longestRow", "()I"⟩, 32)]
theorem lw_r3 : ∀ q ∈ lw_privs_3, lw_okq q := List.forall_mem_cons.mpr ⟨lw_p32, List.forall_mem_cons.mpr ⟨lw_p33, List.forall_mem_cons.mpr ⟨lw_p34, List.forall_mem_cons.mpr ⟨lw_p35, List.forall_mem_cons.mpr ⟨lw_p36, List.forall_mem_cons.mpr ⟨lw_p37, List.forall_mem_cons.mpr ⟨lw_p38, List.forall_mem_cons.mpr ⟨lw_p39, List.forall_mem_cons.mpr ⟨lw_p40, List.forall_mem_cons.mpr ⟨lw_p41, List.forall_mem_cons.mpr ⟨lw_p42, fun _ h => absurd h List.not_mem_nil⟩⟩⟩⟩⟩⟩⟩⟩⟩⟩⟩
def lw_privs : List (MethodName × Nat) := lw_privs_1 ++ (lw_privs_2 ++ (lw_privs_3))
def lw_tbl : List Cond := k2_sels lw_privs ++ tables_1
theorem lw_privs_ok : ∀ q ∈ lw_privs, lw_okq q := by
  show ∀ q ∈ lw_privs_1 ++ (lw_privs_2 ++ (lw_privs_3)), lw_okq q
  exact List.forall_mem_append.mpr ⟨lw_r1, List.forall_mem_append.mpr ⟨lw_r2, lw_r3⟩⟩
/-! ===== BEGIN printed: names, fields, word lists, decode rows ===== -/
def RX0 : String := "BottomDrawer$Counsel"
def TX0 : u_T := fun k => match k with
  | 0 => ("BottomDrawer$Counsel", "longest", "[I", true)
  | _ => ("BottomDrawer$Counsel", "left", "[I", true)
def tyX0 : Nat → FieldType := fun k => match k with
  | 0 => .array .int
  | _ => .array .int
abbrev wsX00 : List Cond := u_ws RX0 TX0 2
theorem nmX0 : ∀ a, a < 2 → ∀ b, b < 2 → a ≠ b → (TX0 a).2.1 ≠ (TX0 b).2.1 := by decide +kernel
theorem tyX0_ok : ∀ k, k < 2 → parseFieldDescriptor (TX0 k).2.2.1 = some (tyX0 k) := by decide +kernel
abbrev cX0_init : ByteArray := prog_2_method_1_code
def yX0_init : MethodName := ⟨RX0, "<init>", "()V"⟩
abbrev cX0_bestSet : ByteArray := prog_2_method_2_code
def yX0_bestSet : MethodName := ⟨RX0, "bestSet", "(LBottomDrawer$Plan;LBottomDrawer$Hour;I)I"⟩
abbrev cX0_isFewer : ByteArray := prog_2_method_3_code
def yX0_isFewer : MethodName := ⟨RX0, "isFewer", "(II)Z"⟩
abbrev cX0_fewestThings : ByteArray := prog_2_method_4_code
def yX0_fewestThings : MethodName := ⟨RX0, "fewestThings", "(LBottomDrawer$Plan;I)I"⟩
abbrev cX0_servesMost : ByteArray := prog_2_method_5_code
def yX0_servesMost : MethodName := ⟨RX0, "servesMost", "(LBottomDrawer$Plan;I)I"⟩
abbrev cX0_longestRow : ByteArray := prog_2_method_6_code
def yX0_longestRow : MethodName := ⟨RX0, "longestRow", "(LBottomDrawer$Plan;LBottomDrawer$Hour;I)I"⟩
abbrev cX0_findLongest : ByteArray := prog_2_method_7_code
def yX0_findLongest : MethodName := ⟨RX0, "findLongest", "(LBottomDrawer$Plan;LBottomDrawer$Hour;)V"⟩
abbrev cX0_nextInRow : ByteArray := prog_2_method_8_code
def yX0_nextInRow : MethodName := ⟨RX0, "nextInRow", "(LBottomDrawer$Plan;LBottomDrawer$Hour;I)I"⟩
abbrev cX0_canFollow : ByteArray := prog_2_method_9_code
def yX0_canFollow : MethodName := ⟨RX0, "canFollow", "(LBottomDrawer$Plan;LBottomDrawer$Hour;II)Z"⟩
abbrev cX0_bargains : ByteArray := prog_2_method_10_code
def yX0_bargains : MethodName := ⟨RX0, "bargains", "(LBottomDrawer$Plan;I)I"⟩
abbrev cX0_isLeftForAnother : ByteArray := prog_2_method_11_code
def yX0_isLeftForAnother : MethodName := ⟨RX0, "isLeftForAnother", "(LBottomDrawer$Plan;II)Z"⟩
abbrev cX0_leftByTalk : ByteArray := prog_2_method_12_code
def yX0_leftByTalk : MethodName := ⟨RX0, "leftByTalk", "(LBottomDrawer$Plan;I)I"⟩
abbrev cX0_struckFirst : ByteArray := prog_2_method_13_code
def yX0_struckFirst : MethodName := ⟨RX0, "struckFirst", "(LBottomDrawer$Plan;I)I"⟩
abbrev cX0_findLeft : ByteArray := prog_2_method_14_code
def yX0_findLeft : MethodName := ⟨RX0, "findLeft", "(LBottomDrawer$Plan;I)V"⟩
abbrev cX0_strike : ByteArray := prog_2_method_15_code
def yX0_strike : MethodName := ⟨RX0, "strike", "(LBottomDrawer$Plan;I[I)I"⟩
def RX1 : String := "BottomDrawer$Hour"
def TX1 : u_T := fun k => match k with
  | 0 => ("BottomDrawer$Hour", "drawer", "I", false)
  | 1 => ("BottomDrawer$Hour", "lived", "I", false)
  | 2 => ("BottomDrawer$Hour", "coins", "I", false)
  | _ => ("BottomDrawer$Hour", "years", "I", false)
def tyX1 : Nat → FieldType := fun k => match k with
  | 0 => .int
  | 1 => .int
  | 2 => .int
  | _ => .int
abbrev wsX10 : List Cond := u_ws RX1 TX1 4
theorem nmX1 : ∀ a, a < 4 → ∀ b, b < 4 → a ≠ b → (TX1 a).2.1 ≠ (TX1 b).2.1 := by decide +kernel
theorem tyX1_ok : ∀ k, k < 4 → parseFieldDescriptor (TX1 k).2.2.1 = some (tyX1 k) := by decide +kernel
abbrev cX1_init : ByteArray := prog_3_method_1_code
def yX1_init : MethodName := ⟨RX1, "<init>", "()V"⟩
abbrev cX1_begin : ByteArray := prog_3_method_2_code
def yX1_begin : MethodName := ⟨RX1, "begin", "(LBottomDrawer$Plan;)V"⟩
abbrev cX1_copy : ByteArray := prog_3_method_3_code
def yX1_copy : MethodName := ⟨RX1, "copy", "(LBottomDrawer$Hour;)V"⟩
abbrev cX1_canPutBy : ByteArray := prog_3_method_4_code
def yX1_canPutBy : MethodName := ⟨RX1, "canPutBy", "(LBottomDrawer$Plan;I)Z"⟩
abbrev cX1_putBy : ByteArray := prog_3_method_5_code
def yX1_putBy : MethodName := ⟨RX1, "putBy", "(LBottomDrawer$Plan;I)V"⟩
abbrev cX1_takeOut : ByteArray := prog_3_method_6_code
def yX1_takeOut : MethodName := ⟨RX1, "takeOut", "(I)V"⟩
abbrev cX1_canBeLived : ByteArray := prog_3_method_7_code
def yX1_canBeLived : MethodName := ⟨RX1, "canBeLived", "(LBottomDrawer$Plan;I)Z"⟩
abbrev cX1_liveLife : ByteArray := prog_3_method_8_code
def yX1_liveLife : MethodName := ⟨RX1, "liveLife", "(LBottomDrawer$Plan;I)I"⟩
abbrev cX1_goBy : ByteArray := prog_3_method_9_code
def yX1_goBy : MethodName := ⟨RX1, "goBy", "(LBottomDrawer$Plan;I)V"⟩
abbrev cX1_coinsBehind : ByteArray := prog_3_method_10_code
def yX1_coinsBehind : MethodName := ⟨RX1, "coinsBehind", "(LBottomDrawer$Plan;I)I"⟩
abbrev cX1_goByDraw : ByteArray := prog_3_method_11_code
def yX1_goByDraw : MethodName := ⟨RX1, "goByDraw", "(LBottomDrawer$Plan;I)V"⟩
abbrev cX1_putOrTakeOut : ByteArray := prog_3_method_12_code
def yX1_putOrTakeOut : MethodName := ⟨RX1, "putOrTakeOut", "(LBottomDrawer$Plan;IZ)V"⟩
def RX2 : String := "BottomDrawer$Pile"
def TX2 : u_T := fun k => match k with
  | 0 => ("BottomDrawer$Pile", "height", "I", false)
  | 1 => ("BottomDrawer$Pile", "limit", "I", true)
  | 2 => ("BottomDrawer$Pile", "drawers", "[I", true)
  | 3 => ("BottomDrawer$Pile", "lived", "[I", true)
  | 4 => ("BottomDrawer$Pile", "coins", "[I", true)
  | _ => ("BottomDrawer$Pile", "years", "[I", true)
def tyX2 : Nat → FieldType := fun k => match k with
  | 0 => .int
  | 1 => .int
  | 2 => .array .int
  | 3 => .array .int
  | 4 => .array .int
  | _ => .array .int
abbrev wsX20 : List Cond := u_ws RX2 TX2 6
theorem nmX2 : ∀ a, a < 6 → ∀ b, b < 6 → a ≠ b → (TX2 a).2.1 ≠ (TX2 b).2.1 := by decide +kernel
theorem tyX2_ok : ∀ k, k < 6 → parseFieldDescriptor (TX2 k).2.2.1 = some (tyX2 k) := by decide +kernel
abbrev cX2_init : ByteArray := prog_4_method_1_code
def yX2_init : MethodName := ⟨RX2, "<init>", "(I)V"⟩
abbrev cX2_empty : ByteArray := prog_4_method_2_code
def yX2_empty : MethodName := ⟨RX2, "empty", "()V"⟩
abbrev cX2_add : ByteArray := prog_4_method_3_code
def yX2_add : MethodName := ⟨RX2, "add", "(LBottomDrawer$Hour;)V"⟩
abbrev cX2_takeTop : ByteArray := prog_4_method_4_code
def yX2_takeTop : MethodName := ⟨RX2, "takeTop", "(LBottomDrawer$Hour;)V"⟩
abbrev cX2_dropLowest : ByteArray := prog_4_method_5_code
def yX2_dropLowest : MethodName := ⟨RX2, "dropLowest", "()V"⟩
def RX3 : String := "BottomDrawer$Plan"
def TX3 : u_T := fun k => match k with
  | 0 => ("BottomDrawer$Plan", "room", "I", false)
  | 1 => ("BottomDrawer$Plan", "allowance", "I", false)
  | 2 => ("BottomDrawer$Plan", "things", "I", false)
  | 3 => ("BottomDrawer$Plan", "lives", "I", false)
  | 4 => ("BottomDrawer$Plan", "flannel", "I", false)
  | 5 => ("BottomDrawer$Plan", "linen", "I", false)
  | 6 => ("BottomDrawer$Plan", "folding", "I", false)
  | 7 => ("BottomDrawer$Plan", "kinds", "[I", true)
  | 8 => ("BottomDrawer$Plan", "sizes", "[I", true)
  | 9 => ("BottomDrawer$Plan", "costs", "[I", true)
  | 10 => ("BottomDrawer$Plan", "chances", "[I", true)
  | 11 => ("BottomDrawer$Plan", "hers", "[I", true)
  | 12 => ("BottomDrawer$Plan", "his", "[I", true)
  | _ => ("BottomDrawer$Plan", "needs", "[I", true)
def tyX3 : Nat → FieldType := fun k => match k with
  | 0 => .int
  | 1 => .int
  | 2 => .int
  | 3 => .int
  | 4 => .int
  | 5 => .int
  | 6 => .int
  | 7 => .array .int
  | 8 => .array .int
  | 9 => .array .int
  | 10 => .array .int
  | 11 => .array .int
  | 12 => .array .int
  | _ => .array .int
abbrev wsX30 : List Cond := u_ws RX3 TX3 14
theorem nmX3 : ∀ a, a < 14 → ∀ b, b < 14 → a ≠ b → (TX3 a).2.1 ≠ (TX3 b).2.1 := by decide +kernel
theorem tyX3_ok : ∀ k, k < 14 → parseFieldDescriptor (TX3 k).2.2.1 = some (tyX3 k) := by decide +kernel
abbrev cX3_init : ByteArray := prog_5_method_1_code
def yX3_init : MethodName := ⟨RX3, "<init>", "()V"⟩
abbrev cX3_begin : ByteArray := prog_5_method_2_code
def yX3_begin : MethodName := ⟨RX3, "begin", "()V"⟩
abbrev cX3_tellRoom : ByteArray := prog_5_method_3_code
def yX3_tellRoom : MethodName := ⟨RX3, "tellRoom", "(II)Z"⟩
abbrev cX3_tellThing : ByteArray := prog_5_method_4_code
def yX3_tellThing : MethodName := ⟨RX3, "tellThing", "(III)Z"⟩
abbrev cX3_tellLife : ByteArray := prog_5_method_5_code
def yX3_tellLife : MethodName := ⟨RX3, "tellLife", "(III)Z"⟩
abbrev cX3_tellNeed : ByteArray := prog_5_method_6_code
def yX3_tellNeed : MethodName := ⟨RX3, "tellNeed", "(II)Z"⟩
abbrev cX3_isThing : ByteArray := prog_5_method_7_code
def yX3_isThing : MethodName := ⟨RX3, "isThing", "(I)Z"⟩
abbrev cX3_isLife : ByteArray := prog_5_method_8_code
def yX3_isLife : MethodName := ⟨RX3, "isLife", "(I)Z"⟩
abbrev cX3_isSetOfThings : ByteArray := prog_5_method_9_code
def yX3_isSetOfThings : MethodName := ⟨RX3, "isSetOfThings", "(I)Z"⟩
abbrev cX3_isSetOfLives : ByteArray := prog_5_method_10_code
def yX3_isSetOfLives : MethodName := ⟨RX3, "isSetOfLives", "(I)Z"⟩
abbrev cX3_allThings : ByteArray := prog_5_method_11_code
def yX3_allThings : MethodName := ⟨RX3, "allThings", "()I"⟩
abbrev cX3_allLives : ByteArray := prog_5_method_12_code
def yX3_allLives : MethodName := ⟨RX3, "allLives", "()I"⟩
abbrev cX3_livesThatNeed : ByteArray := prog_5_method_13_code
def yX3_livesThatNeed : MethodName := ⟨RX3, "livesThatNeed", "(I)I"⟩
abbrev cX3_roomTaken : ByteArray := prog_5_method_14_code
def yX3_roomTaken : MethodName := ⟨RX3, "roomTaken", "(I)I"⟩
abbrev cX3_price : ByteArray := prog_5_method_15_code
def yX3_price : MethodName := ⟨RX3, "price", "(I)I"⟩
abbrev cX3_canBe : ByteArray := prog_5_method_16_code
def yX3_canBe : MethodName := ⟨RX3, "canBe", "(II)Z"⟩
abbrev cX3_livesBy : ByteArray := prog_5_method_17_code
def yX3_livesBy : MethodName := ⟨RX3, "livesBy", "(I)I"⟩
abbrev cX3_gain : ByteArray := prog_5_method_18_code
def yX3_gain : MethodName := ⟨RX3, "gain", "(I)I"⟩
abbrev cX3_chanceOfAll : ByteArray := prog_5_method_19_code
def yX3_chanceOfAll : MethodName := ⟨RX3, "chanceOfAll", "()I"⟩
abbrev cX3_linenOf : ByteArray := prog_5_method_20_code
def yX3_linenOf : MethodName := ⟨RX3, "linenOf", "(I)I"⟩
def RX4 : String := "BottomDrawer$Reader"
def TX4 : u_T := fun k => match k with
  | 0 => ("BottomDrawer$Reader", "numbers", "[I", true)
  | _ => ("BottomDrawer$Reader", "amount", "I", false)
def tyX4 : Nat → FieldType := fun k => match k with
  | 0 => .array .int
  | _ => .int
abbrev wsX40 : List Cond := u_ws RX4 TX4 2
theorem nmX4 : ∀ a, a < 2 → ∀ b, b < 2 → a ≠ b → (TX4 a).2.1 ≠ (TX4 b).2.1 := by decide +kernel
theorem tyX4_ok : ∀ k, k < 2 → parseFieldDescriptor (TX4 k).2.2.1 = some (tyX4 k) := by decide +kernel
abbrev cX4_init : ByteArray := prog_6_method_1_code
def yX4_init : MethodName := ⟨RX4, "<init>", "()V"⟩
abbrev cX4_firstFault : ByteArray := prog_6_method_2_code
def yX4_firstFault : MethodName := ⟨RX4, "firstFault", "([CILBottomDrawer$Plan;)I"⟩
abbrev cX4_readNumbers : ByteArray := prog_6_method_3_code
def yX4_readNumbers : MethodName := ⟨RX4, "readNumbers", "([CII)I"⟩
abbrev cX4_tellItem : ByteArray := prog_6_method_4_code
def yX4_tellItem : MethodName := ⟨RX4, "tellItem", "(ILBottomDrawer$Plan;)Z"⟩
abbrev cX4_figure : ByteArray := prog_6_method_5_code
def yX4_figure : MethodName := ⟨RX4, "figure", "([CII)I"⟩
abbrev cX4_letter : ByteArray := prog_6_method_6_code
def yX4_letter : MethodName := ⟨RX4, "letter", "([CII)I"⟩
def RX5 : String := "BottomDrawer"
def TX5 : u_T := fun k => match k with
  | 0 => ("BottomDrawer", "text", "[C", true)
  | 1 => ("BottomDrawer", "length", "I", false)
  | 2 => ("BottomDrawer", "reader", "LBottomDrawer$Reader;", true)
  | 3 => ("BottomDrawer", "counsel", "LBottomDrawer$Counsel;", true)
  | 4 => ("BottomDrawer", "laid", "LBottomDrawer$Plan;", false)
  | 5 => ("BottomDrawer", "spare", "LBottomDrawer$Plan;", false)
  | 6 => ("BottomDrawer", "now", "LBottomDrawer$Hour;", true)
  | 7 => ("BottomDrawer", "then", "LBottomDrawer$Hour;", true)
  | 8 => ("BottomDrawer", "past", "LBottomDrawer$Pile;", true)
  | 9 => ("BottomDrawer", "kept", "LBottomDrawer$Pile;", true)
  | 10 => ("BottomDrawer", "seen", "I", false)
  | 11 => ("BottomDrawer", "seenToBe", "I", false)
  | _ => ("BottomDrawer", "seenNotToBe", "I", false)
def tyX5 : Nat → FieldType := fun k => match k with
  | 0 => .array .char
  | 1 => .int
  | 2 => .object "BottomDrawer$Reader"
  | 3 => .object "BottomDrawer$Counsel"
  | 4 => .object "BottomDrawer$Plan"
  | 5 => .object "BottomDrawer$Plan"
  | 6 => .object "BottomDrawer$Hour"
  | 7 => .object "BottomDrawer$Hour"
  | 8 => .object "BottomDrawer$Pile"
  | 9 => .object "BottomDrawer$Pile"
  | 10 => .int
  | 11 => .int
  | _ => .int
abbrev wsX50 : List Cond := u_ws RX5 TX5 13
theorem nmX5 : ∀ a, a < 13 → ∀ b, b < 13 → a ≠ b → (TX5 a).2.1 ≠ (TX5 b).2.1 := by decide +kernel
theorem tyX5_ok : ∀ k, k < 13 → parseFieldDescriptor (TX5 k).2.2.1 = some (tyX5 k) := by decide +kernel
abbrev cX5_init : ByteArray := prog_1_method_1_code
def yX5_init : MethodName := ⟨RX5, "<init>", "()V"⟩
abbrev cX5_write : ByteArray := prog_1_method_2_code
def yX5_write : MethodName := ⟨RX5, "write", "(I)I"⟩
abbrev cX5_wipe : ByteArray := prog_1_method_3_code
def yX5_wipe : MethodName := ⟨RX5, "wipe", "()I"⟩
abbrev cX5_fault : ByteArray := prog_1_method_4_code
def yX5_fault : MethodName := ⟨RX5, "fault", "()I"⟩
abbrev cX5_lay : ByteArray := prog_1_method_5_code
def yX5_lay : MethodName := ⟨RX5, "lay", "()I"⟩
abbrev cX5_thing : ByteArray := prog_1_method_6_code
def yX5_thing : MethodName := ⟨RX5, "thing", "(II)I"⟩
abbrev cX5_life : ByteArray := prog_1_method_7_code
def yX5_life : MethodName := ⟨RX5, "life", "(II)I"⟩
abbrev cX5_room : ByteArray := prog_1_method_8_code
def yX5_room : MethodName := ⟨RX5, "room", "()I"⟩
abbrev cX5_worth : ByteArray := prog_1_method_9_code
def yX5_worth : MethodName := ⟨RX5, "worth", "(II)I"⟩
abbrev cX5_put : ByteArray := prog_1_method_10_code
def yX5_put : MethodName := ⟨RX5, "put", "(I)I"⟩
abbrev cX5_out : ByteArray := prog_1_method_11_code
def yX5_out : MethodName := ⟨RX5, "out", "(I)I"⟩
abbrev cX5_live : ByteArray := prog_1_method_12_code
def yX5_live : MethodName := ⟨RX5, "live", "(I)I"⟩
abbrev cX5_pass : ByteArray := prog_1_method_13_code
def yX5_pass : MethodName := ⟨RX5, "pass", "(I)I"⟩
abbrev cX5_undo : ByteArray := prog_1_method_14_code
def yX5_undo : MethodName := ⟨RX5, "undo", "()I"⟩
abbrev cX5_best : ByteArray := prog_1_method_15_code
def yX5_best : MethodName := ⟨RX5, "best", "(II)I"⟩
abbrev cX5_cover : ByteArray := prog_1_method_16_code
def yX5_cover : MethodName := ⟨RX5, "cover", "(II)I"⟩
abbrev cX5_serves : ByteArray := prog_1_method_17_code
def yX5_serves : MethodName := ⟨RX5, "serves", "()I"⟩
abbrev cX5_row : ByteArray := prog_1_method_18_code
def yX5_row : MethodName := ⟨RX5, "row", "(I)I"⟩
abbrev cX5_bargain : ByteArray := prog_1_method_19_code
def yX5_bargain : MethodName := ⟨RX5, "bargain", "()I"⟩
abbrev cX5_talk : ByteArray := prog_1_method_20_code
def yX5_talk : MethodName := ⟨RX5, "talk", "(I)I"⟩
abbrev cX5_see : ByteArray := prog_1_method_21_code
def yX5_see : MethodName := ⟨RX5, "see", "(IZ)I"⟩
abbrev cX5_forget : ByteArray := prog_1_method_22_code
def yX5_forget : MethodName := ⟨RX5, "forget", "()I"⟩
abbrev cX5_meant : ByteArray := prog_1_method_23_code
def yX5_meant : MethodName := ⟨RX5, "meant", "()I"⟩
abbrev cX5_moths : ByteArray := prog_1_method_24_code
def yX5_moths : MethodName := ⟨RX5, "moths", "(III)I"⟩
abbrev cX5_year : ByteArray := prog_1_method_25_code
def yX5_year : MethodName := ⟨RX5, "year", "(III)I"⟩
abbrev cX5_keep : ByteArray := prog_1_method_26_code
def yX5_keep : MethodName := ⟨RX5, "keep", "()I"⟩
abbrev cX5_back : ByteArray := prog_1_method_27_code
def yX5_back : MethodName := ⟨RX5, "back", "()I"⟩
abbrev cX5_count : ByteArray := prog_1_method_28_code
def yX5_count : MethodName := ⟨RX5, "count", "(I)I"⟩
abbrev cX5_roomLeft : ByteArray := prog_1_method_29_code
def yX5_roomLeft : MethodName := ⟨RX5, "roomLeft", "()I"⟩
abbrev cX5_worthPart : ByteArray := prog_1_method_30_code
def yX5_worthPart : MethodName := ⟨RX5, "worthPart", "(II)I"⟩
abbrev cX5_chanceBehindMoths : ByteArray := prog_1_method_31_code
def yX5_chanceBehindMoths : MethodName := ⟨RX5, "chanceBehindMoths", "(II)I"⟩
abbrev cX5_draw : ByteArray := prog_1_method_32_code
def yX5_draw : MethodName := ⟨RX5, "draw", "(II)I"⟩
abbrev cX5_isPart : ByteArray := prog_1_method_33_code
def yX5_isPart : MethodName := ⟨RX5, "isPart", "(I)Z"⟩
abbrev cX5_bit : ByteArray := prog_1_method_34_code
def yX5_bit : MethodName := ⟨RX5, "bit", "(Z)I"⟩
abbrev cX5_has : ByteArray := prog_1_method_35_code
def yX5_has : MethodName := ⟨RX5, "has", "(II)Z"⟩
abbrev cX5_at : ByteArray := prog_1_method_36_code
def yX5_at : MethodName := ⟨RX5, "at", "([II)I"⟩
abbrev cX5_store : ByteArray := prog_1_method_37_code
def yX5_store : MethodName := ⟨RX5, "store", "([III)V"⟩
abbrev cX5_power : ByteArray := prog_1_method_38_code
def yX5_power : MethodName := ⟨RX5, "power", "(II)I"⟩
abbrev cX5_lowestTerms : ByteArray := prog_1_method_39_code
def yX5_lowestTerms : MethodName := ⟨RX5, "lowestTerms", "(III)I"⟩
abbrev cX5_commonDivisor : ByteArray := prog_1_method_40_code
def yX5_commonDivisor : MethodName := ⟨RX5, "commonDivisor", "(II)I"⟩
def RX6 : String := "BottomDrawerModel"
def TX6 : u_T := fun k => match k with
  | 0 => ("BottomDrawerModel", "w", "[I", true)
  | 1 => ("BottomDrawerModel", "undoes", "I", false)
  | 2 => ("BottomDrawerModel", "kept", "I", false)
  | 3 => ("BottomDrawerModel", "space", "I", false)
  | 4 => ("BottomDrawerModel", "yearly", "I", false)
  | 5 => ("BottomDrawerModel", "things", "I", false)
  | 6 => ("BottomDrawerModel", "kind", "[I", true)
  | 7 => ("BottomDrawerModel", "takes", "[I", true)
  | 8 => ("BottomDrawerModel", "costs", "[I", true)
  | 9 => ("BottomDrawerModel", "lives", "I", false)
  | 10 => ("BottomDrawerModel", "likely", "[I", true)
  | 11 => ("BottomDrawerModel", "toHer", "[I", true)
  | 12 => ("BottomDrawerModel", "toHim", "[I", true)
  | 13 => ("BottomDrawerModel", "needs", "[I", true)
  | 14 => ("BottomDrawerModel", "seenAs", "I", false)
  | 15 => ("BottomDrawerModel", "seenNot", "I", false)
  | 16 => ("BottomDrawerModel", "seen", "I", false)
  | 17 => ("BottomDrawerModel", "text", "[I", true)
  | 18 => ("BottomDrawerModel", "texted", "I", false)
  | 19 => ("BottomDrawerModel", "place", "I", false)
  | 20 => ("BottomDrawerModel", "number", "I", false)
  | 21 => ("BottomDrawerModel", "readSpace", "I", false)
  | 22 => ("BottomDrawerModel", "readYearly", "I", false)
  | 23 => ("BottomDrawerModel", "readThings", "I", false)
  | 24 => ("BottomDrawerModel", "readThing", "[I", true)
  | 25 => ("BottomDrawerModel", "readLives", "I", false)
  | 26 => ("BottomDrawerModel", "readLife", "[I", true)
  | 27 => ("BottomDrawerModel", "readNeeds", "[I", true)
  | 28 => ("BottomDrawerModel", "tried", "[I", true)
  | 29 => ("BottomDrawerModel", "bestRow", "[I", true)
  | 30 => ("BottomDrawerModel", "left", "[I", true)
  | _ => ("BottomDrawerModel", "struck", "[I", true)
def tyX6 : Nat → FieldType := fun k => match k with
  | 0 => .array .int
  | 1 => .int
  | 2 => .int
  | 3 => .int
  | 4 => .int
  | 5 => .int
  | 6 => .array .int
  | 7 => .array .int
  | 8 => .array .int
  | 9 => .int
  | 10 => .array .int
  | 11 => .array .int
  | 12 => .array .int
  | 13 => .array .int
  | 14 => .int
  | 15 => .int
  | 16 => .int
  | 17 => .array .int
  | 18 => .int
  | 19 => .int
  | 20 => .int
  | 21 => .int
  | 22 => .int
  | 23 => .int
  | 24 => .array .int
  | 25 => .int
  | 26 => .array .int
  | 27 => .array .int
  | 28 => .array .int
  | 29 => .array .int
  | 30 => .array .int
  | _ => .array .int
abbrev wsX60 : List Cond := u_ws RX6 TX6 32
theorem nmX6 : ∀ a, a < 32 → ∀ b, b < 32 → a ≠ b → (TX6 a).2.1 ≠ (TX6 b).2.1 := by decide +kernel
theorem tyX6_ok : ∀ k, k < 32 → parseFieldDescriptor (TX6 k).2.2.1 = some (tyX6 k) := by decide +kernel
abbrev cX6_init : ByteArray := prog_8_method_1_code
def yX6_init : MethodName := ⟨RX6, "<init>", "()V"⟩
abbrev cX6_in : ByteArray := prog_8_method_3_code
def yX6_in : MethodName := ⟨RX6, "in", "(JJJ)Z"⟩
abbrev cX6_has : ByteArray := prog_8_method_4_code
def yX6_has : MethodName := ⟨RX6, "has", "(II)Z"⟩
abbrev cX6_ones : ByteArray := prog_8_method_5_code
def yX6_ones : MethodName := ⟨RX6, "ones", "(I)I"⟩
abbrev cX6_copy : ByteArray := prog_8_method_6_code
def yX6_copy : MethodName := ⟨RX6, "copy", "(II)V"⟩
abbrev cX6_isThing : ByteArray := prog_8_method_7_code
def yX6_isThing : MethodName := ⟨RX6, "isThing", "(I)Z"⟩
abbrev cX6_isLife : ByteArray := prog_8_method_8_code
def yX6_isLife : MethodName := ⟨RX6, "isLife", "(I)Z"⟩
abbrev cX6_addsThing : ByteArray := prog_8_method_9_code
def yX6_addsThing : MethodName := ⟨RX6, "addsThing", "(III)V"⟩
abbrev cX6_addsLife : ByteArray := prog_8_method_10_code
def yX6_addsLife : MethodName := ⟨RX6, "addsLife", "(III)V"⟩
abbrev cX6_begins : ByteArray := prog_8_method_11_code
def yX6_begins : MethodName := ⟨RX6, "begins", "()V"⟩
abbrev cX6_write : ByteArray := prog_8_method_12_code
def yX6_write : MethodName := ⟨RX6, "write", "(I)I"⟩
abbrev cX6_wipe : ByteArray := prog_8_method_13_code
def yX6_wipe : MethodName := ⟨RX6, "wipe", "()I"⟩
abbrev cX6_letterAt : ByteArray := prog_8_method_14_code
def yX6_letterAt : MethodName := ⟨RX6, "letterAt", "(I)I"⟩
abbrev cX6_takesNumber : ByteArray := prog_8_method_15_code
def yX6_takesNumber : MethodName := ⟨RX6, "takesNumber", "(III)Z"⟩
abbrev cX6_takesRoom : ByteArray := prog_8_method_16_code
def yX6_takesRoom : MethodName := ⟨RX6, "takesRoom", "()Z"⟩
abbrev cX6_takesThing : ByteArray := prog_8_method_17_code
def yX6_takesThing : MethodName := ⟨RX6, "takesThing", "()Z"⟩
abbrev cX6_takesLife : ByteArray := prog_8_method_18_code
def yX6_takesLife : MethodName := ⟨RX6, "takesLife", "()Z"⟩
abbrev cX6_takesNeed : ByteArray := prog_8_method_19_code
def yX6_takesNeed : MethodName := ⟨RX6, "takesNeed", "()Z"⟩
abbrev cX6_takesItem : ByteArray := prog_8_method_20_code
def yX6_takesItem : MethodName := ⟨RX6, "takesItem", "()Z"⟩
abbrev cX6_faultOf : ByteArray := prog_8_method_21_code
def yX6_faultOf : MethodName := ⟨RX6, "faultOf", "()I"⟩
abbrev cX6_fault : ByteArray := prog_8_method_22_code
def yX6_fault : MethodName := ⟨RX6, "fault", "()I"⟩
abbrev cX6_lay : ByteArray := prog_8_method_23_code
def yX6_lay : MethodName := ⟨RX6, "lay", "()I"⟩
abbrev cX6_roomOf : ByteArray := prog_8_method_24_code
def yX6_roomOf : MethodName := ⟨RX6, "roomOf", "(I)I"⟩
abbrev cX6_canBy : ByteArray := prog_8_method_25_code
def yX6_canBy : MethodName := ⟨RX6, "canBy", "(II)Z"⟩
abbrev cX6_livesBy : ByteArray := prog_8_method_26_code
def yX6_livesBy : MethodName := ⟨RX6, "livesBy", "(I)I"⟩
abbrev cX6_worthOf : ByteArray := prog_8_method_27_code
def yX6_worthOf : MethodName := ⟨RX6, "worthOf", "(I)I"⟩
abbrev cX6_likelyOfAll : ByteArray := prog_8_method_28_code
def yX6_likelyOfAll : MethodName := ⟨RX6, "likelyOfAll", "()I"⟩
abbrev cX6_partOf : ByteArray := prog_8_method_29_code
def yX6_partOf : MethodName := ⟨RX6, "partOf", "(III)I"⟩
abbrev cX6_worthPart : ByteArray := prog_8_method_30_code
def yX6_worthPart : MethodName := ⟨RX6, "worthPart", "(II)I"⟩
abbrev cX6_canPut : ByteArray := prog_8_method_31_code
def yX6_canPut : MethodName := ⟨RX6, "canPut", "(II)Z"⟩
abbrev cX6_linenOf : ByteArray := prog_8_method_32_code
def yX6_linenOf : MethodName := ⟨RX6, "linenOf", "(II)I"⟩
abbrev cX6_canLive : ByteArray := prog_8_method_33_code
def yX6_canLive : MethodName := ⟨RX6, "canLive", "(II)Z"⟩
abbrev cX6_puts : ByteArray := prog_8_method_34_code
def yX6_puts : MethodName := ⟨RX6, "puts", "(II)V"⟩
abbrev cX6_livesOne : ByteArray := prog_8_method_35_code
def yX6_livesOne : MethodName := ⟨RX6, "livesOne", "(II)I"⟩
abbrev cX6_passes : ByteArray := prog_8_method_36_code
def yX6_passes : MethodName := ⟨RX6, "passes", "(I)V"⟩
abbrev cX6_neededBy : ByteArray := prog_8_method_37_code
def yX6_neededBy : MethodName := ⟨RX6, "neededBy", "(I)I"⟩
abbrev cX6_thing : ByteArray := prog_8_method_38_code
def yX6_thing : MethodName := ⟨RX6, "thing", "(II)I"⟩
abbrev cX6_life : ByteArray := prog_8_method_39_code
def yX6_life : MethodName := ⟨RX6, "life", "(II)I"⟩
abbrev cX6_room : ByteArray := prog_8_method_40_code
def yX6_room : MethodName := ⟨RX6, "room", "()I"⟩
abbrev cX6_isSet : ByteArray := prog_8_method_41_code
def yX6_isSet : MethodName := ⟨RX6, "isSet", "(I)Z"⟩
abbrev cX6_worth : ByteArray := prog_8_method_42_code
def yX6_worth : MethodName := ⟨RX6, "worth", "(II)I"⟩
abbrev cX6_minds : ByteArray := prog_8_method_43_code
def yX6_minds : MethodName := ⟨RX6, "minds", "()V"⟩
abbrev cX6_put : ByteArray := prog_8_method_44_code
def yX6_put : MethodName := ⟨RX6, "put", "(I)I"⟩
abbrev cX6_out : ByteArray := prog_8_method_45_code
def yX6_out : MethodName := ⟨RX6, "out", "(I)I"⟩
abbrev cX6_live : ByteArray := prog_8_method_46_code
def yX6_live : MethodName := ⟨RX6, "live", "(I)I"⟩
abbrev cX6_pass : ByteArray := prog_8_method_47_code
def yX6_pass : MethodName := ⟨RX6, "pass", "(I)I"⟩
abbrev cX6_undo : ByteArray := prog_8_method_48_code
def yX6_undo : MethodName := ⟨RX6, "undo", "()I"⟩
abbrev cX6_costOf : ByteArray := prog_8_method_49_code
def yX6_costOf : MethodName := ⟨RX6, "costOf", "(I)I"⟩
abbrev cX6_best : ByteArray := prog_8_method_50_code
def yX6_best : MethodName := ⟨RX6, "best", "(II)I"⟩
abbrev cX6_cover : ByteArray := prog_8_method_51_code
def yX6_cover : MethodName := ⟨RX6, "cover", "(II)I"⟩
abbrev cX6_serves : ByteArray := prog_8_method_52_code
def yX6_serves : MethodName := ⟨RX6, "serves", "()I"⟩
abbrev cX6_longestRow : ByteArray := prog_8_method_53_code
def yX6_longestRow : MethodName := ⟨RX6, "longestRow", "()I"⟩
abbrev cX6_row : ByteArray := prog_8_method_54_code
def yX6_row : MethodName := ⟨RX6, "row", "(I)I"⟩
abbrev cX6_bargain : ByteArray := prog_8_method_55_code
def yX6_bargain : MethodName := ⟨RX6, "bargain", "()I"⟩
abbrev cX6_talk : ByteArray := prog_8_method_56_code
def yX6_talk : MethodName := ⟨RX6, "talk", "(I)I"⟩
abbrev cX6_see : ByteArray := prog_8_method_57_code
def yX6_see : MethodName := ⟨RX6, "see", "(IZ)I"⟩
abbrev cX6_forget : ByteArray := prog_8_method_58_code
def yX6_forget : MethodName := ⟨RX6, "forget", "()I"⟩
abbrev cX6_meant : ByteArray := prog_8_method_59_code
def yX6_meant : MethodName := ⟨RX6, "meant", "()I"⟩
abbrev cX6_moths : ByteArray := prog_8_method_60_code
def yX6_moths : MethodName := ⟨RX6, "moths", "(III)I"⟩
abbrev cX6_year : ByteArray := prog_8_method_61_code
def yX6_year : MethodName := ⟨RX6, "year", "(III)I"⟩
abbrev cX6_keep : ByteArray := prog_8_method_62_code
def yX6_keep : MethodName := ⟨RX6, "keep", "()I"⟩
abbrev cX6_back : ByteArray := prog_8_method_63_code
def yX6_back : MethodName := ⟨RX6, "back", "()I"⟩
abbrev cX6_count : ByteArray := prog_8_method_64_code
def yX6_count : MethodName := ⟨RX6, "count", "(I)I"⟩
def RJ6 : String := "java/lang/Integer"
def TJ6 : u_T := fun k => match k with
  | _ => ("", "", "", false)
def tyJ6 : Nat → FieldType := fun k => match k with
  | _ => .int
theorem nmJ6 : ∀ a, a < 0 → ∀ b, b < 0 → a ≠ b → (TJ6 a).2.1 ≠ (TJ6 b).2.1 := by decide +kernel
theorem tyJ6_ok : ∀ k, k < 0 → parseFieldDescriptor (TJ6 k).2.2.1 = some (tyJ6 k) := by decide +kernel
abbrev cJ6_bitCount_0f7a4 : ByteArray := prog_9_method_49_code
def yJ6_bitCount_0f7a4 : MethodName := ⟨RJ6, "bitCount", "(I)I"⟩
def RJ9 : String := "java/lang/Math"
def TJ9 : u_T := fun k => match k with
  | _ => ("", "", "", false)
def tyJ9 : Nat → FieldType := fun k => match k with
  | _ => .int
theorem nmJ9 : ∀ a, a < 0 → ∀ b, b < 0 → a ≠ b → (TJ9 a).2.1 ≠ (TJ9 b).2.1 := by decide +kernel
theorem tyJ9_ok : ∀ k, k < 0 → parseFieldDescriptor (TJ9 k).2.2.1 = some (tyJ9 k) := by decide +kernel
abbrev cJ9_max_7cf53 : ByteArray := prog_10_method_65_code
def yJ9_max_7cf53 : MethodName := ⟨RJ9, "max", "(II)I"⟩
abbrev cJ9_min_7cf53 : ByteArray := prog_10_method_69_code
def yJ9_min_7cf53 : MethodName := ⟨RJ9, "min", "(II)I"⟩
def RJ0 : String := "java/lang/String"
def TJ0 : u_T := fun k => match k with
  | _ => ("", "", "", false)
def tyJ0 : Nat → FieldType := fun k => match k with
  | _ => .int
theorem nmJ0 : ∀ a, a < 0 → ∀ b, b < 0 → a ≠ b → (TJ0 a).2.1 ≠ (TJ0 b).2.1 := by decide +kernel
theorem tyJ0_ok : ∀ k, k < 0 → parseFieldDescriptor (TJ0 k).2.2.1 = some (tyJ0 k) := by decide +kernel
abbrev cJ0_toCharArray_70df3 : ByteArray := prog_11_method_129_code
def yJ0_toCharArray_70df3 : MethodName := ⟨RJ0, "toCharArray", "()[C"⟩
abbrev cJ0_isLatin1_aae02 : ByteArray := prog_11_method_154_code
def yJ0_isLatin1_aae02 : MethodName := ⟨RJ0, "isLatin1", "()Z"⟩
abbrev cJ0_checkBoundsOffCount_cabcc : ByteArray := prog_11_method_157_code
def yJ0_checkBoundsOffCount_cabcc : MethodName := ⟨RJ0, "checkBoundsOffCount", "(III)I"⟩
def RJ1 : String := "java/lang/StringLatin1"
def TJ1 : u_T := fun k => match k with
  | _ => ("", "", "", false)
def tyJ1 : Nat → FieldType := fun k => match k with
  | _ => .int
theorem nmJ1 : ∀ a, a < 0 → ∀ b, b < 0 → a ≠ b → (TJ1 a).2.1 ≠ (TJ1 b).2.1 := by decide +kernel
theorem tyJ1_ok : ∀ k, k < 0 → parseFieldDescriptor (TJ1 k).2.2.1 = some (tyJ1 k) := by decide +kernel
abbrev cJ1_toChars_9d188 : ByteArray := prog_12_method_9_code
def yJ1_toChars_9d188 : MethodName := ⟨RJ1, "toChars", "([B)[C"⟩
abbrev cJ1_inflate_03870 : ByteArray := prog_12_method_49_code
def yJ1_inflate_03870 : MethodName := ⟨RJ1, "inflate", "([BI[CII)V"⟩
def RJ2 : String := "java/lang/StringUTF16"
def TJ2 : u_T := fun k => match k with
  | _ => ("", "", "", false)
def tyJ2 : Nat → FieldType := fun k => match k with
  | _ => .int
theorem nmJ2 : ∀ a, a < 0 → ∀ b, b < 0 → a ≠ b → (TJ2 a).2.1 ≠ (TJ2 b).2.1 := by decide +kernel
theorem tyJ2_ok : ∀ k, k < 0 → parseFieldDescriptor (TJ2 k).2.2.1 = some (tyJ2 k) := by decide +kernel
abbrev cJ2_getChar_3b067 : ByteArray := prog_13_method_5_code
def yJ2_getChar_3b067 : MethodName := ⟨RJ2, "getChar", "([BI)C"⟩
abbrev cJ2_length_9d52b : ByteArray := prog_13_method_6_code
def yJ2_length_9d52b : MethodName := ⟨RJ2, "length", "([B)I"⟩
abbrev cJ2_toChars_9d188 : ByteArray := prog_13_method_13_code
def yJ2_toChars_9d188 : MethodName := ⟨RJ2, "toChars", "([B)[C"⟩
abbrev cJ2_getChars_a1a8b : ByteArray := prog_13_method_26_code
def yJ2_getChars_a1a8b : MethodName := ⟨RJ2, "getChars", "([BII[CI)V"⟩
abbrev cJ2_checkBoundsOffCount_d044e : ByteArray := prog_13_method_94_code
def yJ2_checkBoundsOffCount_d044e : MethodName := ⟨RJ2, "checkBoundsOffCount", "(II[B)V"⟩
def RJ3 : String := "jdk/internal/util/Preconditions"
def TJ3 : u_T := fun k => match k with
  | _ => ("", "", "", false)
def tyJ3 : Nat → FieldType := fun k => match k with
  | _ => .int
theorem nmJ3 : ∀ a, a < 0 → ∀ b, b < 0 → a ≠ b → (TJ3 a).2.1 ≠ (TJ3 b).2.1 := by decide +kernel
theorem tyJ3_ok : ∀ k, k < 0 → parseFieldDescriptor (TJ3 k).2.2.1 = some (tyJ3 k) := by decide +kernel
abbrev cJ3_checkFromIndexSize_8c36e : ByteArray := prog_14_method_13_code
def yJ3_checkFromIndexSize_8c36e : MethodName := ⟨RJ3, "checkFromIndexSize", "(IIILjava/util/function/BiFunction;)I"⟩
def RL : String := "BottomDrawerLaw"
abbrev cL_law : ByteArray := code
def yL_law : MethodName := ⟨RL, "law", "([I)Z"⟩
