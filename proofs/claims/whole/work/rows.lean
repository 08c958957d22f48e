section
-- ===== PART A: goes FIRST, ahead of the names: the tables' words, and 'selects' of the private methods out of them =====
/-- a private method of a class that the tables say can be made, by its rows of tables_1 -/
def lw_okq (q : MethodName × Nat) : Prop := (q.1.cls ≠ "java/lang/invoke/MethodHandle" ∧ q.1.cls ≠ "java/lang/invoke/VarHandle") ∧ Cond.instantiable q.1.cls q.2 ∈ tables_1 ∧ Cond.privateMethod q.1 ∈ tables_1 ∧ Cond.instanceMethod q.1 ∈ tables_1
theorem lw_p0 : lw_okq (⟨"SwingLeaves$Reader", "skipBlanks", "()V"⟩, 11) := ⟨⟨by decide +kernel, by decide +kernel⟩, List.mem_of_getElem? (i := 24) (by decide +kernel), List.mem_of_getElem? (i := 410) (by decide +kernel), List.mem_of_getElem? (i := 411) (by decide +kernel)⟩
theorem lw_p1 : lw_okq (⟨"SwingLeaves$Reader", "readClause", "(I)V"⟩, 11) := ⟨⟨by decide +kernel, by decide +kernel⟩, List.mem_of_getElem? (i := 24) (by decide +kernel), List.mem_of_getElem? (i := 414) (by decide +kernel), List.mem_of_getElem? (i := 415) (by decide +kernel)⟩
theorem lw_p2 : lw_okq (⟨"SwingLeaves$Reader", "readLeaf", "()V"⟩, 11) := ⟨⟨by decide +kernel, by decide +kernel⟩, List.mem_of_getElem? (i := 24) (by decide +kernel), List.mem_of_getElem? (i := 418) (by decide +kernel), List.mem_of_getElem? (i := 419) (by decide +kernel)⟩
theorem lw_p3 : lw_okq (⟨"SwingLeaves$Reader", "readNumber", "(II)I"⟩, 11) := ⟨⟨by decide +kernel, by decide +kernel⟩, List.mem_of_getElem? (i := 24) (by decide +kernel), List.mem_of_getElem? (i := 422) (by decide +kernel), List.mem_of_getElem? (i := 423) (by decide +kernel)⟩
theorem lw_p4 : lw_okq (⟨"SwingLeaves$Reader", "figureAt", "(I)Z"⟩, 11) := ⟨⟨by decide +kernel, by decide +kernel⟩, List.mem_of_getElem? (i := 24) (by decide +kernel), List.mem_of_getElem? (i := 426) (by decide +kernel), List.mem_of_getElem? (i := 427) (by decide +kernel)⟩
theorem lw_p5 : lw_okq (⟨"SwingLeaves$Reader", "fail", "(II)V"⟩, 11) := ⟨⟨by decide +kernel, by decide +kernel⟩, List.mem_of_getElem? (i := 24) (by decide +kernel), List.mem_of_getElem? (i := 430) (by decide +kernel), List.mem_of_getElem? (i := 431) (by decide +kernel)⟩
theorem lw_p6 : lw_okq (⟨"SwingLeaves$Reader", "readEnd", "()V"⟩, 11) := ⟨⟨by decide +kernel, by decide +kernel⟩, List.mem_of_getElem? (i := 24) (by decide +kernel), List.mem_of_getElem? (i := 437) (by decide +kernel), List.mem_of_getElem? (i := 438) (by decide +kernel)⟩
theorem lw_p7 : lw_okq (⟨"SwingLeaves$Reader", "readWaiter", "()V"⟩, 11) := ⟨⟨by decide +kernel, by decide +kernel⟩, List.mem_of_getElem? (i := 24) (by decide +kernel), List.mem_of_getElem? (i := 441) (by decide +kernel), List.mem_of_getElem? (i := 442) (by decide +kernel)⟩
theorem lw_p8 : lw_okq (⟨"SwingLeaves$Reader", "readWindow", "()V"⟩, 11) := ⟨⟨by decide +kernel, by decide +kernel⟩, List.mem_of_getElem? (i := 24) (by decide +kernel), List.mem_of_getElem? (i := 445) (by decide +kernel), List.mem_of_getElem? (i := 446) (by decide +kernel)⟩
theorem lw_p9 : lw_okq (⟨"SwingLeaves$Reader", "readNoise", "()V"⟩, 11) := ⟨⟨by decide +kernel, by decide +kernel⟩, List.mem_of_getElem? (i := 24) (by decide +kernel), List.mem_of_getElem? (i := 449) (by decide +kernel), List.mem_of_getElem? (i := 450) (by decide +kernel)⟩
theorem lw_p10 : lw_okq (⟨"SwingLeaves", "toldOfEvening", "(I)I"⟩, 11) := ⟨⟨by decide +kernel, by decide +kernel⟩, List.mem_of_getElem? (i := 16) (by decide +kernel), List.mem_of_getElem? (i := 473) (by decide +kernel), List.mem_of_getElem? (i := 474) (by decide +kernel)⟩
theorem lw_p11 : lw_okq (⟨"SwingLeaves$Evening", "lineUp", "(LSwingLeaves$Plan;)V"⟩, 4) := ⟨⟨by decide +kernel, by decide +kernel⟩, List.mem_of_getElem? (i := 178) (by decide +kernel), List.mem_of_getElem? (i := 486) (by decide +kernel), List.mem_of_getElem? (i := 487) (by decide +kernel)⟩
theorem lw_p12 : lw_okq (⟨"SwingLeaves$Evening", "lookAt", "(ILSwingLeaves$Plan;)V"⟩, 4) := ⟨⟨by decide +kernel, by decide +kernel⟩, List.mem_of_getElem? (i := 178) (by decide +kernel), List.mem_of_getElem? (i := 490) (by decide +kernel), List.mem_of_getElem? (i := 491) (by decide +kernel)⟩
theorem lw_p13 : lw_okq (⟨"SwingLeaves$Evening", "chooseLeaf", "(III)I"⟩, 4) := ⟨⟨by decide +kernel, by decide +kernel⟩, List.mem_of_getElem? (i := 178) (by decide +kernel), List.mem_of_getElem? (i := 494) (by decide +kernel), List.mem_of_getElem? (i := 495) (by decide +kernel)⟩
theorem lw_p14 : lw_okq (⟨"SwingLeaves$Evening", "isHeard", "(ILSwingLeaves$Plan;)Z"⟩, 4) := ⟨⟨by decide +kernel, by decide +kernel⟩, List.mem_of_getElem? (i := 178) (by decide +kernel), List.mem_of_getElem? (i := 502) (by decide +kernel), List.mem_of_getElem? (i := 503) (by decide +kernel)⟩
theorem lw_p15 : lw_okq (⟨"SwingLeaves$Evening", "crashBoth", "(II)V"⟩, 4) := ⟨⟨by decide +kernel, by decide +kernel⟩, List.mem_of_getElem? (i := 178) (by decide +kernel), List.mem_of_getElem? (i := 506) (by decide +kernel), List.mem_of_getElem? (i := 507) (by decide +kernel)⟩
def lw_privs_1 : List (MethodName × Nat) := [(⟨"SwingLeaves$Reader", "skipBlanks", "()V"⟩, 11), (⟨"SwingLeaves$Reader", "readClause", "(I)V"⟩, 11), (⟨"SwingLeaves$Reader", "readLeaf", "()V"⟩, 11), (⟨"SwingLeaves$Reader", "readNumber", "(II)I"⟩, 11), (⟨"SwingLeaves$Reader", "figureAt", "(I)Z"⟩, 11), (⟨"SwingLeaves$Reader", "fail", "(II)V"⟩, 11), (⟨"SwingLeaves$Reader", "readEnd", "()V"⟩, 11), (⟨"SwingLeaves$Reader", "readWaiter", "()V"⟩, 11), (⟨"SwingLeaves$Reader", "readWindow", "()V"⟩, 11), (⟨"SwingLeaves$Reader", "readNoise", "()V"⟩, 11), (⟨"SwingLeaves", "toldOfEvening", "(I)I"⟩, 11), (⟨"SwingLeaves$Evening", "lineUp", "(LSwingLeaves$Plan;)V"⟩, 4), (⟨"SwingLeaves$Evening", "lookAt", "(ILSwingLeaves$Plan;)V"⟩, 4), (⟨"SwingLeaves$Evening", "chooseLeaf", "(III)I"⟩, 4), (⟨"SwingLeaves$Evening", "isHeard", "(ILSwingLeaves$Plan;)Z"⟩, 4), (⟨"SwingLeaves$Evening", "crashBoth", "(II)V"⟩, 4)]
theorem lw_r1 : ∀ q ∈ lw_privs_1, lw_okq q := List.forall_mem_cons.mpr ⟨lw_p0, List.forall_mem_cons.mpr ⟨lw_p1, List.forall_mem_cons.mpr ⟨lw_p2, List.forall_mem_cons.mpr ⟨lw_p3, List.forall_mem_cons.mpr ⟨lw_p4, List.forall_mem_cons.mpr ⟨lw_p5, List.forall_mem_cons.mpr ⟨lw_p6, List.forall_mem_cons.mpr ⟨lw_p7, List.forall_mem_cons.mpr ⟨lw_p8, List.forall_mem_cons.mpr ⟨lw_p9, List.forall_mem_cons.mpr ⟨lw_p10, List.forall_mem_cons.mpr ⟨lw_p11, List.forall_mem_cons.mpr ⟨lw_p12, List.forall_mem_cons.mpr ⟨lw_p13, List.forall_mem_cons.mpr ⟨lw_p14, List.forall_mem_cons.mpr ⟨lw_p15, fun _ h => absurd h List.not_mem_nil⟩⟩⟩⟩⟩⟩⟩⟩⟩⟩⟩⟩⟩⟩⟩⟩
theorem lw_p16 : lw_okq (⟨"SwingLeaves$Evening", "goThrough", "(ILSwingLeaves$Plan;I)V"⟩, 4) := ⟨⟨by decide +kernel, by decide +kernel⟩, List.mem_of_getElem? (i := 178) (by decide +kernel), List.mem_of_getElem? (i := 514) (by decide +kernel), List.mem_of_getElem? (i := 515) (by decide +kernel)⟩
theorem lw_p17 : lw_okq (⟨"SwingLeaves", "noWaiter", "(I)Z"⟩, 11) := ⟨⟨by decide +kernel, by decide +kernel⟩, List.mem_of_getElem? (i := 16) (by decide +kernel), List.mem_of_getElem? (i := 573) (by decide +kernel), List.mem_of_getElem? (i := 574) (by decide +kernel)⟩
theorem lw_p18 : lw_okq (⟨"SwingLeaves", "put", "([IIIII)I"⟩, 11) := ⟨⟨by decide +kernel, by decide +kernel⟩, List.mem_of_getElem? (i := 16) (by decide +kernel), List.mem_of_getElem? (i := 581) (by decide +kernel), List.mem_of_getElem? (i := 582) (by decide +kernel)⟩
theorem lw_p19 : lw_okq (⟨"SwingLeaves", "drawOf", "(I)I"⟩, 11) := ⟨⟨by decide +kernel, by decide +kernel⟩, List.mem_of_getElem? (i := 16) (by decide +kernel), List.mem_of_getElem? (i := 606) (by decide +kernel), List.mem_of_getElem? (i := 607) (by decide +kernel)⟩
theorem lw_p20 : lw_okq (⟨"SwingLeaves$Trials", "trialCost", "()I"⟩, 7) := ⟨⟨by decide +kernel, by decide +kernel⟩, List.mem_of_getElem? (i := 276) (by decide +kernel), List.mem_of_getElem? (i := 642) (by decide +kernel), List.mem_of_getElem? (i := 643) (by decide +kernel)⟩
theorem lw_p21 : lw_okq (⟨"SwingLeaves$Trials", "startSearch", "()V"⟩, 7) := ⟨⟨by decide +kernel, by decide +kernel⟩, List.mem_of_getElem? (i := 276) (by decide +kernel), List.mem_of_getElem? (i := 656) (by decide +kernel), List.mem_of_getElem? (i := 657) (by decide +kernel)⟩
theorem lw_p22 : lw_okq (⟨"SwingLeaves$Trials", "spellRules", "(I)V"⟩, 7) := ⟨⟨by decide +kernel, by decide +kernel⟩, List.mem_of_getElem? (i := 276) (by decide +kernel), List.mem_of_getElem? (i := 661) (by decide +kernel), List.mem_of_getElem? (i := 662) (by decide +kernel)⟩
theorem lw_p23 : lw_okq (⟨"SwingLeaves$Trials", "weigh", "(I)V"⟩, 7) := ⟨⟨by decide +kernel, by decide +kernel⟩, List.mem_of_getElem? (i := 276) (by decide +kernel), List.mem_of_getElem? (i := 665) (by decide +kernel), List.mem_of_getElem? (i := 666) (by decide +kernel)⟩
theorem lw_p24 : lw_okq (⟨"SwingLeaves$Trials", "oneComesAt", "(I)Z"⟩, 7) := ⟨⟨by decide +kernel, by decide +kernel⟩, List.mem_of_getElem? (i := 276) (by decide +kernel), List.mem_of_getElem? (i := 685) (by decide +kernel), List.mem_of_getElem? (i := 686) (by decide +kernel)⟩
theorem lw_p25 : lw_okq (⟨"SwingLeaves$Trials", "changeAt", "(III)V"⟩, 7) := ⟨⟨by decide +kernel, by decide +kernel⟩, List.mem_of_getElem? (i := 276) (by decide +kernel), List.mem_of_getElem? (i := 689) (by decide +kernel), List.mem_of_getElem? (i := 690) (by decide +kernel)⟩
theorem lw_p26 : lw_okq (⟨"SwingLeaves$Seating", "insertTenth", "(I)V"⟩, 4) := ⟨⟨by decide +kernel, by decide +kernel⟩, List.mem_of_getElem? (i := 284) (by decide +kernel), List.mem_of_getElem? (i := 720) (by decide +kernel), List.mem_of_getElem? (i := 721) (by decide +kernel)⟩
theorem lw_p27 : lw_okq (⟨"SwingLeaves$Seating", "bringForward", "(II)V"⟩, 4) := ⟨⟨by decide +kernel, by decide +kernel⟩, List.mem_of_getElem? (i := 284) (by decide +kernel), List.mem_of_getElem? (i := 731) (by decide +kernel), List.mem_of_getElem? (i := 732) (by decide +kernel)⟩
theorem lw_p28 : lw_okq (⟨"SwingLeaves$Trials", "lossOf", "(IIII)I"⟩, 7) := ⟨⟨by decide +kernel, by decide +kernel⟩, List.mem_of_getElem? (i := 276) (by decide +kernel), List.mem_of_getElem? (i := 759) (by decide +kernel), List.mem_of_getElem? (i := 760) (by decide +kernel)⟩
theorem lw_p29 : lw_okq (⟨"SwingLeavesModel", "isRead", "()Z"⟩, 47) := ⟨⟨by decide +kernel, by decide +kernel⟩, List.mem_of_getElem? (i := 820) (by decide +kernel), List.mem_of_getElem? (i := 982) (by decide +kernel), List.mem_of_getElem? (i := 983) (by decide +kernel)⟩
theorem lw_p30 : lw_okq (⟨"SwingLeavesModel", "nextToken", "()V"⟩, 47) := ⟨⟨by decide +kernel, by decide +kernel⟩, List.mem_of_getElem? (i := 820) (by decide +kernel), List.mem_of_getElem? (i := 986) (by decide +kernel), List.mem_of_getElem? (i := 987) (by decide +kernel)⟩
theorem lw_p31 : lw_okq (⟨"SwingLeavesModel", "isLeafLine", "()Z"⟩, 47) := ⟨⟨by decide +kernel, by decide +kernel⟩, List.mem_of_getElem? (i := 820) (by decide +kernel), List.mem_of_getElem? (i := 990) (by decide +kernel), List.mem_of_getElem? (i := 991) (by decide +kernel)⟩
def lw_privs_2 : List (MethodName × Nat) := [(⟨"SwingLeaves$Evening", "goThrough", "(ILSwingLeaves$Plan;I)V"⟩, 4), (⟨"SwingLeaves", "noWaiter", "(I)Z"⟩, 11), (⟨"SwingLeaves", "put", "([IIIII)I"⟩, 11), (⟨"SwingLeaves", "drawOf", "(I)I"⟩, 11), (⟨"SwingLeaves$Trials", "trialCost", "()I"⟩, 7), (⟨"SwingLeaves$Trials", "startSearch", "()V"⟩, 7), (⟨"SwingLeaves$Trials", "spellRules", "(I)V"⟩, 7), (⟨"SwingLeaves$Trials", "weigh", "(I)V"⟩, 7), (⟨"SwingLeaves$Trials", "oneComesAt", "(I)Z"⟩, 7), (⟨"SwingLeaves$Trials", "changeAt", "(III)V"⟩, 7), (⟨"SwingLeaves$Seating", "insertTenth", "(I)V"⟩, 4), (⟨"SwingLeaves$Seating", "bringForward", "(II)V"⟩, 4), (⟨"SwingLeaves$Trials", "lossOf", "(IIII)I"⟩, 7), (⟨"SwingLeavesModel", "isRead", "()Z"⟩, 47), (⟨"SwingLeavesModel", "nextToken", "()V"⟩, 47), (⟨"SwingLeavesModel", "isLeafLine", "()Z"⟩, 47)]
theorem lw_r2 : ∀ q ∈ lw_privs_2, lw_okq q := List.forall_mem_cons.mpr ⟨lw_p16, List.forall_mem_cons.mpr ⟨lw_p17, List.forall_mem_cons.mpr ⟨lw_p18, List.forall_mem_cons.mpr ⟨lw_p19, List.forall_mem_cons.mpr ⟨lw_p20, List.forall_mem_cons.mpr ⟨lw_p21, List.forall_mem_cons.mpr ⟨lw_p22, List.forall_mem_cons.mpr ⟨lw_p23, List.forall_mem_cons.mpr ⟨lw_p24, List.forall_mem_cons.mpr ⟨lw_p25, List.forall_mem_cons.mpr ⟨lw_p26, List.forall_mem_cons.mpr ⟨lw_p27, List.forall_mem_cons.mpr ⟨lw_p28, List.forall_mem_cons.mpr ⟨lw_p29, List.forall_mem_cons.mpr ⟨lw_p30, List.forall_mem_cons.mpr ⟨lw_p31, fun _ h => absurd h List.not_mem_nil⟩⟩⟩⟩⟩⟩⟩⟩⟩⟩⟩⟩⟩⟩⟩⟩
theorem lw_p32 : lw_okq (⟨"SwingLeavesModel", "isNumber", "(II)Z"⟩, 47) := ⟨⟨by decide +kernel, by decide +kernel⟩, List.mem_of_getElem? (i := 820) (by decide +kernel), List.mem_of_getElem? (i := 994) (by decide +kernel), List.mem_of_getElem? (i := 995) (by decide +kernel)⟩
theorem lw_p33 : lw_okq (⟨"SwingLeavesModel", "fails", "(I)Z"⟩, 47) := ⟨⟨by decide +kernel, by decide +kernel⟩, List.mem_of_getElem? (i := 820) (by decide +kernel), List.mem_of_getElem? (i := 998) (by decide +kernel), List.mem_of_getElem? (i := 999) (by decide +kernel)⟩
theorem lw_p34 : lw_okq (⟨"SwingLeavesModel", "isEnd", "()Z"⟩, 47) := ⟨⟨by decide +kernel, by decide +kernel⟩, List.mem_of_getElem? (i := 820) (by decide +kernel), List.mem_of_getElem? (i := 1002) (by decide +kernel), List.mem_of_getElem? (i := 1003) (by decide +kernel)⟩
theorem lw_p35 : lw_okq (⟨"SwingLeavesModel", "isWaiterLine", "()Z"⟩, 47) := ⟨⟨by decide +kernel, by decide +kernel⟩, List.mem_of_getElem? (i := 820) (by decide +kernel), List.mem_of_getElem? (i := 1006) (by decide +kernel), List.mem_of_getElem? (i := 1007) (by decide +kernel)⟩
theorem lw_p36 : lw_okq (⟨"SwingLeavesModel", "isGlassLine", "()Z"⟩, 47) := ⟨⟨by decide +kernel, by decide +kernel⟩, List.mem_of_getElem? (i := 820) (by decide +kernel), List.mem_of_getElem? (i := 1010) (by decide +kernel), List.mem_of_getElem? (i := 1011) (by decide +kernel)⟩
theorem lw_p37 : lw_okq (⟨"SwingLeavesModel", "isNoiseLine", "()Z"⟩, 47) := ⟨⟨by decide +kernel, by decide +kernel⟩, List.mem_of_getElem? (i := 820) (by decide +kernel), List.mem_of_getElem? (i := 1014) (by decide +kernel), List.mem_of_getElem? (i := 1015) (by decide +kernel)⟩
theorem lw_p38 : lw_okq (⟨"SwingLeavesModel", "costNow", "()I"⟩, 47) := ⟨⟨by decide +kernel, by decide +kernel⟩, List.mem_of_getElem? (i := 820) (by decide +kernel), List.mem_of_getElem? (i := 1026) (by decide +kernel), List.mem_of_getElem? (i := 1027) (by decide +kernel)⟩
theorem lw_p39 : lw_okq (⟨"SwingLeavesModel", "look", "(I)V"⟩, 47) := ⟨⟨by decide +kernel, by decide +kernel⟩, List.mem_of_getElem? (i := 820) (by decide +kernel), List.mem_of_getElem? (i := 1030) (by decide +kernel), List.mem_of_getElem? (i := 1031) (by decide +kernel)⟩
theorem lw_p40 : lw_okq (⟨"SwingLeavesModel", "leafFor", "(I)I"⟩, 47) := ⟨⟨by decide +kernel, by decide +kernel⟩, List.mem_of_getElem? (i := 820) (by decide +kernel), List.mem_of_getElem? (i := 1034) (by decide +kernel), List.mem_of_getElem? (i := 1035) (by decide +kernel)⟩
theorem lw_p41 : lw_okq (⟨"SwingLeavesModel", "isBusy", "(III)Z"⟩, 47) := ⟨⟨by decide +kernel, by decide +kernel⟩, List.mem_of_getElem? (i := 820) (by decide +kernel), List.mem_of_getElem? (i := 1038) (by decide +kernel), List.mem_of_getElem? (i := 1039) (by decide +kernel)⟩
theorem lw_p42 : lw_okq (⟨"SwingLeavesModel", "goThrough", "(III)V"⟩, 47) := ⟨⟨by decide +kernel, by decide +kernel⟩, List.mem_of_getElem? (i := 820) (by decide +kernel), List.mem_of_getElem? (i := 1042) (by decide +kernel), List.mem_of_getElem? (i := 1043) (by decide +kernel)⟩
theorem lw_p43 : lw_okq (⟨"SwingLeavesModel", "swing", "(II)I"⟩, 47) := ⟨⟨by decide +kernel, by decide +kernel⟩, List.mem_of_getElem? (i := 820) (by decide +kernel), List.mem_of_getElem? (i := 1046) (by decide +kernel), List.mem_of_getElem? (i := 1047) (by decide +kernel)⟩
theorem lw_p44 : lw_okq (⟨"SwingLeavesModel", "lose", "(I)V"⟩, 47) := ⟨⟨by decide +kernel, by decide +kernel⟩, List.mem_of_getElem? (i := 820) (by decide +kernel), List.mem_of_getElem? (i := 1050) (by decide +kernel), List.mem_of_getElem? (i := 1051) (by decide +kernel)⟩
theorem lw_p45 : lw_okq (⟨"SwingLeavesModel", "widen", "(IIII)V"⟩, 47) := ⟨⟨by decide +kernel, by decide +kernel⟩, List.mem_of_getElem? (i := 820) (by decide +kernel), List.mem_of_getElem? (i := 1054) (by decide +kernel), List.mem_of_getElem? (i := 1055) (by decide +kernel)⟩
theorem lw_p46 : lw_okq (⟨"SwingLeavesModel", "isHeard", "(I)Z"⟩, 47) := ⟨⟨by decide +kernel, by decide +kernel⟩, List.mem_of_getElem? (i := 820) (by decide +kernel), List.mem_of_getElem? (i := 1058) (by decide +kernel), List.mem_of_getElem? (i := 1059) (by decide +kernel)⟩
theorem lw_p47 : lw_okq (⟨"SwingLeavesModel", "crash", "(II)V"⟩, 47) := ⟨⟨by decide +kernel, by decide +kernel⟩, List.mem_of_getElem? (i := 820) (by decide +kernel), List.mem_of_getElem? (i := 1062) (by decide +kernel), List.mem_of_getElem? (i := 1063) (by decide +kernel)⟩
def lw_privs_3 : List (MethodName × Nat) := [(⟨"SwingLeavesModel", "isNumber", "(II)Z"⟩, 47), (⟨"SwingLeavesModel", "fails", "(I)Z"⟩, 47), (⟨"SwingLeavesModel", "isEnd", "()Z"⟩, 47), (⟨"SwingLeavesModel", "isWaiterLine", "()Z"⟩, 47), (⟨"SwingLeavesModel", "isGlassLine", "()Z"⟩, 47), (⟨"SwingLeavesModel", "isNoiseLine", "()Z"⟩, 47), (⟨"SwingLeavesModel", "costNow", "()I"⟩, 47), (⟨"SwingLeavesModel", "look", "(I)V"⟩, 47), (⟨"SwingLeavesModel", "leafFor", "(I)I"⟩, 47), (⟨"SwingLeavesModel", "isBusy", "(III)Z"⟩, 47), (⟨"SwingLeavesModel", "goThrough", "(III)V"⟩, 47), (⟨"SwingLeavesModel", "swing", "(II)I"⟩, 47), (⟨"SwingLeavesModel", "lose", "(I)V"⟩, 47), (⟨"SwingLeavesModel", "widen", "(IIII)V"⟩, 47), (⟨"SwingLeavesModel", "isHeard", "(I)Z"⟩, 47), (⟨"SwingLeavesModel", "crash", "(II)V"⟩, 47)]
theorem lw_r3 : ∀ q ∈ lw_privs_3, lw_okq q := List.forall_mem_cons.mpr ⟨lw_p32, List.forall_mem_cons.mpr ⟨lw_p33, List.forall_mem_cons.mpr ⟨lw_p34, List.forall_mem_cons.mpr ⟨lw_p35, List.forall_mem_cons.mpr ⟨lw_p36, List.forall_mem_cons.mpr ⟨lw_p37, List.forall_mem_cons.mpr ⟨lw_p38, List.forall_mem_cons.mpr ⟨lw_p39, List.forall_mem_cons.mpr ⟨lw_p40, List.forall_mem_cons.mpr ⟨lw_p41, List.forall_mem_cons.mpr ⟨lw_p42, List.forall_mem_cons.mpr ⟨lw_p43, List.forall_mem_cons.mpr ⟨lw_p44, List.forall_mem_cons.mpr ⟨lw_p45, List.forall_mem_cons.mpr ⟨lw_p46, List.forall_mem_cons.mpr ⟨lw_p47, fun _ h => absurd h List.not_mem_nil⟩⟩⟩⟩⟩⟩⟩⟩⟩⟩⟩⟩⟩⟩⟩⟩
theorem lw_p48 : lw_okq (⟨"SwingLeavesModel", "isOne", "(I)Z"⟩, 47) := ⟨⟨by decide +kernel, by decide +kernel⟩, List.mem_of_getElem? (i := 820) (by decide +kernel), List.mem_of_getElem? (i := 1075) (by decide +kernel), List.mem_of_getElem? (i := 1076) (by decide +kernel)⟩
theorem lw_p49 : lw_okq (⟨"SwingLeavesModel", "becomes", "(II)I"⟩, 47) := ⟨⟨by decide +kernel, by decide +kernel⟩, List.mem_of_getElem? (i := 820) (by decide +kernel), List.mem_of_getElem? (i := 1083) (by decide +kernel), List.mem_of_getElem? (i := 1084) (by decide +kernel)⟩
theorem lw_p50 : lw_okq (⟨"SwingLeavesModel", "draw", "(I)I"⟩, 47) := ⟨⟨by decide +kernel, by decide +kernel⟩, List.mem_of_getElem? (i := 820) (by decide +kernel), List.mem_of_getElem? (i := 1108) (by decide +kernel), List.mem_of_getElem? (i := 1109) (by decide +kernel)⟩
theorem lw_p51 : lw_okq (⟨"SwingLeavesModel", "hold", "()V"⟩, 47) := ⟨⟨by decide +kernel, by decide +kernel⟩, List.mem_of_getElem? (i := 820) (by decide +kernel), List.mem_of_getElem? (i := 1128) (by decide +kernel), List.mem_of_getElem? (i := 1129) (by decide +kernel)⟩
theorem lw_p52 : lw_okq (⟨"SwingLeavesModel", "release", "()V"⟩, 47) := ⟨⟨by decide +kernel, by decide +kernel⟩, List.mem_of_getElem? (i := 820) (by decide +kernel), List.mem_of_getElem? (i := 1132) (by decide +kernel), List.mem_of_getElem? (i := 1133) (by decide +kernel)⟩
theorem lw_p53 : lw_okq (⟨"SwingLeavesModel", "layPlaces", "(I)I"⟩, 47) := ⟨⟨by decide +kernel, by decide +kernel⟩, List.mem_of_getElem? (i := 820) (by decide +kernel), List.mem_of_getElem? (i := 1160) (by decide +kernel), List.mem_of_getElem? (i := 1161) (by decide +kernel)⟩
theorem lw_p54 : lw_okq (⟨"SwingLeavesModel", "loss", "(IIII)I"⟩, 47) := ⟨⟨by decide +kernel, by decide +kernel⟩, List.mem_of_getElem? (i := 820) (by decide +kernel), List.mem_of_getElem? (i := 1168) (by decide +kernel), List.mem_of_getElem? (i := 1169) (by decide +kernel)⟩
def lw_privs_4 : List (MethodName × Nat) := [(⟨"SwingLeavesModel", "isOne", "(I)Z"⟩, 47), (⟨"SwingLeavesModel", "becomes", "(II)I"⟩, 47), (⟨"SwingLeavesModel", "draw", "(I)I"⟩, 47), (⟨"SwingLeavesModel", "hold", "()V"⟩, 47), (⟨"SwingLeavesModel", "release", "()V"⟩, 47), (⟨"SwingLeavesModel", "layPlaces", "(I)I"⟩, 47), (⟨"SwingLeavesModel", "loss", "(IIII)I"⟩, 47)]
theorem lw_r4 : ∀ q ∈ lw_privs_4, lw_okq q := List.forall_mem_cons.mpr ⟨lw_p48, List.forall_mem_cons.mpr ⟨lw_p49, List.forall_mem_cons.mpr ⟨lw_p50, List.forall_mem_cons.mpr ⟨lw_p51, List.forall_mem_cons.mpr ⟨lw_p52, List.forall_mem_cons.mpr ⟨lw_p53, List.forall_mem_cons.mpr ⟨lw_p54, fun _ h => absurd h List.not_mem_nil⟩⟩⟩⟩⟩⟩⟩
def lw_privs : List (MethodName × Nat) := lw_privs_1 ++ (lw_privs_2 ++ (lw_privs_3 ++ (lw_privs_4)))
def lw_tbl : List Cond := k2_sels lw_privs ++ tables_1
theorem lw_privs_ok : ∀ q ∈ lw_privs, lw_okq q := by
  show ∀ q ∈ lw_privs_1 ++ (lw_privs_2 ++ (lw_privs_3 ++ (lw_privs_4))), lw_okq q
  exact List.forall_mem_append.mpr ⟨lw_r1, List.forall_mem_append.mpr ⟨lw_r2, List.forall_mem_append.mpr ⟨lw_r3, lw_r4⟩⟩⟩
def RX0 : String := "SwingLeaves$Evening"
def TX0 : u_T := fun k => match k with
  | 0 => ("SwingLeaves$Evening", "house", "LSwingLeaves$House;", true)
  | 1 => ("SwingLeaves$Evening", "swings", "[LSwingLeaves$Swing;", true)
  | 2 => ("SwingLeaves$Evening", "passages", "[LSwingLeaves$Passage;", true)
  | _ => ("SwingLeaves$Evening", "queue", "[I", true)
def tyX0 : Nat → FieldType := fun k => match k with
  | 0 => .object "SwingLeaves$House"
  | 1 => .array (.object "SwingLeaves$Swing")
  | 2 => .array (.object "SwingLeaves$Passage")
  | _ => .array .int
abbrev wsX00 : List Cond := u_ws RX0 TX0 4
theorem nmX0 : ∀ a, a < 4 → ∀ b, b < 4 → a ≠ b → (TX0 a).2.1 ≠ (TX0 b).2.1 := by decide +kernel
theorem tyX0_ok : ∀ k, k < 4 → parseFieldDescriptor (TX0 k).2.2.1 = some (tyX0 k) := by decide +kernel
abbrev cX0_init : ByteArray := prog_2_method_1_code
def yX0_init : MethodName := ⟨RX0, "<init>", "(LSwingLeaves$House;)V"⟩
abbrev cX0_run : ByteArray := prog_2_method_2_code
def yX0_run : MethodName := ⟨RX0, "run", "(LSwingLeaves$Plan;)V"⟩
abbrev cX0_lineUp : ByteArray := prog_2_method_3_code
def yX0_lineUp : MethodName := ⟨RX0, "lineUp", "(LSwingLeaves$Plan;)V"⟩
abbrev cX0_lookAt : ByteArray := prog_2_method_4_code
def yX0_lookAt : MethodName := ⟨RX0, "lookAt", "(ILSwingLeaves$Plan;)V"⟩
abbrev cX0_chooseLeaf : ByteArray := prog_2_method_5_code
def yX0_chooseLeaf : MethodName := ⟨RX0, "chooseLeaf", "(III)I"⟩
abbrev cX0_isHeard : ByteArray := prog_2_method_6_code
def yX0_isHeard : MethodName := ⟨RX0, "isHeard", "(ILSwingLeaves$Plan;)Z"⟩
abbrev cX0_goThrough : ByteArray := prog_2_method_7_code
def yX0_goThrough : MethodName := ⟨RX0, "goThrough", "(ILSwingLeaves$Plan;I)V"⟩
abbrev cX0_crashBoth : ByteArray := prog_2_method_8_code
def yX0_crashBoth : MethodName := ⟨RX0, "crashBoth", "(II)V"⟩
abbrev cX0_seconds : ByteArray := prog_2_method_9_code
def yX0_seconds : MethodName := ⟨RX0, "seconds", "()I"⟩
abbrev cX0_losses : ByteArray := prog_2_method_10_code
def yX0_losses : MethodName := ⟨RX0, "losses", "()I"⟩
abbrev cX0_cost : ByteArray := prog_2_method_11_code
def yX0_cost : MethodName := ⟨RX0, "cost", "()I"⟩
abbrev cX0_howMany : ByteArray := prog_2_method_12_code
def yX0_howMany : MethodName := ⟨RX0, "howMany", "(I)I"⟩
abbrev cX0_end : ByteArray := prog_2_method_13_code
def yX0_end : MethodName := ⟨RX0, "end", "()I"⟩
def RX1 : String := "SwingLeaves$House"
def TX1 : u_T := fun k => match k with
  | 0 => ("SwingLeaves$House", "holds", "[I", true)
  | 1 => ("SwingLeaves$House", "backs", "[I", true)
  | 2 => ("SwingLeaves$House", "sides", "[I", true)
  | 3 => ("SwingLeaves$House", "spans", "[I", true)
  | 4 => ("SwingLeaves$House", "values", "[I", true)
  | 5 => ("SwingLeaves$House", "callers", "[I", true)
  | _ => ("SwingLeaves$House", "waiters", "I", false)
def tyX1 : Nat → FieldType := fun k => match k with
  | 0 => .array .int
  | 1 => .array .int
  | 2 => .array .int
  | 3 => .array .int
  | 4 => .array .int
  | 5 => .array .int
  | _ => .int
abbrev wsX10 : List Cond := u_ws RX1 TX1 7
theorem nmX1 : ∀ a, a < 7 → ∀ b, b < 7 → a ≠ b → (TX1 a).2.1 ≠ (TX1 b).2.1 := by decide +kernel
theorem tyX1_ok : ∀ k, k < 7 → parseFieldDescriptor (TX1 k).2.2.1 = some (tyX1 k) := by decide +kernel
abbrev cX1_init : ByteArray := prog_3_method_1_code
def yX1_init : MethodName := ⟨RX1, "<init>", "()V"⟩
abbrev cX1_makeUntold : ByteArray := prog_3_method_2_code
def yX1_makeUntold : MethodName := ⟨RX1, "makeUntold", "()V"⟩
abbrev cX1_copyFrom : ByteArray := prog_3_method_3_code
def yX1_copyFrom : MethodName := ⟨RX1, "copyFrom", "(LSwingLeaves$House;)V"⟩
def RX2 : String := "SwingLeaves$Image"
def TX2 : u_T := fun k => match k with
  | 0 => ("SwingLeaves$Image", "plan", "LSwingLeaves$Plan;", true)
  | 1 => ("SwingLeaves$Image", "drawn", "J", false)
  | _ => ("SwingLeaves$Image", "kept", "Z", false)
def tyX2 : Nat → FieldType := fun k => match k with
  | 0 => .object "SwingLeaves$Plan"
  | 1 => .long
  | _ => .boolean
abbrev wsX20 : List Cond := u_ws RX2 TX2 3
theorem nmX2 : ∀ a, a < 3 → ∀ b, b < 3 → a ≠ b → (TX2 a).2.1 ≠ (TX2 b).2.1 := by decide +kernel
theorem tyX2_ok : ∀ k, k < 3 → parseFieldDescriptor (TX2 k).2.2.1 = some (tyX2 k) := by decide +kernel
abbrev cX2_init : ByteArray := prog_4_method_1_code
def yX2_init : MethodName := ⟨RX2, "<init>", "()V"⟩
def RX3 : String := "SwingLeaves$Passage"
def TX3 : u_T := fun k => match k with
  | 0 => ("SwingLeaves$Passage", "kind", "I", false)
  | 1 => ("SwingLeaves$Passage", "start", "I", false)
  | 2 => ("SwingLeaves$Passage", "end", "I", false)
  | 3 => ("SwingLeaves$Passage", "leaf", "I", false)
  | 4 => ("SwingLeaves$Passage", "waited", "I", false)
  | _ => ("SwingLeaves$Passage", "lost", "I", false)
def tyX3 : Nat → FieldType := fun k => match k with
  | 0 => .int
  | 1 => .int
  | 2 => .int
  | 3 => .int
  | 4 => .int
  | _ => .int
abbrev wsX30 : List Cond := u_ws RX3 TX3 6
theorem nmX3 : ∀ a, a < 6 → ∀ b, b < 6 → a ≠ b → (TX3 a).2.1 ≠ (TX3 b).2.1 := by decide +kernel
theorem tyX3_ok : ∀ k, k < 6 → parseFieldDescriptor (TX3 k).2.2.1 = some (tyX3 k) := by decide +kernel
abbrev cX3_init : ByteArray := prog_5_method_1_code
def yX3_init : MethodName := ⟨RX3, "<init>", "()V"⟩
abbrev cX3_crash : ByteArray := prog_5_method_2_code
def yX3_crash : MethodName := ⟨RX3, "crash", "()V"⟩
def RX4 : String := "SwingLeaves$Plan"
def TX4 : u_T := fun k => match k with
  | 0 => ("SwingLeaves$Plan", "comings", "[I", true)
  | 1 => ("SwingLeaves$Plan", "kicks", "[I", true)
  | 2 => ("SwingLeaves$Plan", "rules", "[I", true)
  | 3 => ("SwingLeaves$Plan", "clear", "I", false)
  | _ => ("SwingLeaves$Plan", "noise", "I", false)
def tyX4 : Nat → FieldType := fun k => match k with
  | 0 => .array .int
  | 1 => .array .int
  | 2 => .array .int
  | 3 => .int
  | _ => .int
abbrev wsX40 : List Cond := u_ws RX4 TX4 5
theorem nmX4 : ∀ a, a < 5 → ∀ b, b < 5 → a ≠ b → (TX4 a).2.1 ≠ (TX4 b).2.1 := by decide +kernel
theorem tyX4_ok : ∀ k, k < 5 → parseFieldDescriptor (TX4 k).2.2.1 = some (tyX4 k) := by decide +kernel
abbrev cX4_init : ByteArray := prog_6_method_1_code
def yX4_init : MethodName := ⟨RX4, "<init>", "()V"⟩
abbrev cX4_makeUntold : ByteArray := prog_6_method_2_code
def yX4_makeUntold : MethodName := ⟨RX4, "makeUntold", "()V"⟩
abbrev cX4_copyFrom : ByteArray := prog_6_method_3_code
def yX4_copyFrom : MethodName := ⟨RX4, "copyFrom", "(LSwingLeaves$Plan;)V"⟩
def RX5 : String := "SwingLeaves$Reader"
def TX5 : u_T := fun k => match k with
  | 0 => ("SwingLeaves$Reader", "house", "LSwingLeaves$House;", true)
  | 1 => ("SwingLeaves$Reader", "plan", "LSwingLeaves$Plan;", true)
  | 2 => ("SwingLeaves$Reader", "text", "[I", true)
  | 3 => ("SwingLeaves$Reader", "leafTold", "[I", true)
  | 4 => ("SwingLeaves$Reader", "length", "I", false)
  | 5 => ("SwingLeaves$Reader", "fault", "I", false)
  | 6 => ("SwingLeaves$Reader", "faultPlace", "I", false)
  | 7 => ("SwingLeaves$Reader", "at", "I", false)
  | 8 => ("SwingLeaves$Reader", "numberPlace", "I", false)
  | 9 => ("SwingLeaves$Reader", "windowTold", "Z", false)
  | _ => ("SwingLeaves$Reader", "noiseTold", "Z", false)
def tyX5 : Nat → FieldType := fun k => match k with
  | 0 => .object "SwingLeaves$House"
  | 1 => .object "SwingLeaves$Plan"
  | 2 => .array .int
  | 3 => .array .int
  | 4 => .int
  | 5 => .int
  | 6 => .int
  | 7 => .int
  | 8 => .int
  | 9 => .boolean
  | _ => .boolean
abbrev wsX50 : List Cond := u_ws RX5 TX5 11
theorem nmX5 : ∀ a, a < 11 → ∀ b, b < 11 → a ≠ b → (TX5 a).2.1 ≠ (TX5 b).2.1 := by decide +kernel
theorem tyX5_ok : ∀ k, k < 11 → parseFieldDescriptor (TX5 k).2.2.1 = some (tyX5 k) := by decide +kernel
abbrev cX5_init : ByteArray := prog_7_method_1_code
def yX5_init : MethodName := ⟨RX5, "<init>", "()V"⟩
abbrev cX5_take : ByteArray := prog_7_method_2_code
def yX5_take : MethodName := ⟨RX5, "take", "(I)I"⟩
abbrev cX5_read : ByteArray := prog_7_method_3_code
def yX5_read : MethodName := ⟨RX5, "read", "()V"⟩
abbrev cX5_readClause : ByteArray := prog_7_method_4_code
def yX5_readClause : MethodName := ⟨RX5, "readClause", "(I)V"⟩
abbrev cX5_readLeaf : ByteArray := prog_7_method_5_code
def yX5_readLeaf : MethodName := ⟨RX5, "readLeaf", "()V"⟩
abbrev cX5_readWaiter : ByteArray := prog_7_method_6_code
def yX5_readWaiter : MethodName := ⟨RX5, "readWaiter", "()V"⟩
abbrev cX5_readWindow : ByteArray := prog_7_method_7_code
def yX5_readWindow : MethodName := ⟨RX5, "readWindow", "()V"⟩
abbrev cX5_readNoise : ByteArray := prog_7_method_8_code
def yX5_readNoise : MethodName := ⟨RX5, "readNoise", "()V"⟩
abbrev cX5_readNumber : ByteArray := prog_7_method_9_code
def yX5_readNumber : MethodName := ⟨RX5, "readNumber", "(II)I"⟩
abbrev cX5_readEnd : ByteArray := prog_7_method_10_code
def yX5_readEnd : MethodName := ⟨RX5, "readEnd", "()V"⟩
abbrev cX5_skipBlanks : ByteArray := prog_7_method_11_code
def yX5_skipBlanks : MethodName := ⟨RX5, "skipBlanks", "()V"⟩
abbrev cX5_figureAt : ByteArray := prog_7_method_12_code
def yX5_figureAt : MethodName := ⟨RX5, "figureAt", "(I)Z"⟩
abbrev cX5_fail : ByteArray := prog_7_method_13_code
def yX5_fail : MethodName := ⟨RX5, "fail", "(II)V"⟩
def RX6 : String := "SwingLeaves$Seating"
def TX6 : u_T := fun k => match k with
  | 0 => ("SwingLeaves$Seating", "tenths", "[I", true)
  | 1 => ("SwingLeaves$Seating", "seated", "[I", true)
  | 2 => ("SwingLeaves$Seating", "members", "[I", true)
  | _ => ("SwingLeaves$Seating", "count", "I", false)
def tyX6 : Nat → FieldType := fun k => match k with
  | 0 => .array .int
  | 1 => .array .int
  | 2 => .array .int
  | _ => .int
abbrev wsX60 : List Cond := u_ws RX6 TX6 4
theorem nmX6 : ∀ a, a < 4 → ∀ b, b < 4 → a ≠ b → (TX6 a).2.1 ≠ (TX6 b).2.1 := by decide +kernel
theorem tyX6_ok : ∀ k, k < 4 → parseFieldDescriptor (TX6 k).2.2.1 = some (tyX6 k) := by decide +kernel
abbrev cX6_init : ByteArray := prog_8_method_1_code
def yX6_init : MethodName := ⟨RX6, "<init>", "()V"⟩
abbrev cX6_gather : ByteArray := prog_8_method_2_code
def yX6_gather : MethodName := ⟨RX6, "gather", "(LSwingLeaves$House;LSwingLeaves$Plan;I)V"⟩
abbrev cX6_insertTenth : ByteArray := prog_8_method_3_code
def yX6_insertTenth : MethodName := ⟨RX6, "insertTenth", "(I)V"⟩
abbrev cX6_orders : ByteArray := prog_8_method_4_code
def yX6_orders : MethodName := ⟨RX6, "orders", "()I"⟩
abbrev cX6_seatBy : ByteArray := prog_8_method_5_code
def yX6_seatBy : MethodName := ⟨RX6, "seatBy", "(I)V"⟩
abbrev cX6_bringForward : ByteArray := prog_8_method_6_code
def yX6_bringForward : MethodName := ⟨RX6, "bringForward", "(II)V"⟩
abbrev cX6_giveTenths : ByteArray := prog_8_method_7_code
def yX6_giveTenths : MethodName := ⟨RX6, "giveTenths", "(LSwingLeaves$Plan;)V"⟩
def RX7 : String := "SwingLeaves$Swing"
def TX7 : u_T := fun k => match k with
  | 0 => ("SwingLeaves$Swing", "busyFrom", "[I", true)
  | 1 => ("SwingLeaves$Swing", "busyTill", "[I", true)
  | 2 => ("SwingLeaves$Swing", "latest", "[I", true)
  | 3 => ("SwingLeaves$Swing", "openFrom", "I", false)
  | 4 => ("SwingLeaves$Swing", "openTill", "I", false)
  | 5 => ("SwingLeaves$Swing", "backTill", "I", false)
  | 6 => ("SwingLeaves$Swing", "takers", "I", false)
  | _ => ("SwingLeaves$Swing", "kicks", "I", false)
def tyX7 : Nat → FieldType := fun k => match k with
  | 0 => .array .int
  | 1 => .array .int
  | 2 => .array .int
  | 3 => .int
  | 4 => .int
  | 5 => .int
  | 6 => .int
  | _ => .int
abbrev wsX70 : List Cond := u_ws RX7 TX7 8
theorem nmX7 : ∀ a, a < 8 → ∀ b, b < 8 → a ≠ b → (TX7 a).2.1 ≠ (TX7 b).2.1 := by decide +kernel
theorem tyX7_ok : ∀ k, k < 8 → parseFieldDescriptor (TX7 k).2.2.1 = some (tyX7 k) := by decide +kernel
abbrev cX7_init : ByteArray := prog_9_method_1_code
def yX7_init : MethodName := ⟨RX7, "<init>", "()V"⟩
abbrev cX7_rest : ByteArray := prog_9_method_2_code
def yX7_rest : MethodName := ⟨RX7, "rest", "()V"⟩
abbrev cX7_busyFor : ByteArray := prog_9_method_3_code
def yX7_busyFor : MethodName := ⟨RX7, "busyFor", "(II)Z"⟩
abbrev cX7_openAt : ByteArray := prog_9_method_4_code
def yX7_openAt : MethodName := ⟨RX7, "openAt", "(I)Z"⟩
abbrev cX7_comesBackAt : ByteArray := prog_9_method_5_code
def yX7_comesBackAt : MethodName := ⟨RX7, "comesBackAt", "(I)Z"⟩
abbrev cX7_letThrough : ByteArray := prog_9_method_6_code
def yX7_letThrough : MethodName := ⟨RX7, "letThrough", "(IIII)V"⟩
abbrev cX7_takeKick : ByteArray := prog_9_method_7_code
def yX7_takeKick : MethodName := ⟨RX7, "takeKick", "(III)V"⟩
abbrev cX7_doing : ByteArray := prog_9_method_8_code
def yX7_doing : MethodName := ⟨RX7, "doing", "(I)I"⟩
def RX8 : String := "SwingLeaves$Trials"
def TX8 : u_T := fun k => match k with
  | 0 => ("SwingLeaves$Trials", "house", "LSwingLeaves$House;", true)
  | 1 => ("SwingLeaves$Trials", "plan", "LSwingLeaves$Plan;", true)
  | 2 => ("SwingLeaves$Trials", "evening", "LSwingLeaves$Evening;", true)
  | 3 => ("SwingLeaves$Trials", "trial", "LSwingLeaves$Plan;", true)
  | 4 => ("SwingLeaves$Trials", "seating", "LSwingLeaves$Seating;", true)
  | 5 => ("SwingLeaves$Trials", "found", "I", false)
  | _ => ("SwingLeaves$Trials", "foundCost", "I", false)
def tyX8 : Nat → FieldType := fun k => match k with
  | 0 => .object "SwingLeaves$House"
  | 1 => .object "SwingLeaves$Plan"
  | 2 => .object "SwingLeaves$Evening"
  | 3 => .object "SwingLeaves$Plan"
  | 4 => .object "SwingLeaves$Seating"
  | 5 => .int
  | _ => .int
abbrev wsX80 : List Cond := u_ws RX8 TX8 7
theorem nmX8 : ∀ a, a < 7 → ∀ b, b < 7 → a ≠ b → (TX8 a).2.1 ≠ (TX8 b).2.1 := by decide +kernel
theorem tyX8_ok : ∀ k, k < 7 → parseFieldDescriptor (TX8 k).2.2.1 = some (tyX8 k) := by decide +kernel
abbrev cX8_init : ByteArray := prog_10_method_1_code
def yX8_init : MethodName := ⟨RX8, "<init>", "(LSwingLeaves$House;LSwingLeaves$Plan;LSwingLeaves$Evening;)V"⟩
abbrev cX8_startSearch : ByteArray := prog_10_method_2_code
def yX8_startSearch : MethodName := ⟨RX8, "startSearch", "()V"⟩
abbrev cX8_weigh : ByteArray := prog_10_method_3_code
def yX8_weigh : MethodName := ⟨RX8, "weigh", "(I)V"⟩
abbrev cX8_trialCost : ByteArray := prog_10_method_4_code
def yX8_trialCost : MethodName := ⟨RX8, "trialCost", "()I"⟩
abbrev cX8_allBy : ByteArray := prog_10_method_5_code
def yX8_allBy : MethodName := ⟨RX8, "allBy", "(I)I"⟩
abbrev cX8_bestRules : ByteArray := prog_10_method_6_code
def yX8_bestRules : MethodName := ⟨RX8, "bestRules", "(I)I"⟩
abbrev cX8_spellRules : ByteArray := prog_10_method_7_code
def yX8_spellRules : MethodName := ⟨RX8, "spellRules", "(I)V"⟩
abbrev cX8_findKick : ByteArray := prog_10_method_8_code
def yX8_findKick : MethodName := ⟨RX8, "findKick", "(I)V"⟩
abbrev cX8_findChange : ByteArray := prog_10_method_9_code
def yX8_findChange : MethodName := ⟨RX8, "findChange", "(II)V"⟩
abbrev cX8_oneComesAt : ByteArray := prog_10_method_10_code
def yX8_oneComesAt : MethodName := ⟨RX8, "oneComesAt", "(I)Z"⟩
abbrev cX8_changeAt : ByteArray := prog_10_method_11_code
def yX8_changeAt : MethodName := ⟨RX8, "changeAt", "(III)V"⟩
abbrev cX8_windowSaves : ByteArray := prog_10_method_12_code
def yX8_windowSaves : MethodName := ⟨RX8, "windowSaves", "()I"⟩
abbrev cX8_quietSaves : ByteArray := prog_10_method_13_code
def yX8_quietSaves : MethodName := ⟨RX8, "quietSaves", "()I"⟩
abbrev cX8_spread : ByteArray := prog_10_method_14_code
def yX8_spread : MethodName := ⟨RX8, "spread", "(II)I"⟩
abbrev cX8_bestOrder : ByteArray := prog_10_method_15_code
def yX8_bestOrder : MethodName := ⟨RX8, "bestOrder", "(II)I"⟩
abbrev cX8_restingPairs : ByteArray := prog_10_method_16_code
def yX8_restingPairs : MethodName := ⟨RX8, "restingPairs", "(II)I"⟩
abbrev cX8_lossOf : ByteArray := prog_10_method_17_code
def yX8_lossOf : MethodName := ⟨RX8, "lossOf", "(IIII)I"⟩
abbrev cX8_kindOnOtherLeaf : ByteArray := prog_10_method_18_code
def yX8_kindOnOtherLeaf : MethodName := ⟨RX8, "kindOnOtherLeaf", "(I)I"⟩
def RX9 : String := "SwingLeaves"
def TX9 : u_T := fun k => match k with
  | 0 => ("SwingLeaves", "reader", "LSwingLeaves$Reader;", true)
  | 1 => ("SwingLeaves", "house", "LSwingLeaves$House;", true)
  | 2 => ("SwingLeaves", "plan", "LSwingLeaves$Plan;", true)
  | 3 => ("SwingLeaves", "evening", "LSwingLeaves$Evening;", true)
  | 4 => ("SwingLeaves", "trials", "LSwingLeaves$Trials;", true)
  | 5 => ("SwingLeaves", "images", "[LSwingLeaves$Image;", true)
  | 6 => ("SwingLeaves", "bookWaiters", "[I", true)
  | 7 => ("SwingLeaves", "bookKinds", "[I", true)
  | 8 => ("SwingLeaves", "bookLines", "I", false)
  | 9 => ("SwingLeaves", "drawn", "J", false)
  | _ => ("SwingLeaves", "faultPlace", "I", false)
def tyX9 : Nat → FieldType := fun k => match k with
  | 0 => .object "SwingLeaves$Reader"
  | 1 => .object "SwingLeaves$House"
  | 2 => .object "SwingLeaves$Plan"
  | 3 => .object "SwingLeaves$Evening"
  | 4 => .object "SwingLeaves$Trials"
  | 5 => .array (.object "SwingLeaves$Image")
  | 6 => .array .int
  | 7 => .array .int
  | 8 => .int
  | 9 => .long
  | _ => .int
abbrev wsX90 : List Cond := u_ws RX9 TX9 11
theorem nmX9 : ∀ a, a < 11 → ∀ b, b < 11 → a ≠ b → (TX9 a).2.1 ≠ (TX9 b).2.1 := by decide +kernel
theorem tyX9_ok : ∀ k, k < 11 → parseFieldDescriptor (TX9 k).2.2.1 = some (tyX9 k) := by decide +kernel
abbrev cX9_init : ByteArray := prog_1_method_1_code
def yX9_init : MethodName := ⟨RX9, "<init>", "()V"⟩
abbrev cX9_feed : ByteArray := prog_1_method_2_code
def yX9_feed : MethodName := ⟨RX9, "feed", "(I)I"⟩
abbrev cX9_house : ByteArray := prog_1_method_3_code
def yX9_house : MethodName := ⟨RX9, "house", "()I"⟩
abbrev cX9_fault : ByteArray := prog_1_method_4_code
def yX9_fault : MethodName := ⟨RX9, "fault", "()I"⟩
abbrev cX9_told : ByteArray := prog_1_method_5_code
def yX9_told : MethodName := ⟨RX9, "told", "(I)I"⟩
abbrev cX9_toldOfEvening : ByteArray := prog_1_method_6_code
def yX9_toldOfEvening : MethodName := ⟨RX9, "toldOfEvening", "(I)I"⟩
abbrev cX9_leaf : ByteArray := prog_1_method_7_code
def yX9_leaf : MethodName := ⟨RX9, "leaf", "(II)I"⟩
abbrev cX9_waiter : ByteArray := prog_1_method_8_code
def yX9_waiter : MethodName := ⟨RX9, "waiter", "(II)I"⟩
abbrev cX9_come : ByteArray := prog_1_method_9_code
def yX9_come : MethodName := ⟨RX9, "come", "(II)I"⟩
abbrev cX9_rule : ByteArray := prog_1_method_10_code
def yX9_rule : MethodName := ⟨RX9, "rule", "(II)I"⟩
abbrev cX9_kick : ByteArray := prog_1_method_11_code
def yX9_kick : MethodName := ⟨RX9, "kick", "(II)I"⟩
abbrev cX9_put : ByteArray := prog_1_method_12_code
def yX9_put : MethodName := ⟨RX9, "put", "([IIIII)I"⟩
abbrev cX9_glass : ByteArray := prog_1_method_13_code
def yX9_glass : MethodName := ⟨RX9, "glass", "(Z)I"⟩
abbrev cX9_noise : ByteArray := prog_1_method_14_code
def yX9_noise : MethodName := ⟨RX9, "noise", "(I)I"⟩
abbrev cX9_drift : ByteArray := prog_1_method_15_code
def yX9_drift : MethodName := ⟨RX9, "drift", "(I)I"⟩
abbrev cX9_drawOf : ByteArray := prog_1_method_16_code
def yX9_drawOf : MethodName := ⟨RX9, "drawOf", "(I)I"⟩
abbrev cX9_pass : ByteArray := prog_1_method_17_code
def yX9_pass : MethodName := ⟨RX9, "pass", "(II)I"⟩
abbrev cX9_leafAt : ByteArray := prog_1_method_18_code
def yX9_leafAt : MethodName := ⟨RX9, "leafAt", "(II)I"⟩
abbrev cX9_all : ByteArray := prog_1_method_19_code
def yX9_all : MethodName := ⟨RX9, "all", "(I)I"⟩
abbrev cX9_best : ByteArray := prog_1_method_20_code
def yX9_best : MethodName := ⟨RX9, "best", "(I)I"⟩
abbrev cX9_bestKick : ByteArray := prog_1_method_21_code
def yX9_bestKick : MethodName := ⟨RX9, "bestKick", "(II)I"⟩
abbrev cX9_change : ByteArray := prog_1_method_22_code
def yX9_change : MethodName := ⟨RX9, "change", "(III)I"⟩
abbrev cX9_worth : ByteArray := prog_1_method_23_code
def yX9_worth : MethodName := ⟨RX9, "worth", "(II)I"⟩
abbrev cX9_apart : ByteArray := prog_1_method_24_code
def yX9_apart : MethodName := ⟨RX9, "apart", "(II)I"⟩
abbrev cX9_order : ByteArray := prog_1_method_25_code
def yX9_order : MethodName := ⟨RX9, "order", "(II)I"⟩
abbrev cX9_rests : ByteArray := prog_1_method_26_code
def yX9_rests : MethodName := ⟨RX9, "rests", "(II)I"⟩
abbrev cX9_stack : ByteArray := prog_1_method_27_code
def yX9_stack : MethodName := ⟨RX9, "stack", "(I)I"⟩
abbrev cX9_carried : ByteArray := prog_1_method_28_code
def yX9_carried : MethodName := ⟨RX9, "carried", "(II)I"⟩
abbrev cX9_until : ByteArray := prog_1_method_29_code
def yX9_until : MethodName := ⟨RX9, "until", "(II)I"⟩
abbrev cX9_unheard : ByteArray := prog_1_method_30_code
def yX9_unheard : MethodName := ⟨RX9, "unheard", "(III)I"⟩
abbrev cX9_commonDivisor : ByteArray := prog_1_method_31_code
def yX9_commonDivisor : MethodName := ⟨RX9, "commonDivisor", "(II)I"⟩
abbrev cX9_learns : ByteArray := prog_1_method_32_code
def yX9_learns : MethodName := ⟨RX9, "learns", "(II)I"⟩
abbrev cX9_write : ByteArray := prog_1_method_33_code
def yX9_write : MethodName := ⟨RX9, "write", "(II)I"⟩
abbrev cX9_tear : ByteArray := prog_1_method_34_code
def yX9_tear : MethodName := ⟨RX9, "tear", "()I"⟩
abbrev cX9_judge : ByteArray := prog_1_method_35_code
def yX9_judge : MethodName := ⟨RX9, "judge", "()I"⟩
abbrev cX9_seed : ByteArray := prog_1_method_36_code
def yX9_seed : MethodName := ⟨RX9, "seed", "(I)I"⟩
abbrev cX9_keep : ByteArray := prog_1_method_37_code
def yX9_keep : MethodName := ⟨RX9, "keep", "(I)I"⟩
abbrev cX9_goBack : ByteArray := prog_1_method_38_code
def yX9_goBack : MethodName := ⟨RX9, "goBack", "(I)I"⟩
abbrev cX9_noWaiter : ByteArray := prog_1_method_39_code
def yX9_noWaiter : MethodName := ⟨RX9, "noWaiter", "(I)Z"⟩
abbrev cX9_noLeaf : ByteArray := prog_1_method_40_code
def yX9_noLeaf : MethodName := ⟨RX9, "noLeaf", "(I)Z"⟩
abbrev cX9_noSide : ByteArray := prog_1_method_41_code
def yX9_noSide : MethodName := ⟨RX9, "noSide", "(I)Z"⟩
abbrev cX9_noRule : ByteArray := prog_1_method_42_code
def yX9_noRule : MethodName := ⟨RX9, "noRule", "(I)Z"⟩
abbrev cX9_noImage : ByteArray := prog_1_method_43_code
def yX9_noImage : MethodName := ⟨RX9, "noImage", "(I)Z"⟩
def RX10 : String := "SwingLeavesModel"
def TX10 : u_T := fun k => match k with
  | 0 => ("SwingLeavesModel", "letters", "I", false)
  | 1 => ("SwingLeavesModel", "text", "[I", true)
  | 2 => ("SwingLeavesModel", "position", "I", false)
  | 3 => ("SwingLeavesModel", "tokenAt", "I", false)
  | 4 => ("SwingLeavesModel", "token", "I", false)
  | 5 => ("SwingLeavesModel", "number", "I", false)
  | 6 => ("SwingLeavesModel", "faultAt", "I", false)
  | 7 => ("SwingLeavesModel", "faultIs", "I", false)
  | 8 => ("SwingLeavesModel", "readMany", "I", false)
  | 9 => ("SwingLeavesModel", "read", "[I", true)
  | 10 => ("SwingLeavesModel", "readLeaf", "[I", true)
  | 11 => ("SwingLeavesModel", "readLeaves", "I", false)
  | 12 => ("SwingLeavesModel", "readGlass", "I", false)
  | 13 => ("SwingLeavesModel", "readNoise", "I", false)
  | 14 => ("SwingLeavesModel", "hasGlass", "Z", false)
  | 15 => ("SwingLeavesModel", "hasNoise", "Z", false)
  | 16 => ("SwingLeavesModel", "leaf", "[I", true)
  | 17 => ("SwingLeavesModel", "many", "I", false)
  | 18 => ("SwingLeavesModel", "side", "[I", true)
  | 19 => ("SwingLeavesModel", "lasts", "[I", true)
  | 20 => ("SwingLeavesModel", "tray", "[I", true)
  | 21 => ("SwingLeavesModel", "calls", "[I", true)
  | 22 => ("SwingLeavesModel", "now", "[I", true)
  | 23 => ("SwingLeavesModel", "image", "[I", true)
  | 24 => ("SwingLeavesModel", "isKept", "[Z", true)
  | 25 => ("SwingLeavesModel", "kind", "[I", true)
  | 26 => ("SwingLeavesModel", "goesAt", "[I", true)
  | 27 => ("SwingLeavesModel", "through", "[I", true)
  | 28 => ("SwingLeavesModel", "took", "[I", true)
  | 29 => ("SwingLeavesModel", "waited", "[I", true)
  | 30 => ("SwingLeavesModel", "lost", "[Z", true)
  | 31 => ("SwingLeavesModel", "from", "[I", true)
  | 32 => ("SwingLeavesModel", "to", "[I", true)
  | 33 => ("SwingLeavesModel", "kickAt", "[I", true)
  | 34 => ("SwingLeavesModel", "kickBy", "[I", true)
  | 35 => ("SwingLeavesModel", "takers", "[I", true)
  | 36 => ("SwingLeavesModel", "kicks", "[I", true)
  | 37 => ("SwingLeavesModel", "latest", "[I", true)
  | 38 => ("SwingLeavesModel", "seconds", "I", false)
  | 39 => ("SwingLeavesModel", "losses", "I", false)
  | 40 => ("SwingLeavesModel", "held", "[I", true)
  | 41 => ("SwingLeavesModel", "found", "[I", true)
  | 42 => ("SwingLeavesModel", "places", "[I", true)
  | 43 => ("SwingLeavesModel", "comes", "[I", true)
  | 44 => ("SwingLeavesModel", "tried", "[I", true)
  | 45 => ("SwingLeavesModel", "bookMany", "I", false)
  | _ => ("SwingLeavesModel", "book", "[I", true)
def tyX10 : Nat → FieldType := fun k => match k with
  | 0 => .int
  | 1 => .array .int
  | 2 => .int
  | 3 => .int
  | 4 => .int
  | 5 => .int
  | 6 => .int
  | 7 => .int
  | 8 => .int
  | 9 => .array .int
  | 10 => .array .int
  | 11 => .int
  | 12 => .int
  | 13 => .int
  | 14 => .boolean
  | 15 => .boolean
  | 16 => .array .int
  | 17 => .int
  | 18 => .array .int
  | 19 => .array .int
  | 20 => .array .int
  | 21 => .array .int
  | 22 => .array .int
  | 23 => .array .int
  | 24 => .array .boolean
  | 25 => .array .int
  | 26 => .array .int
  | 27 => .array .int
  | 28 => .array .int
  | 29 => .array .int
  | 30 => .array .boolean
  | 31 => .array .int
  | 32 => .array .int
  | 33 => .array .int
  | 34 => .array .int
  | 35 => .array .int
  | 36 => .array .int
  | 37 => .array .int
  | 38 => .int
  | 39 => .int
  | 40 => .array .int
  | 41 => .array .int
  | 42 => .array .int
  | 43 => .array .int
  | 44 => .array .int
  | 45 => .int
  | _ => .array .int
abbrev wsX100 : List Cond := u_ws RX10 TX10 47
theorem nmX10 : ∀ a, a < 47 → ∀ b, b < 47 → a ≠ b → (TX10 a).2.1 ≠ (TX10 b).2.1 := by decide +kernel
theorem tyX10_ok : ∀ k, k < 47 → parseFieldDescriptor (TX10 k).2.2.1 = some (tyX10 k) := by decide +kernel
abbrev cX10_init : ByteArray := prog_12_method_1_code
def yX10_init : MethodName := ⟨RX10, "<init>", "()V"⟩
abbrev cX10_in : ByteArray := prog_12_method_2_code
def yX10_in : MethodName := ⟨RX10, "in", "(III)Z"⟩
abbrev cX10_isOne : ByteArray := prog_12_method_3_code
def yX10_isOne : MethodName := ⟨RX10, "isOne", "(I)Z"⟩
abbrev cX10_feed : ByteArray := prog_12_method_4_code
def yX10_feed : MethodName := ⟨RX10, "feed", "(I)I"⟩
abbrev cX10_nextToken : ByteArray := prog_12_method_5_code
def yX10_nextToken : MethodName := ⟨RX10, "nextToken", "()V"⟩
abbrev cX10_fails : ByteArray := prog_12_method_6_code
def yX10_fails : MethodName := ⟨RX10, "fails", "(I)Z"⟩
abbrev cX10_isNumber : ByteArray := prog_12_method_7_code
def yX10_isNumber : MethodName := ⟨RX10, "isNumber", "(II)Z"⟩
abbrev cX10_isEnd : ByteArray := prog_12_method_8_code
def yX10_isEnd : MethodName := ⟨RX10, "isEnd", "()Z"⟩
abbrev cX10_isLeafLine : ByteArray := prog_12_method_9_code
def yX10_isLeafLine : MethodName := ⟨RX10, "isLeafLine", "()Z"⟩
abbrev cX10_isWaiterLine : ByteArray := prog_12_method_10_code
def yX10_isWaiterLine : MethodName := ⟨RX10, "isWaiterLine", "()Z"⟩
abbrev cX10_isGlassLine : ByteArray := prog_12_method_11_code
def yX10_isGlassLine : MethodName := ⟨RX10, "isGlassLine", "()Z"⟩
abbrev cX10_isNoiseLine : ByteArray := prog_12_method_12_code
def yX10_isNoiseLine : MethodName := ⟨RX10, "isNoiseLine", "()Z"⟩
abbrev cX10_isRead : ByteArray := prog_12_method_13_code
def yX10_isRead : MethodName := ⟨RX10, "isRead", "()Z"⟩
abbrev cX10_house : ByteArray := prog_12_method_14_code
def yX10_house : MethodName := ⟨RX10, "house", "()I"⟩
abbrev cX10_fault : ByteArray := prog_12_method_15_code
def yX10_fault : MethodName := ⟨RX10, "fault", "()I"⟩
abbrev cX10_isBusy : ByteArray := prog_12_method_16_code
def yX10_isBusy : MethodName := ⟨RX10, "isBusy", "(III)Z"⟩
abbrev cX10_widen : ByteArray := prog_12_method_17_code
def yX10_widen : MethodName := ⟨RX10, "widen", "(IIII)V"⟩
abbrev cX10_swing : ByteArray := prog_12_method_18_code
def yX10_swing : MethodName := ⟨RX10, "swing", "(II)I"⟩
abbrev cX10_isHeard : ByteArray := prog_12_method_19_code
def yX10_isHeard : MethodName := ⟨RX10, "isHeard", "(I)Z"⟩
abbrev cX10_leafFor : ByteArray := prog_12_method_20_code
def yX10_leafFor : MethodName := ⟨RX10, "leafFor", "(I)I"⟩
abbrev cX10_lose : ByteArray := prog_12_method_21_code
def yX10_lose : MethodName := ⟨RX10, "lose", "(I)V"⟩
abbrev cX10_crash : ByteArray := prog_12_method_22_code
def yX10_crash : MethodName := ⟨RX10, "crash", "(II)V"⟩
abbrev cX10_goThrough : ByteArray := prog_12_method_23_code
def yX10_goThrough : MethodName := ⟨RX10, "goThrough", "(III)V"⟩
abbrev cX10_look : ByteArray := prog_12_method_24_code
def yX10_look : MethodName := ⟨RX10, "look", "(I)V"⟩
abbrev cX10_costNow : ByteArray := prog_12_method_25_code
def yX10_costNow : MethodName := ⟨RX10, "costNow", "()I"⟩
abbrev cX10_hold : ByteArray := prog_12_method_26_code
def yX10_hold : MethodName := ⟨RX10, "hold", "()V"⟩
abbrev cX10_release : ByteArray := prog_12_method_27_code
def yX10_release : MethodName := ⟨RX10, "release", "()V"⟩
abbrev cX10_told : ByteArray := prog_12_method_28_code
def yX10_told : MethodName := ⟨RX10, "told", "(I)I"⟩
abbrev cX10_leaf : ByteArray := prog_12_method_29_code
def yX10_leaf : MethodName := ⟨RX10, "leaf", "(II)I"⟩
abbrev cX10_waiter : ByteArray := prog_12_method_30_code
def yX10_waiter : MethodName := ⟨RX10, "waiter", "(II)I"⟩
abbrev cX10_becomes : ByteArray := prog_12_method_31_code
def yX10_becomes : MethodName := ⟨RX10, "becomes", "(II)I"⟩
abbrev cX10_come : ByteArray := prog_12_method_32_code
def yX10_come : MethodName := ⟨RX10, "come", "(II)I"⟩
abbrev cX10_rule : ByteArray := prog_12_method_33_code
def yX10_rule : MethodName := ⟨RX10, "rule", "(II)I"⟩
abbrev cX10_kick : ByteArray := prog_12_method_34_code
def yX10_kick : MethodName := ⟨RX10, "kick", "(II)I"⟩
abbrev cX10_glass : ByteArray := prog_12_method_35_code
def yX10_glass : MethodName := ⟨RX10, "glass", "(Z)I"⟩
abbrev cX10_noise : ByteArray := prog_12_method_36_code
def yX10_noise : MethodName := ⟨RX10, "noise", "(I)I"⟩
abbrev cX10_draw : ByteArray := prog_12_method_37_code
def yX10_draw : MethodName := ⟨RX10, "draw", "(I)I"⟩
abbrev cX10_drift : ByteArray := prog_12_method_38_code
def yX10_drift : MethodName := ⟨RX10, "drift", "(I)I"⟩
abbrev cX10_pass : ByteArray := prog_12_method_39_code
def yX10_pass : MethodName := ⟨RX10, "pass", "(II)I"⟩
abbrev cX10_leafAt : ByteArray := prog_12_method_40_code
def yX10_leafAt : MethodName := ⟨RX10, "leafAt", "(II)I"⟩
abbrev cX10_all : ByteArray := prog_12_method_41_code
def yX10_all : MethodName := ⟨RX10, "all", "(I)I"⟩
abbrev cX10_best : ByteArray := prog_12_method_42_code
def yX10_best : MethodName := ⟨RX10, "best", "(I)I"⟩
abbrev cX10_bestKick : ByteArray := prog_12_method_43_code
def yX10_bestKick : MethodName := ⟨RX10, "bestKick", "(II)I"⟩
abbrev cX10_change : ByteArray := prog_12_method_44_code
def yX10_change : MethodName := ⟨RX10, "change", "(III)I"⟩
abbrev cX10_worth : ByteArray := prog_12_method_45_code
def yX10_worth : MethodName := ⟨RX10, "worth", "(II)I"⟩
abbrev cX10_apart : ByteArray := prog_12_method_46_code
def yX10_apart : MethodName := ⟨RX10, "apart", "(II)I"⟩
abbrev cX10_layPlaces : ByteArray := prog_12_method_47_code
def yX10_layPlaces : MethodName := ⟨RX10, "layPlaces", "(I)I"⟩
abbrev cX10_order : ByteArray := prog_12_method_48_code
def yX10_order : MethodName := ⟨RX10, "order", "(II)I"⟩
abbrev cX10_rests : ByteArray := prog_12_method_49_code
def yX10_rests : MethodName := ⟨RX10, "rests", "(II)I"⟩
abbrev cX10_loss : ByteArray := prog_12_method_50_code
def yX10_loss : MethodName := ⟨RX10, "loss", "(IIII)I"⟩
abbrev cX10_stack : ByteArray := prog_12_method_51_code
def yX10_stack : MethodName := ⟨RX10, "stack", "(I)I"⟩
abbrev cX10_until : ByteArray := prog_12_method_52_code
def yX10_until : MethodName := ⟨RX10, "until", "(II)I"⟩
abbrev cX10_unheard : ByteArray := prog_12_method_53_code
def yX10_unheard : MethodName := ⟨RX10, "unheard", "(III)I"⟩
abbrev cX10_learns : ByteArray := prog_12_method_54_code
def yX10_learns : MethodName := ⟨RX10, "learns", "(II)I"⟩
abbrev cX10_write : ByteArray := prog_12_method_55_code
def yX10_write : MethodName := ⟨RX10, "write", "(II)I"⟩
abbrev cX10_tear : ByteArray := prog_12_method_56_code
def yX10_tear : MethodName := ⟨RX10, "tear", "()I"⟩
abbrev cX10_judge : ByteArray := prog_12_method_57_code
def yX10_judge : MethodName := ⟨RX10, "judge", "()I"⟩
abbrev cX10_seed : ByteArray := prog_12_method_58_code
def yX10_seed : MethodName := ⟨RX10, "seed", "(I)I"⟩
abbrev cX10_keep : ByteArray := prog_12_method_59_code
def yX10_keep : MethodName := ⟨RX10, "keep", "(I)I"⟩
abbrev cX10_goBack : ByteArray := prog_12_method_60_code
def yX10_goBack : MethodName := ⟨RX10, "goBack", "(I)I"⟩
def RJ9 : String := "java/lang/Math"
def TJ9 : u_T := fun k => match k with
  | _ => ("", "", "", false)
def tyJ9 : Nat → FieldType := fun k => match k with
  | _ => .int
abbrev wsJ90 : List Cond := u_ws RJ9 TJ9 0
theorem nmJ9 : ∀ a, a < 0 → ∀ b, b < 0 → a ≠ b → (TJ9 a).2.1 ≠ (TJ9 b).2.1 := by decide +kernel
theorem tyJ9_ok : ∀ k, k < 0 → parseFieldDescriptor (TJ9 k).2.2.1 = some (tyJ9 k) := by decide +kernel
abbrev cJ9_max_7cf53 : ByteArray := prog_13_method_65_code
def yJ9_max_7cf53 : MethodName := ⟨RJ9, "max", "(II)I"⟩
abbrev cJ9_min_7cf53 : ByteArray := prog_13_method_69_code
def yJ9_min_7cf53 : MethodName := ⟨RJ9, "min", "(II)I"⟩
def RJ10 : String := "java/lang/System"
def TJ10 : u_T := fun k => match k with
  | _ => ("", "", "", false)
def tyJ10 : Nat → FieldType := fun k => match k with
  | _ => .int
abbrev wsJ100 : List Cond := u_ws RJ10 TJ10 0
theorem nmJ10 : ∀ a, a < 0 → ∀ b, b < 0 → a ≠ b → (TJ10 a).2.1 ≠ (TJ10 b).2.1 := by decide +kernel
theorem tyJ10_ok : ∀ k, k < 0 → parseFieldDescriptor (TJ10 k).2.2.1 = some (tyJ10 k) := by decide +kernel
def RJ7 : String := "java/util/Arrays"
def TJ7 : u_T := fun k => match k with
  | _ => ("", "", "", false)
def tyJ7 : Nat → FieldType := fun k => match k with
  | _ => .int
abbrev wsJ70 : List Cond := u_ws RJ7 TJ7 0
theorem nmJ7 : ∀ a, a < 0 → ∀ b, b < 0 → a ≠ b → (TJ7 a).2.1 ≠ (TJ7 b).2.1 := by decide +kernel
theorem tyJ7_ok : ∀ k, k < 0 → parseFieldDescriptor (TJ7 k).2.2.1 = some (tyJ7 k) := by decide +kernel
abbrev cJ7_fill_53178 : ByteArray := prog_15_method_103_code
def yJ7_fill_53178 : MethodName := ⟨RJ7, "fill", "([II)V"⟩
def RL : String := "SwingLeavesLaw"
abbrev cL_law : ByteArray := code
def yL_law : MethodName := ⟨RL, "law", "([I)Z"⟩
end
section
theorem dX0_init_0 : decode cX0_init 0 = .ok (.aload_n 0, 1) := by decide +kernel
theorem dX0_init_1 : decode cX0_init 1 = .ok (.invokespecial 3, 3) := by decide +kernel
theorem dX0_init_4 : decode cX0_init 4 = .ok (.aload_n 0, 1) := by decide +kernel
theorem dX0_init_5 : decode cX0_init 5 = .ok (.iconst 2, 1) := by decide +kernel
theorem dX0_init_6 : decode cX0_init 6 = .ok (.anewarray 9, 3) := by decide +kernel
theorem dX0_init_9 : decode cX0_init 9 = .ok (.putfield 11, 3) := by decide +kernel
theorem dX0_init_12 : decode cX0_init 12 = .ok (.aload_n 0, 1) := by decide +kernel
theorem dX0_init_13 : decode cX0_init 13 = .ok (.bipush 6, 2) := by decide +kernel
theorem dX0_init_15 : decode cX0_init 15 = .ok (.anewarray 17, 3) := by decide +kernel
theorem dX0_init_18 : decode cX0_init 18 = .ok (.putfield 19, 3) := by decide +kernel
theorem dX0_init_21 : decode cX0_init 21 = .ok (.aload_n 0, 1) := by decide +kernel
theorem dX0_init_22 : decode cX0_init 22 = .ok (.bipush 6, 2) := by decide +kernel
theorem dX0_init_24 : decode cX0_init 24 = .ok (.newarray .int, 2) := by decide +kernel
theorem dX0_init_26 : decode cX0_init 26 = .ok (.putfield 23, 3) := by decide +kernel
theorem dX0_init_29 : decode cX0_init 29 = .ok (.aload_n 0, 1) := by decide +kernel
theorem dX0_init_30 : decode cX0_init 30 = .ok (.aload_n 1, 1) := by decide +kernel
theorem dX0_init_31 : decode cX0_init 31 = .ok (.putfield 27, 3) := by decide +kernel
theorem dX0_init_34 : decode cX0_init 34 = .ok (.iconst 0, 1) := by decide +kernel
theorem dX0_init_35 : decode cX0_init 35 = .ok (.istore_n 2, 1) := by decide +kernel
theorem dX0_init_36 : decode cX0_init 36 = .ok (.iload_n 2, 1) := by decide +kernel
theorem dX0_init_37 : decode cX0_init 37 = .ok (.iconst 2, 1) := by decide +kernel
theorem dX0_init_38 : decode cX0_init 38 = .ok (.if_icmp .ge 22, 3) := by decide +kernel
theorem dX0_init_41 : decode cX0_init 41 = .ok (.aload_n 0, 1) := by decide +kernel
theorem dX0_init_42 : decode cX0_init 42 = .ok (.getfield 11, 3) := by decide +kernel
theorem dX0_init_45 : decode cX0_init 45 = .ok (.iload_n 2, 1) := by decide +kernel
theorem dX0_init_46 : decode cX0_init 46 = .ok (.new 9, 3) := by decide +kernel
theorem dX0_init_49 : decode cX0_init 49 = .ok (.dup, 1) := by decide +kernel
theorem dX0_init_50 : decode cX0_init 50 = .ok (.invokespecial 31, 3) := by decide +kernel
theorem dX0_init_53 : decode cX0_init 53 = .ok (.aastore, 1) := by decide +kernel
theorem dX0_init_54 : decode cX0_init 54 = .ok (.iinc 2 1, 3) := by decide +kernel
theorem dX0_init_57 : decode cX0_init 57 = .ok (.goto (-21), 3) := by decide +kernel
theorem dX0_init_60 : decode cX0_init 60 = .ok (.iconst 0, 1) := by decide +kernel
theorem dX0_init_61 : decode cX0_init 61 = .ok (.istore_n 2, 1) := by decide +kernel
theorem dX0_init_62 : decode cX0_init 62 = .ok (.iload_n 2, 1) := by decide +kernel
theorem dX0_init_63 : decode cX0_init 63 = .ok (.bipush 6, 2) := by decide +kernel
theorem dX0_init_65 : decode cX0_init 65 = .ok (.if_icmp .ge 22, 3) := by decide +kernel
theorem dX0_init_68 : decode cX0_init 68 = .ok (.aload_n 0, 1) := by decide +kernel
theorem dX0_init_69 : decode cX0_init 69 = .ok (.getfield 19, 3) := by decide +kernel
theorem dX0_init_72 : decode cX0_init 72 = .ok (.iload_n 2, 1) := by decide +kernel
theorem dX0_init_73 : decode cX0_init 73 = .ok (.new 17, 3) := by decide +kernel
theorem dX0_init_76 : decode cX0_init 76 = .ok (.dup, 1) := by decide +kernel
theorem dX0_init_77 : decode cX0_init 77 = .ok (.invokespecial 32, 3) := by decide +kernel
theorem dX0_init_80 : decode cX0_init 80 = .ok (.aastore, 1) := by decide +kernel
theorem dX0_init_81 : decode cX0_init 81 = .ok (.iinc 2 1, 3) := by decide +kernel
theorem dX0_init_84 : decode cX0_init 84 = .ok (.goto (-22), 3) := by decide +kernel
theorem dX0_init_87 : decode cX0_init 87 = .ok (.return_, 1) := by decide +kernel
theorem dX0_run_0 : decode cX0_run 0 = .ok (.iconst 0, 1) := by decide +kernel
theorem dX0_run_1 : decode cX0_run 1 = .ok (.istore_n 2, 1) := by decide +kernel
theorem dX0_run_2 : decode cX0_run 2 = .ok (.iload_n 2, 1) := by decide +kernel
theorem dX0_run_3 : decode cX0_run 3 = .ok (.iconst 2, 1) := by decide +kernel
theorem dX0_run_4 : decode cX0_run 4 = .ok (.if_icmp .ge 18, 3) := by decide +kernel
theorem dX0_run_7 : decode cX0_run 7 = .ok (.aload_n 0, 1) := by decide +kernel
theorem dX0_run_8 : decode cX0_run 8 = .ok (.getfield 11, 3) := by decide +kernel
theorem dX0_run_11 : decode cX0_run 11 = .ok (.iload_n 2, 1) := by decide +kernel
theorem dX0_run_12 : decode cX0_run 12 = .ok (.aaload, 1) := by decide +kernel
theorem dX0_run_13 : decode cX0_run 13 = .ok (.invokevirtual 33, 3) := by decide +kernel
theorem dX0_run_16 : decode cX0_run 16 = .ok (.iinc 2 1, 3) := by decide +kernel
theorem dX0_run_19 : decode cX0_run 19 = .ok (.goto (-17), 3) := by decide +kernel
theorem dX0_run_22 : decode cX0_run 22 = .ok (.aload_n 0, 1) := by decide +kernel
theorem dX0_run_23 : decode cX0_run 23 = .ok (.aload_n 1, 1) := by decide +kernel
theorem dX0_run_24 : decode cX0_run 24 = .ok (.invokevirtual 36, 3) := by decide +kernel
theorem dX0_run_27 : decode cX0_run 27 = .ok (.iconst 0, 1) := by decide +kernel
theorem dX0_run_28 : decode cX0_run 28 = .ok (.istore_n 2, 1) := by decide +kernel
theorem dX0_run_29 : decode cX0_run 29 = .ok (.iload_n 2, 1) := by decide +kernel
theorem dX0_run_30 : decode cX0_run 30 = .ok (.aload_n 0, 1) := by decide +kernel
theorem dX0_run_31 : decode cX0_run 31 = .ok (.getfield 27, 3) := by decide +kernel
theorem dX0_run_34 : decode cX0_run 34 = .ok (.getfield 40, 3) := by decide +kernel
theorem dX0_run_37 : decode cX0_run 37 = .ok (.if_icmp .ge 20, 3) := by decide +kernel
theorem dX0_run_40 : decode cX0_run 40 = .ok (.aload_n 0, 1) := by decide +kernel
theorem dX0_run_41 : decode cX0_run 41 = .ok (.aload_n 0, 1) := by decide +kernel
theorem dX0_run_42 : decode cX0_run 42 = .ok (.getfield 23, 3) := by decide +kernel
theorem dX0_run_45 : decode cX0_run 45 = .ok (.iload_n 2, 1) := by decide +kernel
theorem dX0_run_46 : decode cX0_run 46 = .ok (.iaload, 1) := by decide +kernel
theorem dX0_run_47 : decode cX0_run 47 = .ok (.aload_n 1, 1) := by decide +kernel
theorem dX0_run_48 : decode cX0_run 48 = .ok (.invokevirtual 46, 3) := by decide +kernel
theorem dX0_run_51 : decode cX0_run 51 = .ok (.iinc 2 1, 3) := by decide +kernel
theorem dX0_run_54 : decode cX0_run 54 = .ok (.goto (-25), 3) := by decide +kernel
theorem dX0_run_57 : decode cX0_run 57 = .ok (.return_, 1) := by decide +kernel
theorem dX0_lineUp_0 : decode cX0_lineUp 0 = .ok (.iconst 0, 1) := by decide +kernel
theorem dX0_lineUp_1 : decode cX0_lineUp 1 = .ok (.istore_n 2, 1) := by decide +kernel
theorem dX0_lineUp_2 : decode cX0_lineUp 2 = .ok (.iload_n 2, 1) := by decide +kernel
theorem dX0_lineUp_3 : decode cX0_lineUp 3 = .ok (.aload_n 0, 1) := by decide +kernel
theorem dX0_lineUp_4 : decode cX0_lineUp 4 = .ok (.getfield 27, 3) := by decide +kernel
theorem dX0_lineUp_7 : decode cX0_lineUp 7 = .ok (.getfield 40, 3) := by decide +kernel
theorem dX0_lineUp_10 : decode cX0_lineUp 10 = .ok (.if_icmp .ge 64, 3) := by decide +kernel
theorem dX0_lineUp_13 : decode cX0_lineUp 13 = .ok (.iload_n 2, 1) := by decide +kernel
theorem dX0_lineUp_14 : decode cX0_lineUp 14 = .ok (.istore_n 3, 1) := by decide +kernel
theorem dX0_lineUp_15 : decode cX0_lineUp 15 = .ok (.iload_n 3, 1) := by decide +kernel
theorem dX0_lineUp_16 : decode cX0_lineUp 16 = .ok (.ifCond .le 45, 3) := by decide +kernel
theorem dX0_lineUp_19 : decode cX0_lineUp 19 = .ok (.aload_n 1, 1) := by decide +kernel
theorem dX0_lineUp_20 : decode cX0_lineUp 20 = .ok (.getfield 50, 3) := by decide +kernel
theorem dX0_lineUp_23 : decode cX0_lineUp 23 = .ok (.aload_n 0, 1) := by decide +kernel
theorem dX0_lineUp_24 : decode cX0_lineUp 24 = .ok (.getfield 23, 3) := by decide +kernel
theorem dX0_lineUp_27 : decode cX0_lineUp 27 = .ok (.iload_n 3, 1) := by decide +kernel
theorem dX0_lineUp_28 : decode cX0_lineUp 28 = .ok (.iconst 1, 1) := by decide +kernel
theorem dX0_lineUp_29 : decode cX0_lineUp 29 = .ok (.isub, 1) := by decide +kernel
theorem dX0_lineUp_30 : decode cX0_lineUp 30 = .ok (.iaload, 1) := by decide +kernel
theorem dX0_lineUp_31 : decode cX0_lineUp 31 = .ok (.iaload, 1) := by decide +kernel
theorem dX0_lineUp_32 : decode cX0_lineUp 32 = .ok (.aload_n 1, 1) := by decide +kernel
theorem dX0_lineUp_33 : decode cX0_lineUp 33 = .ok (.getfield 50, 3) := by decide +kernel
theorem dX0_lineUp_36 : decode cX0_lineUp 36 = .ok (.iload_n 2, 1) := by decide +kernel
theorem dX0_lineUp_37 : decode cX0_lineUp 37 = .ok (.iaload, 1) := by decide +kernel
theorem dX0_lineUp_38 : decode cX0_lineUp 38 = .ok (.if_icmp .le 23, 3) := by decide +kernel
theorem dX0_lineUp_41 : decode cX0_lineUp 41 = .ok (.aload_n 0, 1) := by decide +kernel
theorem dX0_lineUp_42 : decode cX0_lineUp 42 = .ok (.getfield 23, 3) := by decide +kernel
theorem dX0_lineUp_45 : decode cX0_lineUp 45 = .ok (.iload_n 3, 1) := by decide +kernel
theorem dX0_lineUp_46 : decode cX0_lineUp 46 = .ok (.aload_n 0, 1) := by decide +kernel
theorem dX0_lineUp_47 : decode cX0_lineUp 47 = .ok (.getfield 23, 3) := by decide +kernel
theorem dX0_lineUp_50 : decode cX0_lineUp 50 = .ok (.iload_n 3, 1) := by decide +kernel
theorem dX0_lineUp_51 : decode cX0_lineUp 51 = .ok (.iconst 1, 1) := by decide +kernel
theorem dX0_lineUp_52 : decode cX0_lineUp 52 = .ok (.isub, 1) := by decide +kernel
theorem dX0_lineUp_53 : decode cX0_lineUp 53 = .ok (.iaload, 1) := by decide +kernel
theorem dX0_lineUp_54 : decode cX0_lineUp 54 = .ok (.iastore, 1) := by decide +kernel
theorem dX0_lineUp_55 : decode cX0_lineUp 55 = .ok (.iinc 3 (-1), 3) := by decide +kernel
theorem dX0_lineUp_58 : decode cX0_lineUp 58 = .ok (.goto (-43), 3) := by decide +kernel
theorem dX0_lineUp_61 : decode cX0_lineUp 61 = .ok (.aload_n 0, 1) := by decide +kernel
theorem dX0_lineUp_62 : decode cX0_lineUp 62 = .ok (.getfield 23, 3) := by decide +kernel
theorem dX0_lineUp_65 : decode cX0_lineUp 65 = .ok (.iload_n 3, 1) := by decide +kernel
theorem dX0_lineUp_66 : decode cX0_lineUp 66 = .ok (.iload_n 2, 1) := by decide +kernel
theorem dX0_lineUp_67 : decode cX0_lineUp 67 = .ok (.iastore, 1) := by decide +kernel
theorem dX0_lineUp_68 : decode cX0_lineUp 68 = .ok (.iinc 2 1, 3) := by decide +kernel
theorem dX0_lineUp_71 : decode cX0_lineUp 71 = .ok (.goto (-69), 3) := by decide +kernel
theorem dX0_lineUp_74 : decode cX0_lineUp 74 = .ok (.return_, 1) := by decide +kernel
theorem dX0_lookAt_0 : decode cX0_lookAt 0 = .ok (.aload_n 0, 1) := by decide +kernel
theorem dX0_lookAt_1 : decode cX0_lookAt 1 = .ok (.getfield 27, 3) := by decide +kernel
theorem dX0_lookAt_4 : decode cX0_lookAt 4 = .ok (.getfield 55, 3) := by decide +kernel
theorem dX0_lookAt_7 : decode cX0_lookAt 7 = .ok (.iload_n 1, 1) := by decide +kernel
theorem dX0_lookAt_8 : decode cX0_lookAt 8 = .ok (.iaload, 1) := by decide +kernel
theorem dX0_lookAt_9 : decode cX0_lookAt 9 = .ok (.istore_n 3, 1) := by decide +kernel
theorem dX0_lookAt_10 : decode cX0_lookAt 10 = .ok (.iconst 1, 1) := by decide +kernel
theorem dX0_lookAt_11 : decode cX0_lookAt 11 = .ok (.iload_n 3, 1) := by decide +kernel
theorem dX0_lookAt_12 : decode cX0_lookAt 12 = .ok (.isub, 1) := by decide +kernel
theorem dX0_lookAt_13 : decode cX0_lookAt 13 = .ok (.istore 4, 2) := by decide +kernel
theorem dX0_lookAt_15 : decode cX0_lookAt 15 = .ok (.aload_n 2, 1) := by decide +kernel
theorem dX0_lookAt_16 : decode cX0_lookAt 16 = .ok (.getfield 50, 3) := by decide +kernel
theorem dX0_lookAt_19 : decode cX0_lookAt 19 = .ok (.iload_n 1, 1) := by decide +kernel
theorem dX0_lookAt_20 : decode cX0_lookAt 20 = .ok (.iaload, 1) := by decide +kernel
theorem dX0_lookAt_21 : decode cX0_lookAt 21 = .ok (.istore 5, 2) := by decide +kernel
theorem dX0_lookAt_23 : decode cX0_lookAt 23 = .ok (.iload 5, 2) := by decide +kernel
theorem dX0_lookAt_25 : decode cX0_lookAt 25 = .ok (.istore 6, 2) := by decide +kernel
theorem dX0_lookAt_27 : decode cX0_lookAt 27 = .ok (.aload_n 0, 1) := by decide +kernel
theorem dX0_lookAt_28 : decode cX0_lookAt 28 = .ok (.getfield 27, 3) := by decide +kernel
theorem dX0_lookAt_31 : decode cX0_lookAt 31 = .ok (.getfield 58, 3) := by decide +kernel
theorem dX0_lookAt_34 : decode cX0_lookAt 34 = .ok (.iload_n 1, 1) := by decide +kernel
theorem dX0_lookAt_35 : decode cX0_lookAt 35 = .ok (.iaload, 1) := by decide +kernel
theorem dX0_lookAt_36 : decode cX0_lookAt 36 = .ok (.istore 7, 2) := by decide +kernel
theorem dX0_lookAt_38 : decode cX0_lookAt 38 = .ok (.aload_n 0, 1) := by decide +kernel
theorem dX0_lookAt_39 : decode cX0_lookAt 39 = .ok (.getfield 19, 3) := by decide +kernel
theorem dX0_lookAt_42 : decode cX0_lookAt 42 = .ok (.iload_n 1, 1) := by decide +kernel
theorem dX0_lookAt_43 : decode cX0_lookAt 43 = .ok (.aaload, 1) := by decide +kernel
theorem dX0_lookAt_44 : decode cX0_lookAt 44 = .ok (.astore 8, 2) := by decide +kernel
theorem dX0_lookAt_46 : decode cX0_lookAt 46 = .ok (.aload 8, 2) := by decide +kernel
theorem dX0_lookAt_48 : decode cX0_lookAt 48 = .ok (.iconst 0, 1) := by decide +kernel
theorem dX0_lookAt_49 : decode cX0_lookAt 49 = .ok (.putfield 61, 3) := by decide +kernel
theorem dX0_lookAt_52 : decode cX0_lookAt 52 = .ok (.aload 8, 2) := by decide +kernel
theorem dX0_lookAt_54 : decode cX0_lookAt 54 = .ok (.iconst 0, 1) := by decide +kernel
theorem dX0_lookAt_55 : decode cX0_lookAt 55 = .ok (.putfield 64, 3) := by decide +kernel
theorem dX0_lookAt_58 : decode cX0_lookAt 58 = .ok (.aload 8, 2) := by decide +kernel
theorem dX0_lookAt_60 : decode cX0_lookAt 60 = .ok (.aload_n 0, 1) := by decide +kernel
theorem dX0_lookAt_61 : decode cX0_lookAt 61 = .ok (.aload_n 2, 1) := by decide +kernel
theorem dX0_lookAt_62 : decode cX0_lookAt 62 = .ok (.getfield 67, 3) := by decide +kernel
theorem dX0_lookAt_65 : decode cX0_lookAt 65 = .ok (.iload_n 1, 1) := by decide +kernel
theorem dX0_lookAt_66 : decode cX0_lookAt 66 = .ok (.iaload, 1) := by decide +kernel
theorem dX0_lookAt_67 : decode cX0_lookAt 67 = .ok (.iload_n 3, 1) := by decide +kernel
theorem dX0_lookAt_68 : decode cX0_lookAt 68 = .ok (.iload 5, 2) := by decide +kernel
theorem dX0_lookAt_70 : decode cX0_lookAt 70 = .ok (.invokevirtual 70, 3) := by decide +kernel
theorem dX0_lookAt_73 : decode cX0_lookAt 73 = .ok (.putfield 74, 3) := by decide +kernel
theorem dX0_lookAt_76 : decode cX0_lookAt 76 = .ok (.aload_n 0, 1) := by decide +kernel
theorem dX0_lookAt_77 : decode cX0_lookAt 77 = .ok (.getfield 11, 3) := by decide +kernel
theorem dX0_lookAt_80 : decode cX0_lookAt 80 = .ok (.aload 8, 2) := by decide +kernel
theorem dX0_lookAt_82 : decode cX0_lookAt 82 = .ok (.getfield 74, 3) := by decide +kernel
theorem dX0_lookAt_85 : decode cX0_lookAt 85 = .ok (.aaload, 1) := by decide +kernel
theorem dX0_lookAt_86 : decode cX0_lookAt 86 = .ok (.astore 9, 2) := by decide +kernel
theorem dX0_lookAt_88 : decode cX0_lookAt 88 = .ok (.aload 9, 2) := by decide +kernel
theorem dX0_lookAt_90 : decode cX0_lookAt 90 = .ok (.dup, 1) := by decide +kernel
theorem dX0_lookAt_91 : decode cX0_lookAt 91 = .ok (.getfield 77, 3) := by decide +kernel
theorem dX0_lookAt_94 : decode cX0_lookAt 94 = .ok (.iconst 1, 1) := by decide +kernel
theorem dX0_lookAt_95 : decode cX0_lookAt 95 = .ok (.iadd, 1) := by decide +kernel
theorem dX0_lookAt_96 : decode cX0_lookAt 96 = .ok (.putfield 77, 3) := by decide +kernel
theorem dX0_lookAt_99 : decode cX0_lookAt 99 = .ok (.aload 9, 2) := by decide +kernel
theorem dX0_lookAt_101 : decode cX0_lookAt 101 = .ok (.iload 4, 2) := by decide +kernel
theorem dX0_lookAt_103 : decode cX0_lookAt 103 = .ok (.iload 5, 2) := by decide +kernel
theorem dX0_lookAt_105 : decode cX0_lookAt 105 = .ok (.invokevirtual 80, 3) := by decide +kernel
theorem dX0_lookAt_108 : decode cX0_lookAt 108 = .ok (.ifCond .eq 39, 3) := by decide +kernel
theorem dX0_lookAt_111 : decode cX0_lookAt 111 = .ok (.aload_n 2, 1) := by decide +kernel
theorem dX0_lookAt_112 : decode cX0_lookAt 112 = .ok (.getfield 84, 3) := by decide +kernel
theorem dX0_lookAt_115 : decode cX0_lookAt 115 = .ok (.ifCond .ne 32, 3) := by decide +kernel
theorem dX0_lookAt_118 : decode cX0_lookAt 118 = .ok (.aload_n 0, 1) := by decide +kernel
theorem dX0_lookAt_119 : decode cX0_lookAt 119 = .ok (.iload_n 1, 1) := by decide +kernel
theorem dX0_lookAt_120 : decode cX0_lookAt 120 = .ok (.aload_n 2, 1) := by decide +kernel
theorem dX0_lookAt_121 : decode cX0_lookAt 121 = .ok (.invokevirtual 87, 3) := by decide +kernel
theorem dX0_lookAt_124 : decode cX0_lookAt 124 = .ok (.ifCond .ne 23, 3) := by decide +kernel
theorem dX0_lookAt_127 : decode cX0_lookAt 127 = .ok (.bipush 20, 2) := by decide +kernel
theorem dX0_lookAt_129 : decode cX0_lookAt 129 = .ok (.istore 7, 2) := by decide +kernel
theorem dX0_lookAt_131 : decode cX0_lookAt 131 = .ok (.aload_n 0, 1) := by decide +kernel
theorem dX0_lookAt_132 : decode cX0_lookAt 132 = .ok (.iload_n 1, 1) := by decide +kernel
theorem dX0_lookAt_133 : decode cX0_lookAt 133 = .ok (.aload 9, 2) := by decide +kernel
theorem dX0_lookAt_135 : decode cX0_lookAt 135 = .ok (.getfield 91, 3) := by decide +kernel
theorem dX0_lookAt_138 : decode cX0_lookAt 138 = .ok (.iload 4, 2) := by decide +kernel
theorem dX0_lookAt_140 : decode cX0_lookAt 140 = .ok (.iaload, 1) := by decide +kernel
theorem dX0_lookAt_141 : decode cX0_lookAt 141 = .ok (.invokevirtual 94, 3) := by decide +kernel
theorem dX0_lookAt_144 : decode cX0_lookAt 144 = .ok (.goto 51, 3) := by decide +kernel
theorem dX0_lookAt_147 : decode cX0_lookAt 147 = .ok (.aload 9, 2) := by decide +kernel
theorem dX0_lookAt_149 : decode cX0_lookAt 149 = .ok (.iload 4, 2) := by decide +kernel
theorem dX0_lookAt_151 : decode cX0_lookAt 151 = .ok (.iload 5, 2) := by decide +kernel
theorem dX0_lookAt_153 : decode cX0_lookAt 153 = .ok (.invokevirtual 80, 3) := by decide +kernel
theorem dX0_lookAt_156 : decode cX0_lookAt 156 = .ok (.ifCond .eq 31, 3) := by decide +kernel
theorem dX0_lookAt_159 : decode cX0_lookAt 159 = .ok (.aload 9, 2) := by decide +kernel
theorem dX0_lookAt_161 : decode cX0_lookAt 161 = .ok (.getfield 98, 3) := by decide +kernel
theorem dX0_lookAt_164 : decode cX0_lookAt 164 = .ok (.iload 4, 2) := by decide +kernel
theorem dX0_lookAt_166 : decode cX0_lookAt 166 = .ok (.iaload, 1) := by decide +kernel
theorem dX0_lookAt_167 : decode cX0_lookAt 167 = .ok (.istore 6, 2) := by decide +kernel
theorem dX0_lookAt_169 : decode cX0_lookAt 169 = .ok (.aload 8, 2) := by decide +kernel
theorem dX0_lookAt_171 : decode cX0_lookAt 171 = .ok (.aload_n 2, 1) := by decide +kernel
theorem dX0_lookAt_172 : decode cX0_lookAt 172 = .ok (.getfield 84, 3) := by decide +kernel
theorem dX0_lookAt_175 : decode cX0_lookAt 175 = .ok (.iconst 1, 1) := by decide +kernel
theorem dX0_lookAt_176 : decode cX0_lookAt 176 = .ok (.if_icmp .ne 7, 3) := by decide +kernel
theorem dX0_lookAt_179 : decode cX0_lookAt 179 = .ok (.iconst 4, 1) := by decide +kernel
theorem dX0_lookAt_180 : decode cX0_lookAt 180 = .ok (.goto 4, 3) := by decide +kernel
theorem dX0_lookAt_183 : decode cX0_lookAt 183 = .ok (.iconst 3, 1) := by decide +kernel
theorem dX0_lookAt_184 : decode cX0_lookAt 184 = .ok (.putfield 61, 3) := by decide +kernel
theorem dX0_lookAt_187 : decode cX0_lookAt 187 = .ok (.aload_n 0, 1) := by decide +kernel
theorem dX0_lookAt_188 : decode cX0_lookAt 188 = .ok (.iload_n 1, 1) := by decide +kernel
theorem dX0_lookAt_189 : decode cX0_lookAt 189 = .ok (.aload_n 2, 1) := by decide +kernel
theorem dX0_lookAt_190 : decode cX0_lookAt 190 = .ok (.iload 6, 2) := by decide +kernel
theorem dX0_lookAt_192 : decode cX0_lookAt 192 = .ok (.invokevirtual 101, 3) := by decide +kernel
theorem dX0_lookAt_195 : decode cX0_lookAt 195 = .ok (.aload 8, 2) := by decide +kernel
theorem dX0_lookAt_197 : decode cX0_lookAt 197 = .ok (.iload 6, 2) := by decide +kernel
theorem dX0_lookAt_199 : decode cX0_lookAt 199 = .ok (.iload 5, 2) := by decide +kernel
theorem dX0_lookAt_201 : decode cX0_lookAt 201 = .ok (.isub, 1) := by decide +kernel
theorem dX0_lookAt_202 : decode cX0_lookAt 202 = .ok (.putfield 105, 3) := by decide +kernel
theorem dX0_lookAt_205 : decode cX0_lookAt 205 = .ok (.aload 8, 2) := by decide +kernel
theorem dX0_lookAt_207 : decode cX0_lookAt 207 = .ok (.iload 6, 2) := by decide +kernel
theorem dX0_lookAt_209 : decode cX0_lookAt 209 = .ok (.putfield 108, 3) := by decide +kernel
theorem dX0_lookAt_212 : decode cX0_lookAt 212 = .ok (.aload 8, 2) := by decide +kernel
theorem dX0_lookAt_214 : decode cX0_lookAt 214 = .ok (.iload 6, 2) := by decide +kernel
theorem dX0_lookAt_216 : decode cX0_lookAt 216 = .ok (.iload 7, 2) := by decide +kernel
theorem dX0_lookAt_218 : decode cX0_lookAt 218 = .ok (.iadd, 1) := by decide +kernel
theorem dX0_lookAt_219 : decode cX0_lookAt 219 = .ok (.putfield 111, 3) := by decide +kernel
theorem dX0_lookAt_222 : decode cX0_lookAt 222 = .ok (.aload 9, 2) := by decide +kernel
theorem dX0_lookAt_224 : decode cX0_lookAt 224 = .ok (.iload_n 1, 1) := by decide +kernel
theorem dX0_lookAt_225 : decode cX0_lookAt 225 = .ok (.iload_n 3, 1) := by decide +kernel
theorem dX0_lookAt_226 : decode cX0_lookAt 226 = .ok (.iload 6, 2) := by decide +kernel
theorem dX0_lookAt_228 : decode cX0_lookAt 228 = .ok (.iload 6, 2) := by decide +kernel
theorem dX0_lookAt_230 : decode cX0_lookAt 230 = .ok (.iload 7, 2) := by decide +kernel
theorem dX0_lookAt_232 : decode cX0_lookAt 232 = .ok (.iadd, 1) := by decide +kernel
theorem dX0_lookAt_233 : decode cX0_lookAt 233 = .ok (.invokevirtual 114, 3) := by decide +kernel
theorem dX0_lookAt_236 : decode cX0_lookAt 236 = .ok (.return_, 1) := by decide +kernel
theorem dX0_chooseLeaf_0 : decode cX0_chooseLeaf 0 = .ok (.iconst 1, 1) := by decide +kernel
theorem dX0_chooseLeaf_1 : decode cX0_chooseLeaf 1 = .ok (.iload_n 2, 1) := by decide +kernel
theorem dX0_chooseLeaf_2 : decode cX0_chooseLeaf 2 = .ok (.isub, 1) := by decide +kernel
theorem dX0_chooseLeaf_3 : decode cX0_chooseLeaf 3 = .ok (.istore 4, 2) := by decide +kernel
theorem dX0_chooseLeaf_5 : decode cX0_chooseLeaf 5 = .ok (.iload_n 1, 1) := by decide +kernel
theorem dX0_chooseLeaf_6 : decode cX0_chooseLeaf 6 = .ok (.ifCond .ne 5, 3) := by decide +kernel
theorem dX0_chooseLeaf_9 : decode cX0_chooseLeaf 9 = .ok (.iload_n 2, 1) := by decide +kernel
theorem dX0_chooseLeaf_10 : decode cX0_chooseLeaf 10 = .ok (.ireturn, 1) := by decide +kernel
theorem dX0_chooseLeaf_11 : decode cX0_chooseLeaf 11 = .ok (.iload_n 1, 1) := by decide +kernel
theorem dX0_chooseLeaf_12 : decode cX0_chooseLeaf 12 = .ok (.iconst 1, 1) := by decide +kernel
theorem dX0_chooseLeaf_13 : decode cX0_chooseLeaf 13 = .ok (.if_icmp .ne 6, 3) := by decide +kernel
theorem dX0_chooseLeaf_16 : decode cX0_chooseLeaf 16 = .ok (.iload 4, 2) := by decide +kernel
theorem dX0_chooseLeaf_18 : decode cX0_chooseLeaf 18 = .ok (.ireturn, 1) := by decide +kernel
theorem dX0_chooseLeaf_19 : decode cX0_chooseLeaf 19 = .ok (.aload_n 0, 1) := by decide +kernel
theorem dX0_chooseLeaf_20 : decode cX0_chooseLeaf 20 = .ok (.getfield 11, 3) := by decide +kernel
theorem dX0_chooseLeaf_23 : decode cX0_chooseLeaf 23 = .ok (.iload_n 2, 1) := by decide +kernel
theorem dX0_chooseLeaf_24 : decode cX0_chooseLeaf 24 = .ok (.aaload, 1) := by decide +kernel
theorem dX0_chooseLeaf_25 : decode cX0_chooseLeaf 25 = .ok (.iload 4, 2) := by decide +kernel
theorem dX0_chooseLeaf_27 : decode cX0_chooseLeaf 27 = .ok (.iload_n 3, 1) := by decide +kernel
theorem dX0_chooseLeaf_28 : decode cX0_chooseLeaf 28 = .ok (.invokevirtual 80, 3) := by decide +kernel
theorem dX0_chooseLeaf_31 : decode cX0_chooseLeaf 31 = .ok (.ifCond .eq 23, 3) := by decide +kernel
theorem dX0_chooseLeaf_34 : decode cX0_chooseLeaf 34 = .ok (.aload_n 0, 1) := by decide +kernel
theorem dX0_chooseLeaf_35 : decode cX0_chooseLeaf 35 = .ok (.getfield 11, 3) := by decide +kernel
theorem dX0_chooseLeaf_38 : decode cX0_chooseLeaf 38 = .ok (.iload 4, 2) := by decide +kernel
theorem dX0_chooseLeaf_40 : decode cX0_chooseLeaf 40 = .ok (.aaload, 1) := by decide +kernel
theorem dX0_chooseLeaf_41 : decode cX0_chooseLeaf 41 = .ok (.iload 4, 2) := by decide +kernel
theorem dX0_chooseLeaf_43 : decode cX0_chooseLeaf 43 = .ok (.iload_n 3, 1) := by decide +kernel
theorem dX0_chooseLeaf_44 : decode cX0_chooseLeaf 44 = .ok (.invokevirtual 80, 3) := by decide +kernel
theorem dX0_chooseLeaf_47 : decode cX0_chooseLeaf 47 = .ok (.ifCond .ne 7, 3) := by decide +kernel
theorem dX0_chooseLeaf_50 : decode cX0_chooseLeaf 50 = .ok (.iconst 1, 1) := by decide +kernel
theorem dX0_chooseLeaf_51 : decode cX0_chooseLeaf 51 = .ok (.goto 4, 3) := by decide +kernel
theorem dX0_chooseLeaf_54 : decode cX0_chooseLeaf 54 = .ok (.iconst 0, 1) := by decide +kernel
theorem dX0_chooseLeaf_55 : decode cX0_chooseLeaf 55 = .ok (.istore 5, 2) := by decide +kernel
theorem dX0_chooseLeaf_57 : decode cX0_chooseLeaf 57 = .ok (.iload 5, 2) := by decide +kernel
theorem dX0_chooseLeaf_59 : decode cX0_chooseLeaf 59 = .ok (.ifCond .eq 8, 3) := by decide +kernel
theorem dX0_chooseLeaf_62 : decode cX0_chooseLeaf 62 = .ok (.iload 4, 2) := by decide +kernel
theorem dX0_chooseLeaf_64 : decode cX0_chooseLeaf 64 = .ok (.goto 4, 3) := by decide +kernel
theorem dX0_chooseLeaf_67 : decode cX0_chooseLeaf 67 = .ok (.iload_n 2, 1) := by decide +kernel
theorem dX0_chooseLeaf_68 : decode cX0_chooseLeaf 68 = .ok (.ireturn, 1) := by decide +kernel
theorem dX0_isHeard_0 : decode cX0_isHeard 0 = .ok (.aload_n 0, 1) := by decide +kernel
theorem dX0_isHeard_1 : decode cX0_isHeard 1 = .ok (.getfield 27, 3) := by decide +kernel
theorem dX0_isHeard_4 : decode cX0_isHeard 4 = .ok (.getfield 118, 3) := by decide +kernel
theorem dX0_isHeard_7 : decode cX0_isHeard 7 = .ok (.iload_n 1, 1) := by decide +kernel
theorem dX0_isHeard_8 : decode cX0_isHeard 8 = .ok (.iaload, 1) := by decide +kernel
theorem dX0_isHeard_9 : decode cX0_isHeard 9 = .ok (.ifCond .ne 5, 3) := by decide +kernel
theorem dX0_isHeard_12 : decode cX0_isHeard 12 = .ok (.iconst 0, 1) := by decide +kernel
theorem dX0_isHeard_13 : decode cX0_isHeard 13 = .ok (.ireturn, 1) := by decide +kernel
theorem dX0_isHeard_14 : decode cX0_isHeard 14 = .ok (.iconst 0, 1) := by decide +kernel
theorem dX0_isHeard_15 : decode cX0_isHeard 15 = .ok (.istore_n 3, 1) := by decide +kernel
theorem dX0_isHeard_16 : decode cX0_isHeard 16 = .ok (.iconst 0, 1) := by decide +kernel
theorem dX0_isHeard_17 : decode cX0_isHeard 17 = .ok (.istore 4, 2) := by decide +kernel
theorem dX0_isHeard_19 : decode cX0_isHeard 19 = .ok (.iload 4, 2) := by decide +kernel
theorem dX0_isHeard_21 : decode cX0_isHeard 21 = .ok (.aload_n 0, 1) := by decide +kernel
theorem dX0_isHeard_22 : decode cX0_isHeard 22 = .ok (.getfield 27, 3) := by decide +kernel
theorem dX0_isHeard_25 : decode cX0_isHeard 25 = .ok (.getfield 40, 3) := by decide +kernel
theorem dX0_isHeard_28 : decode cX0_isHeard 28 = .ok (.if_icmp .ge 41, 3) := by decide +kernel
theorem dX0_isHeard_31 : decode cX0_isHeard 31 = .ok (.aload_n 2, 1) := by decide +kernel
theorem dX0_isHeard_32 : decode cX0_isHeard 32 = .ok (.getfield 50, 3) := by decide +kernel
theorem dX0_isHeard_35 : decode cX0_isHeard 35 = .ok (.iload_n 1, 1) := by decide +kernel
theorem dX0_isHeard_36 : decode cX0_isHeard 36 = .ok (.iaload, 1) := by decide +kernel
theorem dX0_isHeard_37 : decode cX0_isHeard 37 = .ok (.aload_n 2, 1) := by decide +kernel
theorem dX0_isHeard_38 : decode cX0_isHeard 38 = .ok (.getfield 50, 3) := by decide +kernel
theorem dX0_isHeard_41 : decode cX0_isHeard 41 = .ok (.iload 4, 2) := by decide +kernel
theorem dX0_isHeard_43 : decode cX0_isHeard 43 = .ok (.iaload, 1) := by decide +kernel
theorem dX0_isHeard_44 : decode cX0_isHeard 44 = .ok (.isub, 1) := by decide +kernel
theorem dX0_isHeard_45 : decode cX0_isHeard 45 = .ok (.istore 5, 2) := by decide +kernel
theorem dX0_isHeard_47 : decode cX0_isHeard 47 = .ok (.iload 5, 2) := by decide +kernel
theorem dX0_isHeard_49 : decode cX0_isHeard 49 = .ok (.iconst 1, 1) := by decide +kernel
theorem dX0_isHeard_50 : decode cX0_isHeard 50 = .ok (.if_icmp .lt 13, 3) := by decide +kernel
theorem dX0_isHeard_53 : decode cX0_isHeard 53 = .ok (.iload 5, 2) := by decide +kernel
theorem dX0_isHeard_55 : decode cX0_isHeard 55 = .ok (.bipush 20, 2) := by decide +kernel
theorem dX0_isHeard_57 : decode cX0_isHeard 57 = .ok (.if_icmp .gt 6, 3) := by decide +kernel
theorem dX0_isHeard_60 : decode cX0_isHeard 60 = .ok (.iinc 3 1, 3) := by decide +kernel
theorem dX0_isHeard_63 : decode cX0_isHeard 63 = .ok (.iinc 4 1, 3) := by decide +kernel
theorem dX0_isHeard_66 : decode cX0_isHeard 66 = .ok (.goto (-47), 3) := by decide +kernel
theorem dX0_isHeard_69 : decode cX0_isHeard 69 = .ok (.iload_n 3, 1) := by decide +kernel
theorem dX0_isHeard_70 : decode cX0_isHeard 70 = .ok (.aload_n 2, 1) := by decide +kernel
theorem dX0_isHeard_71 : decode cX0_isHeard 71 = .ok (.getfield 121, 3) := by decide +kernel
theorem dX0_isHeard_74 : decode cX0_isHeard 74 = .ok (.if_icmp .ge 7, 3) := by decide +kernel
theorem dX0_isHeard_77 : decode cX0_isHeard 77 = .ok (.iconst 1, 1) := by decide +kernel
theorem dX0_isHeard_78 : decode cX0_isHeard 78 = .ok (.goto 4, 3) := by decide +kernel
theorem dX0_isHeard_81 : decode cX0_isHeard 81 = .ok (.iconst 0, 1) := by decide +kernel
theorem dX0_isHeard_82 : decode cX0_isHeard 82 = .ok (.ireturn, 1) := by decide +kernel
theorem dX0_goThrough_0 : decode cX0_goThrough 0 = .ok (.aload_n 0, 1) := by decide +kernel
theorem dX0_goThrough_1 : decode cX0_goThrough 1 = .ok (.getfield 19, 3) := by decide +kernel
theorem dX0_goThrough_4 : decode cX0_goThrough 4 = .ok (.iload_n 1, 1) := by decide +kernel
theorem dX0_goThrough_5 : decode cX0_goThrough 5 = .ok (.aaload, 1) := by decide +kernel
theorem dX0_goThrough_6 : decode cX0_goThrough 6 = .ok (.astore 4, 2) := by decide +kernel
theorem dX0_goThrough_8 : decode cX0_goThrough 8 = .ok (.aload_n 0, 1) := by decide +kernel
theorem dX0_goThrough_9 : decode cX0_goThrough 9 = .ok (.getfield 11, 3) := by decide +kernel
theorem dX0_goThrough_12 : decode cX0_goThrough 12 = .ok (.aload 4, 2) := by decide +kernel
theorem dX0_goThrough_14 : decode cX0_goThrough 14 = .ok (.getfield 74, 3) := by decide +kernel
theorem dX0_goThrough_17 : decode cX0_goThrough 17 = .ok (.aaload, 1) := by decide +kernel
theorem dX0_goThrough_18 : decode cX0_goThrough 18 = .ok (.astore 5, 2) := by decide +kernel
theorem dX0_goThrough_20 : decode cX0_goThrough 20 = .ok (.aload_n 0, 1) := by decide +kernel
theorem dX0_goThrough_21 : decode cX0_goThrough 21 = .ok (.getfield 27, 3) := by decide +kernel
theorem dX0_goThrough_24 : decode cX0_goThrough 24 = .ok (.getfield 55, 3) := by decide +kernel
theorem dX0_goThrough_27 : decode cX0_goThrough 27 = .ok (.iload_n 1, 1) := by decide +kernel
theorem dX0_goThrough_28 : decode cX0_goThrough 28 = .ok (.iaload, 1) := by decide +kernel
theorem dX0_goThrough_29 : decode cX0_goThrough 29 = .ok (.istore 6, 2) := by decide +kernel
theorem dX0_goThrough_31 : decode cX0_goThrough 31 = .ok (.aload 5, 2) := by decide +kernel
theorem dX0_goThrough_33 : decode cX0_goThrough 33 = .ok (.iload 6, 2) := by decide +kernel
theorem dX0_goThrough_35 : decode cX0_goThrough 35 = .ok (.iload_n 3, 1) := by decide +kernel
theorem dX0_goThrough_36 : decode cX0_goThrough 36 = .ok (.invokevirtual 80, 3) := by decide +kernel
theorem dX0_goThrough_39 : decode cX0_goThrough 39 = .ok (.ifCond .ne 12, 3) := by decide +kernel
theorem dX0_goThrough_42 : decode cX0_goThrough 42 = .ok (.aload 5, 2) := by decide +kernel
theorem dX0_goThrough_44 : decode cX0_goThrough 44 = .ok (.iload_n 3, 1) := by decide +kernel
theorem dX0_goThrough_45 : decode cX0_goThrough 45 = .ok (.invokevirtual 124, 3) := by decide +kernel
theorem dX0_goThrough_48 : decode cX0_goThrough 48 = .ok (.ifCond .eq 20, 3) := by decide +kernel
theorem dX0_goThrough_51 : decode cX0_goThrough 51 = .ok (.aload 4, 2) := by decide +kernel
theorem dX0_goThrough_53 : decode cX0_goThrough 53 = .ok (.aload 4, 2) := by decide +kernel
theorem dX0_goThrough_55 : decode cX0_goThrough 55 = .ok (.getfield 61, 3) := by decide +kernel
theorem dX0_goThrough_58 : decode cX0_goThrough 58 = .ok (.iconst 1, 1) := by decide +kernel
theorem dX0_goThrough_59 : decode cX0_goThrough 59 = .ok (.invokestatic 128, 3) := by decide +kernel
theorem dX0_goThrough_62 : decode cX0_goThrough 62 = .ok (.putfield 61, 3) := by decide +kernel
theorem dX0_goThrough_65 : decode cX0_goThrough 65 = .ok (.goto 90, 3) := by decide +kernel
theorem dX0_goThrough_68 : decode cX0_goThrough 68 = .ok (.aload 5, 2) := by decide +kernel
theorem dX0_goThrough_70 : decode cX0_goThrough 70 = .ok (.iload_n 3, 1) := by decide +kernel
theorem dX0_goThrough_71 : decode cX0_goThrough 71 = .ok (.invokevirtual 134, 3) := by decide +kernel
theorem dX0_goThrough_74 : decode cX0_goThrough 74 = .ok (.ifCond .eq 18, 3) := by decide +kernel
theorem dX0_goThrough_77 : decode cX0_goThrough 77 = .ok (.aload 4, 2) := by decide +kernel
theorem dX0_goThrough_79 : decode cX0_goThrough 79 = .ok (.iconst 5, 1) := by decide +kernel
theorem dX0_goThrough_80 : decode cX0_goThrough 80 = .ok (.putfield 61, 3) := by decide +kernel
theorem dX0_goThrough_83 : decode cX0_goThrough 83 = .ok (.aload 4, 2) := by decide +kernel
theorem dX0_goThrough_85 : decode cX0_goThrough 85 = .ok (.iconst 1, 1) := by decide +kernel
theorem dX0_goThrough_86 : decode cX0_goThrough 86 = .ok (.putfield 64, 3) := by decide +kernel
theorem dX0_goThrough_89 : decode cX0_goThrough 89 = .ok (.goto 27, 3) := by decide +kernel
theorem dX0_goThrough_92 : decode cX0_goThrough 92 = .ok (.aload 4, 2) := by decide +kernel
theorem dX0_goThrough_94 : decode cX0_goThrough 94 = .ok (.getfield 74, 3) := by decide +kernel
theorem dX0_goThrough_97 : decode cX0_goThrough 97 = .ok (.iload 6, 2) := by decide +kernel
theorem dX0_goThrough_99 : decode cX0_goThrough 99 = .ok (.if_icmp .eq 17, 3) := by decide +kernel
theorem dX0_goThrough_102 : decode cX0_goThrough 102 = .ok (.aload 4, 2) := by decide +kernel
theorem dX0_goThrough_104 : decode cX0_goThrough 104 = .ok (.aload 4, 2) := by decide +kernel
theorem dX0_goThrough_106 : decode cX0_goThrough 106 = .ok (.getfield 61, 3) := by decide +kernel
theorem dX0_goThrough_109 : decode cX0_goThrough 109 = .ok (.iconst 2, 1) := by decide +kernel
theorem dX0_goThrough_110 : decode cX0_goThrough 110 = .ok (.invokestatic 128, 3) := by decide +kernel
theorem dX0_goThrough_113 : decode cX0_goThrough 113 = .ok (.putfield 61, 3) := by decide +kernel
theorem dX0_goThrough_116 : decode cX0_goThrough 116 = .ok (.aload 5, 2) := by decide +kernel
theorem dX0_goThrough_118 : decode cX0_goThrough 118 = .ok (.iload_n 3, 1) := by decide +kernel
theorem dX0_goThrough_119 : decode cX0_goThrough 119 = .ok (.aload_n 2, 1) := by decide +kernel
theorem dX0_goThrough_120 : decode cX0_goThrough 120 = .ok (.getfield 137, 3) := by decide +kernel
theorem dX0_goThrough_123 : decode cX0_goThrough 123 = .ok (.iload_n 1, 1) := by decide +kernel
theorem dX0_goThrough_124 : decode cX0_goThrough 124 = .ok (.iaload, 1) := by decide +kernel
theorem dX0_goThrough_125 : decode cX0_goThrough 125 = .ok (.aload_n 0, 1) := by decide +kernel
theorem dX0_goThrough_126 : decode cX0_goThrough 126 = .ok (.getfield 27, 3) := by decide +kernel
theorem dX0_goThrough_129 : decode cX0_goThrough 129 = .ok (.getfield 140, 3) := by decide +kernel
theorem dX0_goThrough_132 : decode cX0_goThrough 132 = .ok (.aload 4, 2) := by decide +kernel
theorem dX0_goThrough_134 : decode cX0_goThrough 134 = .ok (.getfield 74, 3) := by decide +kernel
theorem dX0_goThrough_137 : decode cX0_goThrough 137 = .ok (.iaload, 1) := by decide +kernel
theorem dX0_goThrough_138 : decode cX0_goThrough 138 = .ok (.imul, 1) := by decide +kernel
theorem dX0_goThrough_139 : decode cX0_goThrough 139 = .ok (.aload_n 0, 1) := by decide +kernel
theorem dX0_goThrough_140 : decode cX0_goThrough 140 = .ok (.getfield 27, 3) := by decide +kernel
theorem dX0_goThrough_143 : decode cX0_goThrough 143 = .ok (.getfield 143, 3) := by decide +kernel
theorem dX0_goThrough_146 : decode cX0_goThrough 146 = .ok (.aload 4, 2) := by decide +kernel
theorem dX0_goThrough_148 : decode cX0_goThrough 148 = .ok (.getfield 74, 3) := by decide +kernel
theorem dX0_goThrough_151 : decode cX0_goThrough 151 = .ok (.iaload, 1) := by decide +kernel
theorem dX0_goThrough_152 : decode cX0_goThrough 152 = .ok (.invokevirtual 146, 3) := by decide +kernel
theorem dX0_goThrough_155 : decode cX0_goThrough 155 = .ok (.return_, 1) := by decide +kernel
theorem dX0_crashBoth_0 : decode cX0_crashBoth 0 = .ok (.aload_n 0, 1) := by decide +kernel
theorem dX0_crashBoth_1 : decode cX0_crashBoth 1 = .ok (.getfield 19, 3) := by decide +kernel
theorem dX0_crashBoth_4 : decode cX0_crashBoth 4 = .ok (.iload_n 1, 1) := by decide +kernel
theorem dX0_crashBoth_5 : decode cX0_crashBoth 5 = .ok (.aaload, 1) := by decide +kernel
theorem dX0_crashBoth_6 : decode cX0_crashBoth 6 = .ok (.invokevirtual 150, 3) := by decide +kernel
theorem dX0_crashBoth_9 : decode cX0_crashBoth 9 = .ok (.iload_n 2, 1) := by decide +kernel
theorem dX0_crashBoth_10 : decode cX0_crashBoth 10 = .ok (.ifCond .lt 12, 3) := by decide +kernel
theorem dX0_crashBoth_13 : decode cX0_crashBoth 13 = .ok (.aload_n 0, 1) := by decide +kernel
theorem dX0_crashBoth_14 : decode cX0_crashBoth 14 = .ok (.getfield 19, 3) := by decide +kernel
theorem dX0_crashBoth_17 : decode cX0_crashBoth 17 = .ok (.iload_n 2, 1) := by decide +kernel
theorem dX0_crashBoth_18 : decode cX0_crashBoth 18 = .ok (.aaload, 1) := by decide +kernel
theorem dX0_crashBoth_19 : decode cX0_crashBoth 19 = .ok (.invokevirtual 150, 3) := by decide +kernel
theorem dX0_crashBoth_22 : decode cX0_crashBoth 22 = .ok (.return_, 1) := by decide +kernel
theorem dX0_seconds_0 : decode cX0_seconds 0 = .ok (.iconst 0, 1) := by decide +kernel
theorem dX0_seconds_1 : decode cX0_seconds 1 = .ok (.istore_n 1, 1) := by decide +kernel
theorem dX0_seconds_2 : decode cX0_seconds 2 = .ok (.iconst 0, 1) := by decide +kernel
theorem dX0_seconds_3 : decode cX0_seconds 3 = .ok (.istore_n 2, 1) := by decide +kernel
theorem dX0_seconds_4 : decode cX0_seconds 4 = .ok (.iload_n 2, 1) := by decide +kernel
theorem dX0_seconds_5 : decode cX0_seconds 5 = .ok (.aload_n 0, 1) := by decide +kernel
theorem dX0_seconds_6 : decode cX0_seconds 6 = .ok (.getfield 27, 3) := by decide +kernel
theorem dX0_seconds_9 : decode cX0_seconds 9 = .ok (.getfield 40, 3) := by decide +kernel
theorem dX0_seconds_12 : decode cX0_seconds 12 = .ok (.if_icmp .ge 21, 3) := by decide +kernel
theorem dX0_seconds_15 : decode cX0_seconds 15 = .ok (.iload_n 1, 1) := by decide +kernel
theorem dX0_seconds_16 : decode cX0_seconds 16 = .ok (.aload_n 0, 1) := by decide +kernel
theorem dX0_seconds_17 : decode cX0_seconds 17 = .ok (.getfield 19, 3) := by decide +kernel
theorem dX0_seconds_20 : decode cX0_seconds 20 = .ok (.iload_n 2, 1) := by decide +kernel
theorem dX0_seconds_21 : decode cX0_seconds 21 = .ok (.aaload, 1) := by decide +kernel
theorem dX0_seconds_22 : decode cX0_seconds 22 = .ok (.getfield 105, 3) := by decide +kernel
theorem dX0_seconds_25 : decode cX0_seconds 25 = .ok (.iadd, 1) := by decide +kernel
theorem dX0_seconds_26 : decode cX0_seconds 26 = .ok (.istore_n 1, 1) := by decide +kernel
theorem dX0_seconds_27 : decode cX0_seconds 27 = .ok (.iinc 2 1, 3) := by decide +kernel
theorem dX0_seconds_30 : decode cX0_seconds 30 = .ok (.goto (-26), 3) := by decide +kernel
theorem dX0_seconds_33 : decode cX0_seconds 33 = .ok (.iload_n 1, 1) := by decide +kernel
theorem dX0_seconds_34 : decode cX0_seconds 34 = .ok (.ireturn, 1) := by decide +kernel
theorem dX0_losses_0 : decode cX0_losses 0 = .ok (.iconst 0, 1) := by decide +kernel
theorem dX0_losses_1 : decode cX0_losses 1 = .ok (.istore_n 1, 1) := by decide +kernel
theorem dX0_losses_2 : decode cX0_losses 2 = .ok (.iconst 0, 1) := by decide +kernel
theorem dX0_losses_3 : decode cX0_losses 3 = .ok (.istore_n 2, 1) := by decide +kernel
theorem dX0_losses_4 : decode cX0_losses 4 = .ok (.iload_n 2, 1) := by decide +kernel
theorem dX0_losses_5 : decode cX0_losses 5 = .ok (.aload_n 0, 1) := by decide +kernel
theorem dX0_losses_6 : decode cX0_losses 6 = .ok (.getfield 27, 3) := by decide +kernel
theorem dX0_losses_9 : decode cX0_losses 9 = .ok (.getfield 40, 3) := by decide +kernel
theorem dX0_losses_12 : decode cX0_losses 12 = .ok (.if_icmp .ge 31, 3) := by decide +kernel
theorem dX0_losses_15 : decode cX0_losses 15 = .ok (.iload_n 1, 1) := by decide +kernel
theorem dX0_losses_16 : decode cX0_losses 16 = .ok (.aload_n 0, 1) := by decide +kernel
theorem dX0_losses_17 : decode cX0_losses 17 = .ok (.getfield 19, 3) := by decide +kernel
theorem dX0_losses_20 : decode cX0_losses 20 = .ok (.iload_n 2, 1) := by decide +kernel
theorem dX0_losses_21 : decode cX0_losses 21 = .ok (.aaload, 1) := by decide +kernel
theorem dX0_losses_22 : decode cX0_losses 22 = .ok (.getfield 64, 3) := by decide +kernel
theorem dX0_losses_25 : decode cX0_losses 25 = .ok (.aload_n 0, 1) := by decide +kernel
theorem dX0_losses_26 : decode cX0_losses 26 = .ok (.getfield 27, 3) := by decide +kernel
theorem dX0_losses_29 : decode cX0_losses 29 = .ok (.getfield 153, 3) := by decide +kernel
theorem dX0_losses_32 : decode cX0_losses 32 = .ok (.iload_n 2, 1) := by decide +kernel
theorem dX0_losses_33 : decode cX0_losses 33 = .ok (.iaload, 1) := by decide +kernel
theorem dX0_losses_34 : decode cX0_losses 34 = .ok (.imul, 1) := by decide +kernel
theorem dX0_losses_35 : decode cX0_losses 35 = .ok (.iadd, 1) := by decide +kernel
theorem dX0_losses_36 : decode cX0_losses 36 = .ok (.istore_n 1, 1) := by decide +kernel
theorem dX0_losses_37 : decode cX0_losses 37 = .ok (.iinc 2 1, 3) := by decide +kernel
theorem dX0_losses_40 : decode cX0_losses 40 = .ok (.goto (-36), 3) := by decide +kernel
theorem dX0_losses_43 : decode cX0_losses 43 = .ok (.iload_n 1, 1) := by decide +kernel
theorem dX0_losses_44 : decode cX0_losses 44 = .ok (.ireturn, 1) := by decide +kernel
theorem dX0_cost_0 : decode cX0_cost 0 = .ok (.aload_n 0, 1) := by decide +kernel
theorem dX0_cost_1 : decode cX0_cost 1 = .ok (.invokevirtual 156, 3) := by decide +kernel
theorem dX0_cost_4 : decode cX0_cost 4 = .ok (.bipush 10, 2) := by decide +kernel
theorem dX0_cost_6 : decode cX0_cost 6 = .ok (.imul, 1) := by decide +kernel
theorem dX0_cost_7 : decode cX0_cost 7 = .ok (.aload_n 0, 1) := by decide +kernel
theorem dX0_cost_8 : decode cX0_cost 8 = .ok (.invokevirtual 160, 3) := by decide +kernel
theorem dX0_cost_11 : decode cX0_cost 11 = .ok (.iadd, 1) := by decide +kernel
theorem dX0_cost_12 : decode cX0_cost 12 = .ok (.ireturn, 1) := by decide +kernel
theorem dX0_howMany_0 : decode cX0_howMany 0 = .ok (.iconst 0, 1) := by decide +kernel
theorem dX0_howMany_1 : decode cX0_howMany 1 = .ok (.istore_n 2, 1) := by decide +kernel
theorem dX0_howMany_2 : decode cX0_howMany 2 = .ok (.iconst 0, 1) := by decide +kernel
theorem dX0_howMany_3 : decode cX0_howMany 3 = .ok (.istore_n 3, 1) := by decide +kernel
theorem dX0_howMany_4 : decode cX0_howMany 4 = .ok (.iload_n 3, 1) := by decide +kernel
theorem dX0_howMany_5 : decode cX0_howMany 5 = .ok (.aload_n 0, 1) := by decide +kernel
theorem dX0_howMany_6 : decode cX0_howMany 6 = .ok (.getfield 27, 3) := by decide +kernel
theorem dX0_howMany_9 : decode cX0_howMany 9 = .ok (.getfield 40, 3) := by decide +kernel
theorem dX0_howMany_12 : decode cX0_howMany 12 = .ok (.if_icmp .ge 25, 3) := by decide +kernel
theorem dX0_howMany_15 : decode cX0_howMany 15 = .ok (.aload_n 0, 1) := by decide +kernel
theorem dX0_howMany_16 : decode cX0_howMany 16 = .ok (.getfield 19, 3) := by decide +kernel
theorem dX0_howMany_19 : decode cX0_howMany 19 = .ok (.iload_n 3, 1) := by decide +kernel
theorem dX0_howMany_20 : decode cX0_howMany 20 = .ok (.aaload, 1) := by decide +kernel
theorem dX0_howMany_21 : decode cX0_howMany 21 = .ok (.getfield 61, 3) := by decide +kernel
theorem dX0_howMany_24 : decode cX0_howMany 24 = .ok (.iload_n 1, 1) := by decide +kernel
theorem dX0_howMany_25 : decode cX0_howMany 25 = .ok (.if_icmp .ne 6, 3) := by decide +kernel
theorem dX0_howMany_28 : decode cX0_howMany 28 = .ok (.iinc 2 1, 3) := by decide +kernel
theorem dX0_howMany_31 : decode cX0_howMany 31 = .ok (.iinc 3 1, 3) := by decide +kernel
theorem dX0_howMany_34 : decode cX0_howMany 34 = .ok (.goto (-30), 3) := by decide +kernel
theorem dX0_howMany_37 : decode cX0_howMany 37 = .ok (.iload_n 2, 1) := by decide +kernel
theorem dX0_howMany_38 : decode cX0_howMany 38 = .ok (.ireturn, 1) := by decide +kernel
theorem dX0_end_0 : decode cX0_end 0 = .ok (.iconst 0, 1) := by decide +kernel
theorem dX0_end_1 : decode cX0_end 1 = .ok (.istore_n 1, 1) := by decide +kernel
theorem dX0_end_2 : decode cX0_end 2 = .ok (.iconst 0, 1) := by decide +kernel
theorem dX0_end_3 : decode cX0_end 3 = .ok (.istore_n 2, 1) := by decide +kernel
theorem dX0_end_4 : decode cX0_end 4 = .ok (.iload_n 2, 1) := by decide +kernel
theorem dX0_end_5 : decode cX0_end 5 = .ok (.aload_n 0, 1) := by decide +kernel
theorem dX0_end_6 : decode cX0_end 6 = .ok (.getfield 27, 3) := by decide +kernel
theorem dX0_end_9 : decode cX0_end 9 = .ok (.getfield 40, 3) := by decide +kernel
theorem dX0_end_12 : decode cX0_end 12 = .ok (.if_icmp .ge 23, 3) := by decide +kernel
theorem dX0_end_15 : decode cX0_end 15 = .ok (.iload_n 1, 1) := by decide +kernel
theorem dX0_end_16 : decode cX0_end 16 = .ok (.aload_n 0, 1) := by decide +kernel
theorem dX0_end_17 : decode cX0_end 17 = .ok (.getfield 19, 3) := by decide +kernel
theorem dX0_end_20 : decode cX0_end 20 = .ok (.iload_n 2, 1) := by decide +kernel
theorem dX0_end_21 : decode cX0_end 21 = .ok (.aaload, 1) := by decide +kernel
theorem dX0_end_22 : decode cX0_end 22 = .ok (.getfield 111, 3) := by decide +kernel
theorem dX0_end_25 : decode cX0_end 25 = .ok (.invokestatic 128, 3) := by decide +kernel
theorem dX0_end_28 : decode cX0_end 28 = .ok (.istore_n 1, 1) := by decide +kernel
theorem dX0_end_29 : decode cX0_end 29 = .ok (.iinc 2 1, 3) := by decide +kernel
theorem dX0_end_32 : decode cX0_end 32 = .ok (.goto (-28), 3) := by decide +kernel
theorem dX0_end_35 : decode cX0_end 35 = .ok (.iload_n 1, 1) := by decide +kernel
theorem dX0_end_36 : decode cX0_end 36 = .ok (.ireturn, 1) := by decide +kernel
theorem dX1_init_0 : decode cX1_init 0 = .ok (.aload_n 0, 1) := by decide +kernel
theorem dX1_init_1 : decode cX1_init 1 = .ok (.invokespecial 3, 3) := by decide +kernel
theorem dX1_init_4 : decode cX1_init 4 = .ok (.aload_n 0, 1) := by decide +kernel
theorem dX1_init_5 : decode cX1_init 5 = .ok (.iconst 2, 1) := by decide +kernel
theorem dX1_init_6 : decode cX1_init 6 = .ok (.newarray .int, 2) := by decide +kernel
theorem dX1_init_8 : decode cX1_init 8 = .ok (.putfield 9, 3) := by decide +kernel
theorem dX1_init_11 : decode cX1_init 11 = .ok (.aload_n 0, 1) := by decide +kernel
theorem dX1_init_12 : decode cX1_init 12 = .ok (.iconst 2, 1) := by decide +kernel
theorem dX1_init_13 : decode cX1_init 13 = .ok (.newarray .int, 2) := by decide +kernel
theorem dX1_init_15 : decode cX1_init 15 = .ok (.putfield 15, 3) := by decide +kernel
theorem dX1_init_18 : decode cX1_init 18 = .ok (.aload_n 0, 1) := by decide +kernel
theorem dX1_init_19 : decode cX1_init 19 = .ok (.bipush 6, 2) := by decide +kernel
theorem dX1_init_21 : decode cX1_init 21 = .ok (.newarray .int, 2) := by decide +kernel
theorem dX1_init_23 : decode cX1_init 23 = .ok (.putfield 18, 3) := by decide +kernel
theorem dX1_init_26 : decode cX1_init 26 = .ok (.aload_n 0, 1) := by decide +kernel
theorem dX1_init_27 : decode cX1_init 27 = .ok (.bipush 6, 2) := by decide +kernel
theorem dX1_init_29 : decode cX1_init 29 = .ok (.newarray .int, 2) := by decide +kernel
theorem dX1_init_31 : decode cX1_init 31 = .ok (.putfield 21, 3) := by decide +kernel
theorem dX1_init_34 : decode cX1_init 34 = .ok (.aload_n 0, 1) := by decide +kernel
theorem dX1_init_35 : decode cX1_init 35 = .ok (.bipush 6, 2) := by decide +kernel
theorem dX1_init_37 : decode cX1_init 37 = .ok (.newarray .int, 2) := by decide +kernel
theorem dX1_init_39 : decode cX1_init 39 = .ok (.putfield 24, 3) := by decide +kernel
theorem dX1_init_42 : decode cX1_init 42 = .ok (.aload_n 0, 1) := by decide +kernel
theorem dX1_init_43 : decode cX1_init 43 = .ok (.bipush 6, 2) := by decide +kernel
theorem dX1_init_45 : decode cX1_init 45 = .ok (.newarray .int, 2) := by decide +kernel
theorem dX1_init_47 : decode cX1_init 47 = .ok (.putfield 27, 3) := by decide +kernel
theorem dX1_init_50 : decode cX1_init 50 = .ok (.aload_n 0, 1) := by decide +kernel
theorem dX1_init_51 : decode cX1_init 51 = .ok (.iconst 0, 1) := by decide +kernel
theorem dX1_init_52 : decode cX1_init 52 = .ok (.putfield 30, 3) := by decide +kernel
theorem dX1_init_55 : decode cX1_init 55 = .ok (.aload_n 0, 1) := by decide +kernel
theorem dX1_init_56 : decode cX1_init 56 = .ok (.invokevirtual 34, 3) := by decide +kernel
theorem dX1_init_59 : decode cX1_init 59 = .ok (.return_, 1) := by decide +kernel
theorem dX1_makeUntold_0 : decode cX1_makeUntold 0 = .ok (.aload_n 0, 1) := by decide +kernel
theorem dX1_makeUntold_1 : decode cX1_makeUntold 1 = .ok (.getfield 9, 3) := by decide +kernel
theorem dX1_makeUntold_4 : decode cX1_makeUntold 4 = .ok (.iconst 2, 1) := by decide +kernel
theorem dX1_makeUntold_5 : decode cX1_makeUntold 5 = .ok (.invokestatic 37, 3) := by decide +kernel
theorem dX1_makeUntold_8 : decode cX1_makeUntold 8 = .ok (.aload_n 0, 1) := by decide +kernel
theorem dX1_makeUntold_9 : decode cX1_makeUntold 9 = .ok (.getfield 15, 3) := by decide +kernel
theorem dX1_makeUntold_12 : decode cX1_makeUntold 12 = .ok (.iconst 3, 1) := by decide +kernel
theorem dX1_makeUntold_13 : decode cX1_makeUntold 13 = .ok (.invokestatic 37, 3) := by decide +kernel
theorem dX1_makeUntold_16 : decode cX1_makeUntold 16 = .ok (.aload_n 0, 1) := by decide +kernel
theorem dX1_makeUntold_17 : decode cX1_makeUntold 17 = .ok (.iconst 0, 1) := by decide +kernel
theorem dX1_makeUntold_18 : decode cX1_makeUntold 18 = .ok (.putfield 30, 3) := by decide +kernel
theorem dX1_makeUntold_21 : decode cX1_makeUntold 21 = .ok (.return_, 1) := by decide +kernel
theorem dX1_copyFrom_0 : decode cX1_copyFrom 0 = .ok (.aload_n 1, 1) := by decide +kernel
theorem dX1_copyFrom_1 : decode cX1_copyFrom 1 = .ok (.getfield 9, 3) := by decide +kernel
theorem dX1_copyFrom_4 : decode cX1_copyFrom 4 = .ok (.iconst 0, 1) := by decide +kernel
theorem dX1_copyFrom_5 : decode cX1_copyFrom 5 = .ok (.aload_n 0, 1) := by decide +kernel
theorem dX1_copyFrom_6 : decode cX1_copyFrom 6 = .ok (.getfield 9, 3) := by decide +kernel
theorem dX1_copyFrom_9 : decode cX1_copyFrom 9 = .ok (.iconst 0, 1) := by decide +kernel
theorem dX1_copyFrom_10 : decode cX1_copyFrom 10 = .ok (.iconst 2, 1) := by decide +kernel
theorem dX1_copyFrom_11 : decode cX1_copyFrom 11 = .ok (.invokestatic 43, 3) := by decide +kernel
theorem dX1_copyFrom_14 : decode cX1_copyFrom 14 = .ok (.aload_n 1, 1) := by decide +kernel
theorem dX1_copyFrom_15 : decode cX1_copyFrom 15 = .ok (.getfield 15, 3) := by decide +kernel
theorem dX1_copyFrom_18 : decode cX1_copyFrom 18 = .ok (.iconst 0, 1) := by decide +kernel
theorem dX1_copyFrom_19 : decode cX1_copyFrom 19 = .ok (.aload_n 0, 1) := by decide +kernel
theorem dX1_copyFrom_20 : decode cX1_copyFrom 20 = .ok (.getfield 15, 3) := by decide +kernel
theorem dX1_copyFrom_23 : decode cX1_copyFrom 23 = .ok (.iconst 0, 1) := by decide +kernel
theorem dX1_copyFrom_24 : decode cX1_copyFrom 24 = .ok (.iconst 2, 1) := by decide +kernel
theorem dX1_copyFrom_25 : decode cX1_copyFrom 25 = .ok (.invokestatic 43, 3) := by decide +kernel
theorem dX1_copyFrom_28 : decode cX1_copyFrom 28 = .ok (.aload_n 1, 1) := by decide +kernel
theorem dX1_copyFrom_29 : decode cX1_copyFrom 29 = .ok (.getfield 18, 3) := by decide +kernel
theorem dX1_copyFrom_32 : decode cX1_copyFrom 32 = .ok (.iconst 0, 1) := by decide +kernel
theorem dX1_copyFrom_33 : decode cX1_copyFrom 33 = .ok (.aload_n 0, 1) := by decide +kernel
theorem dX1_copyFrom_34 : decode cX1_copyFrom 34 = .ok (.getfield 18, 3) := by decide +kernel
theorem dX1_copyFrom_37 : decode cX1_copyFrom 37 = .ok (.iconst 0, 1) := by decide +kernel
theorem dX1_copyFrom_38 : decode cX1_copyFrom 38 = .ok (.bipush 6, 2) := by decide +kernel
theorem dX1_copyFrom_40 : decode cX1_copyFrom 40 = .ok (.invokestatic 43, 3) := by decide +kernel
theorem dX1_copyFrom_43 : decode cX1_copyFrom 43 = .ok (.aload_n 1, 1) := by decide +kernel
theorem dX1_copyFrom_44 : decode cX1_copyFrom 44 = .ok (.getfield 21, 3) := by decide +kernel
theorem dX1_copyFrom_47 : decode cX1_copyFrom 47 = .ok (.iconst 0, 1) := by decide +kernel
theorem dX1_copyFrom_48 : decode cX1_copyFrom 48 = .ok (.aload_n 0, 1) := by decide +kernel
theorem dX1_copyFrom_49 : decode cX1_copyFrom 49 = .ok (.getfield 21, 3) := by decide +kernel
theorem dX1_copyFrom_52 : decode cX1_copyFrom 52 = .ok (.iconst 0, 1) := by decide +kernel
theorem dX1_copyFrom_53 : decode cX1_copyFrom 53 = .ok (.bipush 6, 2) := by decide +kernel
theorem dX1_copyFrom_55 : decode cX1_copyFrom 55 = .ok (.invokestatic 43, 3) := by decide +kernel
theorem dX1_copyFrom_58 : decode cX1_copyFrom 58 = .ok (.aload_n 1, 1) := by decide +kernel
theorem dX1_copyFrom_59 : decode cX1_copyFrom 59 = .ok (.getfield 24, 3) := by decide +kernel
theorem dX1_copyFrom_62 : decode cX1_copyFrom 62 = .ok (.iconst 0, 1) := by decide +kernel
theorem dX1_copyFrom_63 : decode cX1_copyFrom 63 = .ok (.aload_n 0, 1) := by decide +kernel
theorem dX1_copyFrom_64 : decode cX1_copyFrom 64 = .ok (.getfield 24, 3) := by decide +kernel
theorem dX1_copyFrom_67 : decode cX1_copyFrom 67 = .ok (.iconst 0, 1) := by decide +kernel
theorem dX1_copyFrom_68 : decode cX1_copyFrom 68 = .ok (.bipush 6, 2) := by decide +kernel
theorem dX1_copyFrom_70 : decode cX1_copyFrom 70 = .ok (.invokestatic 43, 3) := by decide +kernel
theorem dX1_copyFrom_73 : decode cX1_copyFrom 73 = .ok (.aload_n 1, 1) := by decide +kernel
theorem dX1_copyFrom_74 : decode cX1_copyFrom 74 = .ok (.getfield 27, 3) := by decide +kernel
theorem dX1_copyFrom_77 : decode cX1_copyFrom 77 = .ok (.iconst 0, 1) := by decide +kernel
theorem dX1_copyFrom_78 : decode cX1_copyFrom 78 = .ok (.aload_n 0, 1) := by decide +kernel
theorem dX1_copyFrom_79 : decode cX1_copyFrom 79 = .ok (.getfield 27, 3) := by decide +kernel
theorem dX1_copyFrom_82 : decode cX1_copyFrom 82 = .ok (.iconst 0, 1) := by decide +kernel
theorem dX1_copyFrom_83 : decode cX1_copyFrom 83 = .ok (.bipush 6, 2) := by decide +kernel
theorem dX1_copyFrom_85 : decode cX1_copyFrom 85 = .ok (.invokestatic 43, 3) := by decide +kernel
theorem dX1_copyFrom_88 : decode cX1_copyFrom 88 = .ok (.aload_n 0, 1) := by decide +kernel
theorem dX1_copyFrom_89 : decode cX1_copyFrom 89 = .ok (.aload_n 1, 1) := by decide +kernel
theorem dX1_copyFrom_90 : decode cX1_copyFrom 90 = .ok (.getfield 30, 3) := by decide +kernel
theorem dX1_copyFrom_93 : decode cX1_copyFrom 93 = .ok (.putfield 30, 3) := by decide +kernel
theorem dX1_copyFrom_96 : decode cX1_copyFrom 96 = .ok (.return_, 1) := by decide +kernel
theorem dX2_init_0 : decode cX2_init 0 = .ok (.aload_n 0, 1) := by decide +kernel
theorem dX2_init_1 : decode cX2_init 1 = .ok (.invokespecial 1, 3) := by decide +kernel
theorem dX2_init_4 : decode cX2_init 4 = .ok (.aload_n 0, 1) := by decide +kernel
theorem dX2_init_5 : decode cX2_init 5 = .ok (.new 7, 3) := by decide +kernel
theorem dX2_init_8 : decode cX2_init 8 = .ok (.dup, 1) := by decide +kernel
theorem dX2_init_9 : decode cX2_init 9 = .ok (.invokespecial 9, 3) := by decide +kernel
theorem dX2_init_12 : decode cX2_init 12 = .ok (.putfield 10, 3) := by decide +kernel
theorem dX2_init_15 : decode cX2_init 15 = .ok (.aload_n 0, 1) := by decide +kernel
theorem dX2_init_16 : decode cX2_init 16 = .ok (.lconst 0, 1) := by decide +kernel
theorem dX2_init_17 : decode cX2_init 17 = .ok (.putfield 16, 3) := by decide +kernel
theorem dX2_init_20 : decode cX2_init 20 = .ok (.aload_n 0, 1) := by decide +kernel
theorem dX2_init_21 : decode cX2_init 21 = .ok (.iconst 0, 1) := by decide +kernel
theorem dX2_init_22 : decode cX2_init 22 = .ok (.putfield 20, 3) := by decide +kernel
theorem dX2_init_25 : decode cX2_init 25 = .ok (.return_, 1) := by decide +kernel
theorem dX3_init_0 : decode cX3_init 0 = .ok (.aload_n 0, 1) := by decide +kernel
theorem dX3_init_1 : decode cX3_init 1 = .ok (.invokespecial 3, 3) := by decide +kernel
theorem dX3_init_4 : decode cX3_init 4 = .ok (.aload_n 0, 1) := by decide +kernel
theorem dX3_init_5 : decode cX3_init 5 = .ok (.iconst 0, 1) := by decide +kernel
theorem dX3_init_6 : decode cX3_init 6 = .ok (.putfield 9, 3) := by decide +kernel
theorem dX3_init_9 : decode cX3_init 9 = .ok (.aload_n 0, 1) := by decide +kernel
theorem dX3_init_10 : decode cX3_init 10 = .ok (.iconst 0, 1) := by decide +kernel
theorem dX3_init_11 : decode cX3_init 11 = .ok (.putfield 15, 3) := by decide +kernel
theorem dX3_init_14 : decode cX3_init 14 = .ok (.aload_n 0, 1) := by decide +kernel
theorem dX3_init_15 : decode cX3_init 15 = .ok (.iconst 0, 1) := by decide +kernel
theorem dX3_init_16 : decode cX3_init 16 = .ok (.putfield 18, 3) := by decide +kernel
theorem dX3_init_19 : decode cX3_init 19 = .ok (.aload_n 0, 1) := by decide +kernel
theorem dX3_init_20 : decode cX3_init 20 = .ok (.iconst 0, 1) := by decide +kernel
theorem dX3_init_21 : decode cX3_init 21 = .ok (.putfield 21, 3) := by decide +kernel
theorem dX3_init_24 : decode cX3_init 24 = .ok (.aload_n 0, 1) := by decide +kernel
theorem dX3_init_25 : decode cX3_init 25 = .ok (.iconst 0, 1) := by decide +kernel
theorem dX3_init_26 : decode cX3_init 26 = .ok (.putfield 24, 3) := by decide +kernel
theorem dX3_init_29 : decode cX3_init 29 = .ok (.aload_n 0, 1) := by decide +kernel
theorem dX3_init_30 : decode cX3_init 30 = .ok (.iconst 0, 1) := by decide +kernel
theorem dX3_init_31 : decode cX3_init 31 = .ok (.putfield 27, 3) := by decide +kernel
theorem dX3_init_34 : decode cX3_init 34 = .ok (.return_, 1) := by decide +kernel
theorem dX3_crash_0 : decode cX3_crash 0 = .ok (.aload_n 0, 1) := by decide +kernel
theorem dX3_crash_1 : decode cX3_crash 1 = .ok (.bipush 6, 2) := by decide +kernel
theorem dX3_crash_3 : decode cX3_crash 3 = .ok (.putfield 9, 3) := by decide +kernel
theorem dX3_crash_6 : decode cX3_crash 6 = .ok (.aload_n 0, 1) := by decide +kernel
theorem dX3_crash_7 : decode cX3_crash 7 = .ok (.iconst 1, 1) := by decide +kernel
theorem dX3_crash_8 : decode cX3_crash 8 = .ok (.putfield 27, 3) := by decide +kernel
theorem dX3_crash_11 : decode cX3_crash 11 = .ok (.return_, 1) := by decide +kernel
theorem dX4_init_0 : decode cX4_init 0 = .ok (.aload_n 0, 1) := by decide +kernel
theorem dX4_init_1 : decode cX4_init 1 = .ok (.invokespecial 3, 3) := by decide +kernel
theorem dX4_init_4 : decode cX4_init 4 = .ok (.aload_n 0, 1) := by decide +kernel
theorem dX4_init_5 : decode cX4_init 5 = .ok (.bipush 6, 2) := by decide +kernel
theorem dX4_init_7 : decode cX4_init 7 = .ok (.newarray .int, 2) := by decide +kernel
theorem dX4_init_9 : decode cX4_init 9 = .ok (.putfield 9, 3) := by decide +kernel
theorem dX4_init_12 : decode cX4_init 12 = .ok (.aload_n 0, 1) := by decide +kernel
theorem dX4_init_13 : decode cX4_init 13 = .ok (.bipush 6, 2) := by decide +kernel
theorem dX4_init_15 : decode cX4_init 15 = .ok (.newarray .int, 2) := by decide +kernel
theorem dX4_init_17 : decode cX4_init 17 = .ok (.putfield 15, 3) := by decide +kernel
theorem dX4_init_20 : decode cX4_init 20 = .ok (.aload_n 0, 1) := by decide +kernel
theorem dX4_init_21 : decode cX4_init 21 = .ok (.bipush 6, 2) := by decide +kernel
theorem dX4_init_23 : decode cX4_init 23 = .ok (.newarray .int, 2) := by decide +kernel
theorem dX4_init_25 : decode cX4_init 25 = .ok (.putfield 18, 3) := by decide +kernel
theorem dX4_init_28 : decode cX4_init 28 = .ok (.aload_n 0, 1) := by decide +kernel
theorem dX4_init_29 : decode cX4_init 29 = .ok (.iconst 0, 1) := by decide +kernel
theorem dX4_init_30 : decode cX4_init 30 = .ok (.putfield 21, 3) := by decide +kernel
theorem dX4_init_33 : decode cX4_init 33 = .ok (.aload_n 0, 1) := by decide +kernel
theorem dX4_init_34 : decode cX4_init 34 = .ok (.bipush 9, 2) := by decide +kernel
theorem dX4_init_36 : decode cX4_init 36 = .ok (.putfield 25, 3) := by decide +kernel
theorem dX4_init_39 : decode cX4_init 39 = .ok (.return_, 1) := by decide +kernel
theorem dX4_makeUntold_0 : decode cX4_makeUntold 0 = .ok (.aload_n 0, 1) := by decide +kernel
theorem dX4_makeUntold_1 : decode cX4_makeUntold 1 = .ok (.iconst 0, 1) := by decide +kernel
theorem dX4_makeUntold_2 : decode cX4_makeUntold 2 = .ok (.putfield 21, 3) := by decide +kernel
theorem dX4_makeUntold_5 : decode cX4_makeUntold 5 = .ok (.aload_n 0, 1) := by decide +kernel
theorem dX4_makeUntold_6 : decode cX4_makeUntold 6 = .ok (.bipush 9, 2) := by decide +kernel
theorem dX4_makeUntold_8 : decode cX4_makeUntold 8 = .ok (.putfield 25, 3) := by decide +kernel
theorem dX4_makeUntold_11 : decode cX4_makeUntold 11 = .ok (.return_, 1) := by decide +kernel
theorem dX4_copyFrom_0 : decode cX4_copyFrom 0 = .ok (.aload_n 1, 1) := by decide +kernel
theorem dX4_copyFrom_1 : decode cX4_copyFrom 1 = .ok (.getfield 9, 3) := by decide +kernel
theorem dX4_copyFrom_4 : decode cX4_copyFrom 4 = .ok (.iconst 0, 1) := by decide +kernel
theorem dX4_copyFrom_5 : decode cX4_copyFrom 5 = .ok (.aload_n 0, 1) := by decide +kernel
theorem dX4_copyFrom_6 : decode cX4_copyFrom 6 = .ok (.getfield 9, 3) := by decide +kernel
theorem dX4_copyFrom_9 : decode cX4_copyFrom 9 = .ok (.iconst 0, 1) := by decide +kernel
theorem dX4_copyFrom_10 : decode cX4_copyFrom 10 = .ok (.bipush 6, 2) := by decide +kernel
theorem dX4_copyFrom_12 : decode cX4_copyFrom 12 = .ok (.invokestatic 28, 3) := by decide +kernel
theorem dX4_copyFrom_15 : decode cX4_copyFrom 15 = .ok (.aload_n 1, 1) := by decide +kernel
theorem dX4_copyFrom_16 : decode cX4_copyFrom 16 = .ok (.getfield 15, 3) := by decide +kernel
theorem dX4_copyFrom_19 : decode cX4_copyFrom 19 = .ok (.iconst 0, 1) := by decide +kernel
theorem dX4_copyFrom_20 : decode cX4_copyFrom 20 = .ok (.aload_n 0, 1) := by decide +kernel
theorem dX4_copyFrom_21 : decode cX4_copyFrom 21 = .ok (.getfield 15, 3) := by decide +kernel
theorem dX4_copyFrom_24 : decode cX4_copyFrom 24 = .ok (.iconst 0, 1) := by decide +kernel
theorem dX4_copyFrom_25 : decode cX4_copyFrom 25 = .ok (.bipush 6, 2) := by decide +kernel
theorem dX4_copyFrom_27 : decode cX4_copyFrom 27 = .ok (.invokestatic 28, 3) := by decide +kernel
theorem dX4_copyFrom_30 : decode cX4_copyFrom 30 = .ok (.aload_n 1, 1) := by decide +kernel
theorem dX4_copyFrom_31 : decode cX4_copyFrom 31 = .ok (.getfield 18, 3) := by decide +kernel
theorem dX4_copyFrom_34 : decode cX4_copyFrom 34 = .ok (.iconst 0, 1) := by decide +kernel
theorem dX4_copyFrom_35 : decode cX4_copyFrom 35 = .ok (.aload_n 0, 1) := by decide +kernel
theorem dX4_copyFrom_36 : decode cX4_copyFrom 36 = .ok (.getfield 18, 3) := by decide +kernel
theorem dX4_copyFrom_39 : decode cX4_copyFrom 39 = .ok (.iconst 0, 1) := by decide +kernel
theorem dX4_copyFrom_40 : decode cX4_copyFrom 40 = .ok (.bipush 6, 2) := by decide +kernel
theorem dX4_copyFrom_42 : decode cX4_copyFrom 42 = .ok (.invokestatic 28, 3) := by decide +kernel
theorem dX4_copyFrom_45 : decode cX4_copyFrom 45 = .ok (.aload_n 0, 1) := by decide +kernel
theorem dX4_copyFrom_46 : decode cX4_copyFrom 46 = .ok (.aload_n 1, 1) := by decide +kernel
theorem dX4_copyFrom_47 : decode cX4_copyFrom 47 = .ok (.getfield 21, 3) := by decide +kernel
theorem dX4_copyFrom_50 : decode cX4_copyFrom 50 = .ok (.putfield 21, 3) := by decide +kernel
theorem dX4_copyFrom_53 : decode cX4_copyFrom 53 = .ok (.aload_n 0, 1) := by decide +kernel
theorem dX4_copyFrom_54 : decode cX4_copyFrom 54 = .ok (.aload_n 1, 1) := by decide +kernel
theorem dX4_copyFrom_55 : decode cX4_copyFrom 55 = .ok (.getfield 25, 3) := by decide +kernel
theorem dX4_copyFrom_58 : decode cX4_copyFrom 58 = .ok (.putfield 25, 3) := by decide +kernel
theorem dX4_copyFrom_61 : decode cX4_copyFrom 61 = .ok (.return_, 1) := by decide +kernel
theorem dX5_init_0 : decode cX5_init 0 = .ok (.aload_n 0, 1) := by decide +kernel
theorem dX5_init_1 : decode cX5_init 1 = .ok (.invokespecial 3, 3) := by decide +kernel
theorem dX5_init_4 : decode cX5_init 4 = .ok (.aload_n 0, 1) := by decide +kernel
theorem dX5_init_5 : decode cX5_init 5 = .ok (.new 9, 3) := by decide +kernel
theorem dX5_init_8 : decode cX5_init 8 = .ok (.dup, 1) := by decide +kernel
theorem dX5_init_9 : decode cX5_init 9 = .ok (.invokespecial 11, 3) := by decide +kernel
theorem dX5_init_12 : decode cX5_init 12 = .ok (.putfield 12, 3) := by decide +kernel
theorem dX5_init_15 : decode cX5_init 15 = .ok (.aload_n 0, 1) := by decide +kernel
theorem dX5_init_16 : decode cX5_init 16 = .ok (.new 18, 3) := by decide +kernel
theorem dX5_init_19 : decode cX5_init 19 = .ok (.dup, 1) := by decide +kernel
theorem dX5_init_20 : decode cX5_init 20 = .ok (.invokespecial 20, 3) := by decide +kernel
theorem dX5_init_23 : decode cX5_init 23 = .ok (.putfield 21, 3) := by decide +kernel
theorem dX5_init_26 : decode cX5_init 26 = .ok (.aload_n 0, 1) := by decide +kernel
theorem dX5_init_27 : decode cX5_init 27 = .ok (.sipush 250, 3) := by decide +kernel
theorem dX5_init_30 : decode cX5_init 30 = .ok (.newarray .int, 2) := by decide +kernel
theorem dX5_init_32 : decode cX5_init 32 = .ok (.putfield 25, 3) := by decide +kernel
theorem dX5_init_35 : decode cX5_init 35 = .ok (.aload_n 0, 1) := by decide +kernel
theorem dX5_init_36 : decode cX5_init 36 = .ok (.iconst 2, 1) := by decide +kernel
theorem dX5_init_37 : decode cX5_init 37 = .ok (.newarray .int, 2) := by decide +kernel
theorem dX5_init_39 : decode cX5_init 39 = .ok (.putfield 29, 3) := by decide +kernel
theorem dX5_init_42 : decode cX5_init 42 = .ok (.aload_n 0, 1) := by decide +kernel
theorem dX5_init_43 : decode cX5_init 43 = .ok (.iconst 0, 1) := by decide +kernel
theorem dX5_init_44 : decode cX5_init 44 = .ok (.putfield 32, 3) := by decide +kernel
theorem dX5_init_47 : decode cX5_init 47 = .ok (.aload_n 0, 1) := by decide +kernel
theorem dX5_init_48 : decode cX5_init 48 = .ok (.iconst 0, 1) := by decide +kernel
theorem dX5_init_49 : decode cX5_init 49 = .ok (.putfield 36, 3) := by decide +kernel
theorem dX5_init_52 : decode cX5_init 52 = .ok (.aload_n 0, 1) := by decide +kernel
theorem dX5_init_53 : decode cX5_init 53 = .ok (.iconst (-1), 1) := by decide +kernel
theorem dX5_init_54 : decode cX5_init 54 = .ok (.putfield 39, 3) := by decide +kernel
theorem dX5_init_57 : decode cX5_init 57 = .ok (.aload_n 0, 1) := by decide +kernel
theorem dX5_init_58 : decode cX5_init 58 = .ok (.iconst 0, 1) := by decide +kernel
theorem dX5_init_59 : decode cX5_init 59 = .ok (.putfield 42, 3) := by decide +kernel
theorem dX5_init_62 : decode cX5_init 62 = .ok (.aload_n 0, 1) := by decide +kernel
theorem dX5_init_63 : decode cX5_init 63 = .ok (.iconst 0, 1) := by decide +kernel
theorem dX5_init_64 : decode cX5_init 64 = .ok (.putfield 45, 3) := by decide +kernel
theorem dX5_init_67 : decode cX5_init 67 = .ok (.aload_n 0, 1) := by decide +kernel
theorem dX5_init_68 : decode cX5_init 68 = .ok (.iconst 0, 1) := by decide +kernel
theorem dX5_init_69 : decode cX5_init 69 = .ok (.putfield 48, 3) := by decide +kernel
theorem dX5_init_72 : decode cX5_init 72 = .ok (.aload_n 0, 1) := by decide +kernel
theorem dX5_init_73 : decode cX5_init 73 = .ok (.iconst 0, 1) := by decide +kernel
theorem dX5_init_74 : decode cX5_init 74 = .ok (.putfield 52, 3) := by decide +kernel
theorem dX5_init_77 : decode cX5_init 77 = .ok (.return_, 1) := by decide +kernel
theorem dX5_take_0 : decode cX5_take 0 = .ok (.aload_n 0, 1) := by decide +kernel
theorem dX5_take_1 : decode cX5_take 1 = .ok (.getfield 32, 3) := by decide +kernel
theorem dX5_take_4 : decode cX5_take 4 = .ok (.sipush 250, 3) := by decide +kernel
theorem dX5_take_7 : decode cX5_take 7 = .ok (.if_icmp .ge 23, 3) := by decide +kernel
theorem dX5_take_10 : decode cX5_take 10 = .ok (.aload_n 0, 1) := by decide +kernel
theorem dX5_take_11 : decode cX5_take 11 = .ok (.getfield 25, 3) := by decide +kernel
theorem dX5_take_14 : decode cX5_take 14 = .ok (.aload_n 0, 1) := by decide +kernel
theorem dX5_take_15 : decode cX5_take 15 = .ok (.getfield 32, 3) := by decide +kernel
theorem dX5_take_18 : decode cX5_take 18 = .ok (.iload_n 1, 1) := by decide +kernel
theorem dX5_take_19 : decode cX5_take 19 = .ok (.iastore, 1) := by decide +kernel
theorem dX5_take_20 : decode cX5_take 20 = .ok (.aload_n 0, 1) := by decide +kernel
theorem dX5_take_21 : decode cX5_take 21 = .ok (.dup, 1) := by decide +kernel
theorem dX5_take_22 : decode cX5_take 22 = .ok (.getfield 32, 3) := by decide +kernel
theorem dX5_take_25 : decode cX5_take 25 = .ok (.iconst 1, 1) := by decide +kernel
theorem dX5_take_26 : decode cX5_take 26 = .ok (.iadd, 1) := by decide +kernel
theorem dX5_take_27 : decode cX5_take 27 = .ok (.putfield 32, 3) := by decide +kernel
theorem dX5_take_30 : decode cX5_take 30 = .ok (.aload_n 0, 1) := by decide +kernel
theorem dX5_take_31 : decode cX5_take 31 = .ok (.getfield 32, 3) := by decide +kernel
theorem dX5_take_34 : decode cX5_take 34 = .ok (.ireturn, 1) := by decide +kernel
theorem dX5_read_0 : decode cX5_read 0 = .ok (.aload_n 0, 1) := by decide +kernel
theorem dX5_read_1 : decode cX5_read 1 = .ok (.getfield 12, 3) := by decide +kernel
theorem dX5_read_4 : decode cX5_read 4 = .ok (.invokevirtual 55, 3) := by decide +kernel
theorem dX5_read_7 : decode cX5_read 7 = .ok (.aload_n 0, 1) := by decide +kernel
theorem dX5_read_8 : decode cX5_read 8 = .ok (.getfield 21, 3) := by decide +kernel
theorem dX5_read_11 : decode cX5_read 11 = .ok (.invokevirtual 58, 3) := by decide +kernel
theorem dX5_read_14 : decode cX5_read 14 = .ok (.aload_n 0, 1) := by decide +kernel
theorem dX5_read_15 : decode cX5_read 15 = .ok (.getfield 29, 3) := by decide +kernel
theorem dX5_read_18 : decode cX5_read 18 = .ok (.iconst 0, 1) := by decide +kernel
theorem dX5_read_19 : decode cX5_read 19 = .ok (.invokestatic 59, 3) := by decide +kernel
theorem dX5_read_22 : decode cX5_read 22 = .ok (.aload_n 0, 1) := by decide +kernel
theorem dX5_read_23 : decode cX5_read 23 = .ok (.iconst 0, 1) := by decide +kernel
theorem dX5_read_24 : decode cX5_read 24 = .ok (.putfield 48, 3) := by decide +kernel
theorem dX5_read_27 : decode cX5_read 27 = .ok (.aload_n 0, 1) := by decide +kernel
theorem dX5_read_28 : decode cX5_read 28 = .ok (.iconst 0, 1) := by decide +kernel
theorem dX5_read_29 : decode cX5_read 29 = .ok (.putfield 52, 3) := by decide +kernel
theorem dX5_read_32 : decode cX5_read 32 = .ok (.aload_n 0, 1) := by decide +kernel
theorem dX5_read_33 : decode cX5_read 33 = .ok (.iconst 0, 1) := by decide +kernel
theorem dX5_read_34 : decode cX5_read 34 = .ok (.putfield 36, 3) := by decide +kernel
theorem dX5_read_37 : decode cX5_read 37 = .ok (.aload_n 0, 1) := by decide +kernel
theorem dX5_read_38 : decode cX5_read 38 = .ok (.iconst (-1), 1) := by decide +kernel
theorem dX5_read_39 : decode cX5_read 39 = .ok (.putfield 39, 3) := by decide +kernel
theorem dX5_read_42 : decode cX5_read 42 = .ok (.aload_n 0, 1) := by decide +kernel
theorem dX5_read_43 : decode cX5_read 43 = .ok (.iconst 0, 1) := by decide +kernel
theorem dX5_read_44 : decode cX5_read 44 = .ok (.putfield 42, 3) := by decide +kernel
theorem dX5_read_47 : decode cX5_read 47 = .ok (.iconst 0, 1) := by decide +kernel
theorem dX5_read_48 : decode cX5_read 48 = .ok (.istore_n 1, 1) := by decide +kernel
theorem dX5_read_49 : decode cX5_read 49 = .ok (.iload_n 1, 1) := by decide +kernel
theorem dX5_read_50 : decode cX5_read 50 = .ok (.sipush 250, 3) := by decide +kernel
theorem dX5_read_53 : decode cX5_read 53 = .ok (.if_icmp .ge 47, 3) := by decide +kernel
theorem dX5_read_56 : decode cX5_read 56 = .ok (.aload_n 0, 1) := by decide +kernel
theorem dX5_read_57 : decode cX5_read 57 = .ok (.getfield 36, 3) := by decide +kernel
theorem dX5_read_60 : decode cX5_read 60 = .ok (.ifCond .ne 40, 3) := by decide +kernel
theorem dX5_read_63 : decode cX5_read 63 = .ok (.aload_n 0, 1) := by decide +kernel
theorem dX5_read_64 : decode cX5_read 64 = .ok (.invokevirtual 65, 3) := by decide +kernel
theorem dX5_read_67 : decode cX5_read 67 = .ok (.aload_n 0, 1) := by decide +kernel
theorem dX5_read_68 : decode cX5_read 68 = .ok (.getfield 42, 3) := by decide +kernel
theorem dX5_read_71 : decode cX5_read 71 = .ok (.aload_n 0, 1) := by decide +kernel
theorem dX5_read_72 : decode cX5_read 72 = .ok (.getfield 32, 3) := by decide +kernel
theorem dX5_read_75 : decode cX5_read 75 = .ok (.if_icmp .lt 6, 3) := by decide +kernel
theorem dX5_read_78 : decode cX5_read 78 = .ok (.goto 22, 3) := by decide +kernel
theorem dX5_read_81 : decode cX5_read 81 = .ok (.aload_n 0, 1) := by decide +kernel
theorem dX5_read_82 : decode cX5_read 82 = .ok (.aload_n 0, 1) := by decide +kernel
theorem dX5_read_83 : decode cX5_read 83 = .ok (.getfield 25, 3) := by decide +kernel
theorem dX5_read_86 : decode cX5_read 86 = .ok (.aload_n 0, 1) := by decide +kernel
theorem dX5_read_87 : decode cX5_read 87 = .ok (.getfield 42, 3) := by decide +kernel
theorem dX5_read_90 : decode cX5_read 90 = .ok (.iaload, 1) := by decide +kernel
theorem dX5_read_91 : decode cX5_read 91 = .ok (.invokevirtual 68, 3) := by decide +kernel
theorem dX5_read_94 : decode cX5_read 94 = .ok (.iinc 1 1, 3) := by decide +kernel
theorem dX5_read_97 : decode cX5_read 97 = .ok (.goto (-48), 3) := by decide +kernel
theorem dX5_read_100 : decode cX5_read 100 = .ok (.aload_n 0, 1) := by decide +kernel
theorem dX5_read_101 : decode cX5_read 101 = .ok (.iconst 0, 1) := by decide +kernel
theorem dX5_read_102 : decode cX5_read 102 = .ok (.putfield 32, 3) := by decide +kernel
theorem dX5_read_105 : decode cX5_read 105 = .ok (.return_, 1) := by decide +kernel
theorem dX5_readClause_0 : decode cX5_readClause 0 = .ok (.iload_n 1, 1) := by decide +kernel
theorem dX5_readClause_1 : decode cX5_readClause 1 = .ok (.lookupswitch 71 #[(103, 57), (108, 43), (110, 64), (119, 50)], 43) := by decide +kernel
theorem dX5_readClause_44 : decode cX5_readClause 44 = .ok (.aload_n 0, 1) := by decide +kernel
theorem dX5_readClause_45 : decode cX5_readClause 45 = .ok (.invokevirtual 72, 3) := by decide +kernel
theorem dX5_readClause_48 : decode cX5_readClause 48 = .ok (.goto 33, 3) := by decide +kernel
theorem dX5_readClause_51 : decode cX5_readClause 51 = .ok (.aload_n 0, 1) := by decide +kernel
theorem dX5_readClause_52 : decode cX5_readClause 52 = .ok (.invokevirtual 75, 3) := by decide +kernel
theorem dX5_readClause_55 : decode cX5_readClause 55 = .ok (.goto 26, 3) := by decide +kernel
theorem dX5_readClause_58 : decode cX5_readClause 58 = .ok (.aload_n 0, 1) := by decide +kernel
theorem dX5_readClause_59 : decode cX5_readClause 59 = .ok (.invokevirtual 78, 3) := by decide +kernel
theorem dX5_readClause_62 : decode cX5_readClause 62 = .ok (.goto 19, 3) := by decide +kernel
theorem dX5_readClause_65 : decode cX5_readClause 65 = .ok (.aload_n 0, 1) := by decide +kernel
theorem dX5_readClause_66 : decode cX5_readClause 66 = .ok (.invokevirtual 81, 3) := by decide +kernel
theorem dX5_readClause_69 : decode cX5_readClause 69 = .ok (.goto 12, 3) := by decide +kernel
theorem dX5_readClause_72 : decode cX5_readClause 72 = .ok (.aload_n 0, 1) := by decide +kernel
theorem dX5_readClause_73 : decode cX5_readClause 73 = .ok (.iconst 1, 1) := by decide +kernel
theorem dX5_readClause_74 : decode cX5_readClause 74 = .ok (.aload_n 0, 1) := by decide +kernel
theorem dX5_readClause_75 : decode cX5_readClause 75 = .ok (.getfield 42, 3) := by decide +kernel
theorem dX5_readClause_78 : decode cX5_readClause 78 = .ok (.invokevirtual 84, 3) := by decide +kernel
theorem dX5_readClause_81 : decode cX5_readClause 81 = .ok (.return_, 1) := by decide +kernel
theorem dX5_readLeaf_0 : decode cX5_readLeaf 0 = .ok (.aload_n 0, 1) := by decide +kernel
theorem dX5_readLeaf_1 : decode cX5_readLeaf 1 = .ok (.dup, 1) := by decide +kernel
theorem dX5_readLeaf_2 : decode cX5_readLeaf 2 = .ok (.getfield 42, 3) := by decide +kernel
theorem dX5_readLeaf_5 : decode cX5_readLeaf 5 = .ok (.iconst 1, 1) := by decide +kernel
theorem dX5_readLeaf_6 : decode cX5_readLeaf 6 = .ok (.iadd, 1) := by decide +kernel
theorem dX5_readLeaf_7 : decode cX5_readLeaf 7 = .ok (.putfield 42, 3) := by decide +kernel
theorem dX5_readLeaf_10 : decode cX5_readLeaf 10 = .ok (.aload_n 0, 1) := by decide +kernel
theorem dX5_readLeaf_11 : decode cX5_readLeaf 11 = .ok (.iconst 0, 1) := by decide +kernel
theorem dX5_readLeaf_12 : decode cX5_readLeaf 12 = .ok (.iconst 1, 1) := by decide +kernel
theorem dX5_readLeaf_13 : decode cX5_readLeaf 13 = .ok (.invokevirtual 88, 3) := by decide +kernel
theorem dX5_readLeaf_16 : decode cX5_readLeaf 16 = .ok (.istore_n 1, 1) := by decide +kernel
theorem dX5_readLeaf_17 : decode cX5_readLeaf 17 = .ok (.aload_n 0, 1) := by decide +kernel
theorem dX5_readLeaf_18 : decode cX5_readLeaf 18 = .ok (.getfield 29, 3) := by decide +kernel
theorem dX5_readLeaf_21 : decode cX5_readLeaf 21 = .ok (.iload_n 1, 1) := by decide +kernel
theorem dX5_readLeaf_22 : decode cX5_readLeaf 22 = .ok (.iaload, 1) := by decide +kernel
theorem dX5_readLeaf_23 : decode cX5_readLeaf 23 = .ok (.iconst 1, 1) := by decide +kernel
theorem dX5_readLeaf_24 : decode cX5_readLeaf 24 = .ok (.if_icmp .ne 12, 3) := by decide +kernel
theorem dX5_readLeaf_27 : decode cX5_readLeaf 27 = .ok (.aload_n 0, 1) := by decide +kernel
theorem dX5_readLeaf_28 : decode cX5_readLeaf 28 = .ok (.iconst 4, 1) := by decide +kernel
theorem dX5_readLeaf_29 : decode cX5_readLeaf 29 = .ok (.aload_n 0, 1) := by decide +kernel
theorem dX5_readLeaf_30 : decode cX5_readLeaf 30 = .ok (.getfield 45, 3) := by decide +kernel
theorem dX5_readLeaf_33 : decode cX5_readLeaf 33 = .ok (.invokevirtual 84, 3) := by decide +kernel
theorem dX5_readLeaf_36 : decode cX5_readLeaf 36 = .ok (.aload_n 0, 1) := by decide +kernel
theorem dX5_readLeaf_37 : decode cX5_readLeaf 37 = .ok (.getfield 29, 3) := by decide +kernel
theorem dX5_readLeaf_40 : decode cX5_readLeaf 40 = .ok (.iload_n 1, 1) := by decide +kernel
theorem dX5_readLeaf_41 : decode cX5_readLeaf 41 = .ok (.iconst 1, 1) := by decide +kernel
theorem dX5_readLeaf_42 : decode cX5_readLeaf 42 = .ok (.iastore, 1) := by decide +kernel
theorem dX5_readLeaf_43 : decode cX5_readLeaf 43 = .ok (.aload_n 0, 1) := by decide +kernel
theorem dX5_readLeaf_44 : decode cX5_readLeaf 44 = .ok (.getfield 12, 3) := by decide +kernel
theorem dX5_readLeaf_47 : decode cX5_readLeaf 47 = .ok (.getfield 92, 3) := by decide +kernel
theorem dX5_readLeaf_50 : decode cX5_readLeaf 50 = .ok (.iload_n 1, 1) := by decide +kernel
theorem dX5_readLeaf_51 : decode cX5_readLeaf 51 = .ok (.aload_n 0, 1) := by decide +kernel
theorem dX5_readLeaf_52 : decode cX5_readLeaf 52 = .ok (.iconst 1, 1) := by decide +kernel
theorem dX5_readLeaf_53 : decode cX5_readLeaf 53 = .ok (.bipush 9, 2) := by decide +kernel
theorem dX5_readLeaf_55 : decode cX5_readLeaf 55 = .ok (.invokevirtual 88, 3) := by decide +kernel
theorem dX5_readLeaf_58 : decode cX5_readLeaf 58 = .ok (.iastore, 1) := by decide +kernel
theorem dX5_readLeaf_59 : decode cX5_readLeaf 59 = .ok (.aload_n 0, 1) := by decide +kernel
theorem dX5_readLeaf_60 : decode cX5_readLeaf 60 = .ok (.getfield 12, 3) := by decide +kernel
theorem dX5_readLeaf_63 : decode cX5_readLeaf 63 = .ok (.getfield 95, 3) := by decide +kernel
theorem dX5_readLeaf_66 : decode cX5_readLeaf 66 = .ok (.iload_n 1, 1) := by decide +kernel
theorem dX5_readLeaf_67 : decode cX5_readLeaf 67 = .ok (.aload_n 0, 1) := by decide +kernel
theorem dX5_readLeaf_68 : decode cX5_readLeaf 68 = .ok (.iconst 0, 1) := by decide +kernel
theorem dX5_readLeaf_69 : decode cX5_readLeaf 69 = .ok (.bipush 9, 2) := by decide +kernel
theorem dX5_readLeaf_71 : decode cX5_readLeaf 71 = .ok (.invokevirtual 88, 3) := by decide +kernel
theorem dX5_readLeaf_74 : decode cX5_readLeaf 74 = .ok (.iastore, 1) := by decide +kernel
theorem dX5_readLeaf_75 : decode cX5_readLeaf 75 = .ok (.aload_n 0, 1) := by decide +kernel
theorem dX5_readLeaf_76 : decode cX5_readLeaf 76 = .ok (.invokevirtual 98, 3) := by decide +kernel
theorem dX5_readLeaf_79 : decode cX5_readLeaf 79 = .ok (.return_, 1) := by decide +kernel
theorem dX5_readWaiter_0 : decode cX5_readWaiter 0 = .ok (.aload_n 0, 1) := by decide +kernel
theorem dX5_readWaiter_1 : decode cX5_readWaiter 1 = .ok (.getfield 12, 3) := by decide +kernel
theorem dX5_readWaiter_4 : decode cX5_readWaiter 4 = .ok (.getfield 101, 3) := by decide +kernel
theorem dX5_readWaiter_7 : decode cX5_readWaiter 7 = .ok (.istore_n 1, 1) := by decide +kernel
theorem dX5_readWaiter_8 : decode cX5_readWaiter 8 = .ok (.iload_n 1, 1) := by decide +kernel
theorem dX5_readWaiter_9 : decode cX5_readWaiter 9 = .ok (.bipush 6, 2) := by decide +kernel
theorem dX5_readWaiter_11 : decode cX5_readWaiter 11 = .ok (.if_icmp .lt 13, 3) := by decide +kernel
theorem dX5_readWaiter_14 : decode cX5_readWaiter 14 = .ok (.aload_n 0, 1) := by decide +kernel
theorem dX5_readWaiter_15 : decode cX5_readWaiter 15 = .ok (.iconst 3, 1) := by decide +kernel
theorem dX5_readWaiter_16 : decode cX5_readWaiter 16 = .ok (.aload_n 0, 1) := by decide +kernel
theorem dX5_readWaiter_17 : decode cX5_readWaiter 17 = .ok (.getfield 42, 3) := by decide +kernel
theorem dX5_readWaiter_20 : decode cX5_readWaiter 20 = .ok (.invokevirtual 84, 3) := by decide +kernel
theorem dX5_readWaiter_23 : decode cX5_readWaiter 23 = .ok (.return_, 1) := by decide +kernel
theorem dX5_readWaiter_24 : decode cX5_readWaiter 24 = .ok (.aload_n 0, 1) := by decide +kernel
theorem dX5_readWaiter_25 : decode cX5_readWaiter 25 = .ok (.dup, 1) := by decide +kernel
theorem dX5_readWaiter_26 : decode cX5_readWaiter 26 = .ok (.getfield 42, 3) := by decide +kernel
theorem dX5_readWaiter_29 : decode cX5_readWaiter 29 = .ok (.iconst 1, 1) := by decide +kernel
theorem dX5_readWaiter_30 : decode cX5_readWaiter 30 = .ok (.iadd, 1) := by decide +kernel
theorem dX5_readWaiter_31 : decode cX5_readWaiter 31 = .ok (.putfield 42, 3) := by decide +kernel
theorem dX5_readWaiter_34 : decode cX5_readWaiter 34 = .ok (.aload_n 0, 1) := by decide +kernel
theorem dX5_readWaiter_35 : decode cX5_readWaiter 35 = .ok (.getfield 12, 3) := by decide +kernel
theorem dX5_readWaiter_38 : decode cX5_readWaiter 38 = .ok (.getfield 104, 3) := by decide +kernel
theorem dX5_readWaiter_41 : decode cX5_readWaiter 41 = .ok (.iload_n 1, 1) := by decide +kernel
theorem dX5_readWaiter_42 : decode cX5_readWaiter 42 = .ok (.aload_n 0, 1) := by decide +kernel
theorem dX5_readWaiter_43 : decode cX5_readWaiter 43 = .ok (.iconst 0, 1) := by decide +kernel
theorem dX5_readWaiter_44 : decode cX5_readWaiter 44 = .ok (.iconst 1, 1) := by decide +kernel
theorem dX5_readWaiter_45 : decode cX5_readWaiter 45 = .ok (.invokevirtual 88, 3) := by decide +kernel
theorem dX5_readWaiter_48 : decode cX5_readWaiter 48 = .ok (.iastore, 1) := by decide +kernel
theorem dX5_readWaiter_49 : decode cX5_readWaiter 49 = .ok (.aload_n 0, 1) := by decide +kernel
theorem dX5_readWaiter_50 : decode cX5_readWaiter 50 = .ok (.getfield 21, 3) := by decide +kernel
theorem dX5_readWaiter_53 : decode cX5_readWaiter 53 = .ok (.getfield 107, 3) := by decide +kernel
theorem dX5_readWaiter_56 : decode cX5_readWaiter 56 = .ok (.iload_n 1, 1) := by decide +kernel
theorem dX5_readWaiter_57 : decode cX5_readWaiter 57 = .ok (.aload_n 0, 1) := by decide +kernel
theorem dX5_readWaiter_58 : decode cX5_readWaiter 58 = .ok (.iconst 0, 1) := by decide +kernel
theorem dX5_readWaiter_59 : decode cX5_readWaiter 59 = .ok (.sipush 999, 3) := by decide +kernel
theorem dX5_readWaiter_62 : decode cX5_readWaiter 62 = .ok (.invokevirtual 88, 3) := by decide +kernel
theorem dX5_readWaiter_65 : decode cX5_readWaiter 65 = .ok (.iastore, 1) := by decide +kernel
theorem dX5_readWaiter_66 : decode cX5_readWaiter 66 = .ok (.aload_n 0, 1) := by decide +kernel
theorem dX5_readWaiter_67 : decode cX5_readWaiter 67 = .ok (.getfield 12, 3) := by decide +kernel
theorem dX5_readWaiter_70 : decode cX5_readWaiter 70 = .ok (.getfield 110, 3) := by decide +kernel
theorem dX5_readWaiter_73 : decode cX5_readWaiter 73 = .ok (.iload_n 1, 1) := by decide +kernel
theorem dX5_readWaiter_74 : decode cX5_readWaiter 74 = .ok (.aload_n 0, 1) := by decide +kernel
theorem dX5_readWaiter_75 : decode cX5_readWaiter 75 = .ok (.iconst 1, 1) := by decide +kernel
theorem dX5_readWaiter_76 : decode cX5_readWaiter 76 = .ok (.bipush 30, 2) := by decide +kernel
theorem dX5_readWaiter_78 : decode cX5_readWaiter 78 = .ok (.invokevirtual 88, 3) := by decide +kernel
theorem dX5_readWaiter_81 : decode cX5_readWaiter 81 = .ok (.iastore, 1) := by decide +kernel
theorem dX5_readWaiter_82 : decode cX5_readWaiter 82 = .ok (.aload_n 0, 1) := by decide +kernel
theorem dX5_readWaiter_83 : decode cX5_readWaiter 83 = .ok (.getfield 12, 3) := by decide +kernel
theorem dX5_readWaiter_86 : decode cX5_readWaiter 86 = .ok (.getfield 113, 3) := by decide +kernel
theorem dX5_readWaiter_89 : decode cX5_readWaiter 89 = .ok (.iload_n 1, 1) := by decide +kernel
theorem dX5_readWaiter_90 : decode cX5_readWaiter 90 = .ok (.aload_n 0, 1) := by decide +kernel
theorem dX5_readWaiter_91 : decode cX5_readWaiter 91 = .ok (.iconst 0, 1) := by decide +kernel
theorem dX5_readWaiter_92 : decode cX5_readWaiter 92 = .ok (.bipush 99, 2) := by decide +kernel
theorem dX5_readWaiter_94 : decode cX5_readWaiter 94 = .ok (.invokevirtual 88, 3) := by decide +kernel
theorem dX5_readWaiter_97 : decode cX5_readWaiter 97 = .ok (.iastore, 1) := by decide +kernel
theorem dX5_readWaiter_98 : decode cX5_readWaiter 98 = .ok (.aload_n 0, 1) := by decide +kernel
theorem dX5_readWaiter_99 : decode cX5_readWaiter 99 = .ok (.getfield 21, 3) := by decide +kernel
theorem dX5_readWaiter_102 : decode cX5_readWaiter 102 = .ok (.getfield 116, 3) := by decide +kernel
theorem dX5_readWaiter_105 : decode cX5_readWaiter 105 = .ok (.iload_n 1, 1) := by decide +kernel
theorem dX5_readWaiter_106 : decode cX5_readWaiter 106 = .ok (.aload_n 0, 1) := by decide +kernel
theorem dX5_readWaiter_107 : decode cX5_readWaiter 107 = .ok (.iconst 1, 1) := by decide +kernel
theorem dX5_readWaiter_108 : decode cX5_readWaiter 108 = .ok (.bipush 9, 2) := by decide +kernel
theorem dX5_readWaiter_110 : decode cX5_readWaiter 110 = .ok (.invokevirtual 88, 3) := by decide +kernel
theorem dX5_readWaiter_113 : decode cX5_readWaiter 113 = .ok (.iastore, 1) := by decide +kernel
theorem dX5_readWaiter_114 : decode cX5_readWaiter 114 = .ok (.aload_n 0, 1) := by decide +kernel
theorem dX5_readWaiter_115 : decode cX5_readWaiter 115 = .ok (.getfield 21, 3) := by decide +kernel
theorem dX5_readWaiter_118 : decode cX5_readWaiter 118 = .ok (.getfield 119, 3) := by decide +kernel
theorem dX5_readWaiter_121 : decode cX5_readWaiter 121 = .ok (.iload_n 1, 1) := by decide +kernel
theorem dX5_readWaiter_122 : decode cX5_readWaiter 122 = .ok (.aload_n 0, 1) := by decide +kernel
theorem dX5_readWaiter_123 : decode cX5_readWaiter 123 = .ok (.iconst 0, 1) := by decide +kernel
theorem dX5_readWaiter_124 : decode cX5_readWaiter 124 = .ok (.iconst 2, 1) := by decide +kernel
theorem dX5_readWaiter_125 : decode cX5_readWaiter 125 = .ok (.invokevirtual 88, 3) := by decide +kernel
theorem dX5_readWaiter_128 : decode cX5_readWaiter 128 = .ok (.iastore, 1) := by decide +kernel
theorem dX5_readWaiter_129 : decode cX5_readWaiter 129 = .ok (.aload_n 0, 1) := by decide +kernel
theorem dX5_readWaiter_130 : decode cX5_readWaiter 130 = .ok (.getfield 12, 3) := by decide +kernel
theorem dX5_readWaiter_133 : decode cX5_readWaiter 133 = .ok (.getfield 122, 3) := by decide +kernel
theorem dX5_readWaiter_136 : decode cX5_readWaiter 136 = .ok (.iload_n 1, 1) := by decide +kernel
theorem dX5_readWaiter_137 : decode cX5_readWaiter 137 = .ok (.aload_n 0, 1) := by decide +kernel
theorem dX5_readWaiter_138 : decode cX5_readWaiter 138 = .ok (.iconst 0, 1) := by decide +kernel
theorem dX5_readWaiter_139 : decode cX5_readWaiter 139 = .ok (.iconst 1, 1) := by decide +kernel
theorem dX5_readWaiter_140 : decode cX5_readWaiter 140 = .ok (.invokevirtual 88, 3) := by decide +kernel
theorem dX5_readWaiter_143 : decode cX5_readWaiter 143 = .ok (.iastore, 1) := by decide +kernel
theorem dX5_readWaiter_144 : decode cX5_readWaiter 144 = .ok (.aload_n 0, 1) := by decide +kernel
theorem dX5_readWaiter_145 : decode cX5_readWaiter 145 = .ok (.invokevirtual 98, 3) := by decide +kernel
theorem dX5_readWaiter_148 : decode cX5_readWaiter 148 = .ok (.aload_n 0, 1) := by decide +kernel
theorem dX5_readWaiter_149 : decode cX5_readWaiter 149 = .ok (.getfield 12, 3) := by decide +kernel
theorem dX5_readWaiter_152 : decode cX5_readWaiter 152 = .ok (.iload_n 1, 1) := by decide +kernel
theorem dX5_readWaiter_153 : decode cX5_readWaiter 153 = .ok (.iconst 1, 1) := by decide +kernel
theorem dX5_readWaiter_154 : decode cX5_readWaiter 154 = .ok (.iadd, 1) := by decide +kernel
theorem dX5_readWaiter_155 : decode cX5_readWaiter 155 = .ok (.putfield 101, 3) := by decide +kernel
theorem dX5_readWaiter_158 : decode cX5_readWaiter 158 = .ok (.return_, 1) := by decide +kernel
theorem dX5_readWindow_0 : decode cX5_readWindow 0 = .ok (.aload_n 0, 1) := by decide +kernel
theorem dX5_readWindow_1 : decode cX5_readWindow 1 = .ok (.getfield 48, 3) := by decide +kernel
theorem dX5_readWindow_4 : decode cX5_readWindow 4 = .ok (.ifCond .eq 12, 3) := by decide +kernel
theorem dX5_readWindow_7 : decode cX5_readWindow 7 = .ok (.aload_n 0, 1) := by decide +kernel
theorem dX5_readWindow_8 : decode cX5_readWindow 8 = .ok (.iconst 3, 1) := by decide +kernel
theorem dX5_readWindow_9 : decode cX5_readWindow 9 = .ok (.aload_n 0, 1) := by decide +kernel
theorem dX5_readWindow_10 : decode cX5_readWindow 10 = .ok (.getfield 42, 3) := by decide +kernel
theorem dX5_readWindow_13 : decode cX5_readWindow 13 = .ok (.invokevirtual 84, 3) := by decide +kernel
theorem dX5_readWindow_16 : decode cX5_readWindow 16 = .ok (.aload_n 0, 1) := by decide +kernel
theorem dX5_readWindow_17 : decode cX5_readWindow 17 = .ok (.iconst 1, 1) := by decide +kernel
theorem dX5_readWindow_18 : decode cX5_readWindow 18 = .ok (.putfield 48, 3) := by decide +kernel
theorem dX5_readWindow_21 : decode cX5_readWindow 21 = .ok (.aload_n 0, 1) := by decide +kernel
theorem dX5_readWindow_22 : decode cX5_readWindow 22 = .ok (.dup, 1) := by decide +kernel
theorem dX5_readWindow_23 : decode cX5_readWindow 23 = .ok (.getfield 42, 3) := by decide +kernel
theorem dX5_readWindow_26 : decode cX5_readWindow 26 = .ok (.iconst 1, 1) := by decide +kernel
theorem dX5_readWindow_27 : decode cX5_readWindow 27 = .ok (.iadd, 1) := by decide +kernel
theorem dX5_readWindow_28 : decode cX5_readWindow 28 = .ok (.putfield 42, 3) := by decide +kernel
theorem dX5_readWindow_31 : decode cX5_readWindow 31 = .ok (.aload_n 0, 1) := by decide +kernel
theorem dX5_readWindow_32 : decode cX5_readWindow 32 = .ok (.getfield 21, 3) := by decide +kernel
theorem dX5_readWindow_35 : decode cX5_readWindow 35 = .ok (.aload_n 0, 1) := by decide +kernel
theorem dX5_readWindow_36 : decode cX5_readWindow 36 = .ok (.iconst 0, 1) := by decide +kernel
theorem dX5_readWindow_37 : decode cX5_readWindow 37 = .ok (.iconst 1, 1) := by decide +kernel
theorem dX5_readWindow_38 : decode cX5_readWindow 38 = .ok (.invokevirtual 88, 3) := by decide +kernel
theorem dX5_readWindow_41 : decode cX5_readWindow 41 = .ok (.putfield 125, 3) := by decide +kernel
theorem dX5_readWindow_44 : decode cX5_readWindow 44 = .ok (.aload_n 0, 1) := by decide +kernel
theorem dX5_readWindow_45 : decode cX5_readWindow 45 = .ok (.invokevirtual 98, 3) := by decide +kernel
theorem dX5_readWindow_48 : decode cX5_readWindow 48 = .ok (.return_, 1) := by decide +kernel
theorem dX5_readNoise_0 : decode cX5_readNoise 0 = .ok (.aload_n 0, 1) := by decide +kernel
theorem dX5_readNoise_1 : decode cX5_readNoise 1 = .ok (.getfield 52, 3) := by decide +kernel
theorem dX5_readNoise_4 : decode cX5_readNoise 4 = .ok (.ifCond .eq 12, 3) := by decide +kernel
theorem dX5_readNoise_7 : decode cX5_readNoise 7 = .ok (.aload_n 0, 1) := by decide +kernel
theorem dX5_readNoise_8 : decode cX5_readNoise 8 = .ok (.iconst 3, 1) := by decide +kernel
theorem dX5_readNoise_9 : decode cX5_readNoise 9 = .ok (.aload_n 0, 1) := by decide +kernel
theorem dX5_readNoise_10 : decode cX5_readNoise 10 = .ok (.getfield 42, 3) := by decide +kernel
theorem dX5_readNoise_13 : decode cX5_readNoise 13 = .ok (.invokevirtual 84, 3) := by decide +kernel
theorem dX5_readNoise_16 : decode cX5_readNoise 16 = .ok (.aload_n 0, 1) := by decide +kernel
theorem dX5_readNoise_17 : decode cX5_readNoise 17 = .ok (.iconst 1, 1) := by decide +kernel
theorem dX5_readNoise_18 : decode cX5_readNoise 18 = .ok (.putfield 52, 3) := by decide +kernel
theorem dX5_readNoise_21 : decode cX5_readNoise 21 = .ok (.aload_n 0, 1) := by decide +kernel
theorem dX5_readNoise_22 : decode cX5_readNoise 22 = .ok (.dup, 1) := by decide +kernel
theorem dX5_readNoise_23 : decode cX5_readNoise 23 = .ok (.getfield 42, 3) := by decide +kernel
theorem dX5_readNoise_26 : decode cX5_readNoise 26 = .ok (.iconst 1, 1) := by decide +kernel
theorem dX5_readNoise_27 : decode cX5_readNoise 27 = .ok (.iadd, 1) := by decide +kernel
theorem dX5_readNoise_28 : decode cX5_readNoise 28 = .ok (.putfield 42, 3) := by decide +kernel
theorem dX5_readNoise_31 : decode cX5_readNoise 31 = .ok (.aload_n 0, 1) := by decide +kernel
theorem dX5_readNoise_32 : decode cX5_readNoise 32 = .ok (.getfield 21, 3) := by decide +kernel
theorem dX5_readNoise_35 : decode cX5_readNoise 35 = .ok (.aload_n 0, 1) := by decide +kernel
theorem dX5_readNoise_36 : decode cX5_readNoise 36 = .ok (.iconst 0, 1) := by decide +kernel
theorem dX5_readNoise_37 : decode cX5_readNoise 37 = .ok (.bipush 9, 2) := by decide +kernel
theorem dX5_readNoise_39 : decode cX5_readNoise 39 = .ok (.invokevirtual 88, 3) := by decide +kernel
theorem dX5_readNoise_42 : decode cX5_readNoise 42 = .ok (.putfield 128, 3) := by decide +kernel
theorem dX5_readNoise_45 : decode cX5_readNoise 45 = .ok (.aload_n 0, 1) := by decide +kernel
theorem dX5_readNoise_46 : decode cX5_readNoise 46 = .ok (.invokevirtual 98, 3) := by decide +kernel
theorem dX5_readNoise_49 : decode cX5_readNoise 49 = .ok (.return_, 1) := by decide +kernel
theorem dX5_readNumber_0 : decode cX5_readNumber 0 = .ok (.aload_n 0, 1) := by decide +kernel
theorem dX5_readNumber_1 : decode cX5_readNumber 1 = .ok (.invokevirtual 65, 3) := by decide +kernel
theorem dX5_readNumber_4 : decode cX5_readNumber 4 = .ok (.aload_n 0, 1) := by decide +kernel
theorem dX5_readNumber_5 : decode cX5_readNumber 5 = .ok (.aload_n 0, 1) := by decide +kernel
theorem dX5_readNumber_6 : decode cX5_readNumber 6 = .ok (.getfield 42, 3) := by decide +kernel
theorem dX5_readNumber_9 : decode cX5_readNumber 9 = .ok (.invokevirtual 131, 3) := by decide +kernel
theorem dX5_readNumber_12 : decode cX5_readNumber 12 = .ok (.ifCond .ne 14, 3) := by decide +kernel
theorem dX5_readNumber_15 : decode cX5_readNumber 15 = .ok (.aload_n 0, 1) := by decide +kernel
theorem dX5_readNumber_16 : decode cX5_readNumber 16 = .ok (.iconst 1, 1) := by decide +kernel
theorem dX5_readNumber_17 : decode cX5_readNumber 17 = .ok (.aload_n 0, 1) := by decide +kernel
theorem dX5_readNumber_18 : decode cX5_readNumber 18 = .ok (.getfield 42, 3) := by decide +kernel
theorem dX5_readNumber_21 : decode cX5_readNumber 21 = .ok (.invokevirtual 84, 3) := by decide +kernel
theorem dX5_readNumber_24 : decode cX5_readNumber 24 = .ok (.iload_n 1, 1) := by decide +kernel
theorem dX5_readNumber_25 : decode cX5_readNumber 25 = .ok (.ireturn, 1) := by decide +kernel
theorem dX5_readNumber_26 : decode cX5_readNumber 26 = .ok (.aload_n 0, 1) := by decide +kernel
theorem dX5_readNumber_27 : decode cX5_readNumber 27 = .ok (.aload_n 0, 1) := by decide +kernel
theorem dX5_readNumber_28 : decode cX5_readNumber 28 = .ok (.getfield 42, 3) := by decide +kernel
theorem dX5_readNumber_31 : decode cX5_readNumber 31 = .ok (.putfield 45, 3) := by decide +kernel
theorem dX5_readNumber_34 : decode cX5_readNumber 34 = .ok (.iconst 0, 1) := by decide +kernel
theorem dX5_readNumber_35 : decode cX5_readNumber 35 = .ok (.istore_n 3, 1) := by decide +kernel
theorem dX5_readNumber_36 : decode cX5_readNumber 36 = .ok (.iconst 0, 1) := by decide +kernel
theorem dX5_readNumber_37 : decode cX5_readNumber 37 = .ok (.istore 4, 2) := by decide +kernel
theorem dX5_readNumber_39 : decode cX5_readNumber 39 = .ok (.iload 4, 2) := by decide +kernel
theorem dX5_readNumber_41 : decode cX5_readNumber 41 = .ok (.sipush 250, 3) := by decide +kernel
theorem dX5_readNumber_44 : decode cX5_readNumber 44 = .ok (.if_icmp .ge 54, 3) := by decide +kernel
theorem dX5_readNumber_47 : decode cX5_readNumber 47 = .ok (.aload_n 0, 1) := by decide +kernel
theorem dX5_readNumber_48 : decode cX5_readNumber 48 = .ok (.aload_n 0, 1) := by decide +kernel
theorem dX5_readNumber_49 : decode cX5_readNumber 49 = .ok (.getfield 42, 3) := by decide +kernel
theorem dX5_readNumber_52 : decode cX5_readNumber 52 = .ok (.invokevirtual 131, 3) := by decide +kernel
theorem dX5_readNumber_55 : decode cX5_readNumber 55 = .ok (.ifCond .eq 43, 3) := by decide +kernel
theorem dX5_readNumber_58 : decode cX5_readNumber 58 = .ok (.iload_n 3, 1) := by decide +kernel
theorem dX5_readNumber_59 : decode cX5_readNumber 59 = .ok (.bipush 10, 2) := by decide +kernel
theorem dX5_readNumber_61 : decode cX5_readNumber 61 = .ok (.imul, 1) := by decide +kernel
theorem dX5_readNumber_62 : decode cX5_readNumber 62 = .ok (.aload_n 0, 1) := by decide +kernel
theorem dX5_readNumber_63 : decode cX5_readNumber 63 = .ok (.getfield 25, 3) := by decide +kernel
theorem dX5_readNumber_66 : decode cX5_readNumber 66 = .ok (.aload_n 0, 1) := by decide +kernel
theorem dX5_readNumber_67 : decode cX5_readNumber 67 = .ok (.getfield 42, 3) := by decide +kernel
theorem dX5_readNumber_70 : decode cX5_readNumber 70 = .ok (.iaload, 1) := by decide +kernel
theorem dX5_readNumber_71 : decode cX5_readNumber 71 = .ok (.iadd, 1) := by decide +kernel
theorem dX5_readNumber_72 : decode cX5_readNumber 72 = .ok (.bipush 48, 2) := by decide +kernel
theorem dX5_readNumber_74 : decode cX5_readNumber 74 = .ok (.isub, 1) := by decide +kernel
theorem dX5_readNumber_75 : decode cX5_readNumber 75 = .ok (.sipush 10000, 3) := by decide +kernel
theorem dX5_readNumber_78 : decode cX5_readNumber 78 = .ok (.invokestatic 135, 3) := by decide +kernel
theorem dX5_readNumber_81 : decode cX5_readNumber 81 = .ok (.istore_n 3, 1) := by decide +kernel
theorem dX5_readNumber_82 : decode cX5_readNumber 82 = .ok (.aload_n 0, 1) := by decide +kernel
theorem dX5_readNumber_83 : decode cX5_readNumber 83 = .ok (.dup, 1) := by decide +kernel
theorem dX5_readNumber_84 : decode cX5_readNumber 84 = .ok (.getfield 42, 3) := by decide +kernel
theorem dX5_readNumber_87 : decode cX5_readNumber 87 = .ok (.iconst 1, 1) := by decide +kernel
theorem dX5_readNumber_88 : decode cX5_readNumber 88 = .ok (.iadd, 1) := by decide +kernel
theorem dX5_readNumber_89 : decode cX5_readNumber 89 = .ok (.putfield 42, 3) := by decide +kernel
theorem dX5_readNumber_92 : decode cX5_readNumber 92 = .ok (.iinc 4 1, 3) := by decide +kernel
theorem dX5_readNumber_95 : decode cX5_readNumber 95 = .ok (.goto (-56), 3) := by decide +kernel
theorem dX5_readNumber_98 : decode cX5_readNumber 98 = .ok (.aload_n 0, 1) := by decide +kernel
theorem dX5_readNumber_99 : decode cX5_readNumber 99 = .ok (.getfield 42, 3) := by decide +kernel
theorem dX5_readNumber_102 : decode cX5_readNumber 102 = .ok (.aload_n 0, 1) := by decide +kernel
theorem dX5_readNumber_103 : decode cX5_readNumber 103 = .ok (.getfield 45, 3) := by decide +kernel
theorem dX5_readNumber_106 : decode cX5_readNumber 106 = .ok (.isub, 1) := by decide +kernel
theorem dX5_readNumber_107 : decode cX5_readNumber 107 = .ok (.iconst 3, 1) := by decide +kernel
theorem dX5_readNumber_108 : decode cX5_readNumber 108 = .ok (.if_icmp .gt 13, 3) := by decide +kernel
theorem dX5_readNumber_111 : decode cX5_readNumber 111 = .ok (.iload_n 3, 1) := by decide +kernel
theorem dX5_readNumber_112 : decode cX5_readNumber 112 = .ok (.iload_n 1, 1) := by decide +kernel
theorem dX5_readNumber_113 : decode cX5_readNumber 113 = .ok (.if_icmp .lt 8, 3) := by decide +kernel
theorem dX5_readNumber_116 : decode cX5_readNumber 116 = .ok (.iload_n 3, 1) := by decide +kernel
theorem dX5_readNumber_117 : decode cX5_readNumber 117 = .ok (.iload_n 2, 1) := by decide +kernel
theorem dX5_readNumber_118 : decode cX5_readNumber 118 = .ok (.if_icmp .le 14, 3) := by decide +kernel
theorem dX5_readNumber_121 : decode cX5_readNumber 121 = .ok (.aload_n 0, 1) := by decide +kernel
theorem dX5_readNumber_122 : decode cX5_readNumber 122 = .ok (.iconst 2, 1) := by decide +kernel
theorem dX5_readNumber_123 : decode cX5_readNumber 123 = .ok (.aload_n 0, 1) := by decide +kernel
theorem dX5_readNumber_124 : decode cX5_readNumber 124 = .ok (.getfield 45, 3) := by decide +kernel
theorem dX5_readNumber_127 : decode cX5_readNumber 127 = .ok (.invokevirtual 84, 3) := by decide +kernel
theorem dX5_readNumber_130 : decode cX5_readNumber 130 = .ok (.iload_n 1, 1) := by decide +kernel
theorem dX5_readNumber_131 : decode cX5_readNumber 131 = .ok (.ireturn, 1) := by decide +kernel
theorem dX5_readNumber_132 : decode cX5_readNumber 132 = .ok (.iload_n 3, 1) := by decide +kernel
theorem dX5_readNumber_133 : decode cX5_readNumber 133 = .ok (.ireturn, 1) := by decide +kernel
theorem dX5_readEnd_0 : decode cX5_readEnd 0 = .ok (.aload_n 0, 1) := by decide +kernel
theorem dX5_readEnd_1 : decode cX5_readEnd 1 = .ok (.invokevirtual 65, 3) := by decide +kernel
theorem dX5_readEnd_4 : decode cX5_readEnd 4 = .ok (.aload_n 0, 1) := by decide +kernel
theorem dX5_readEnd_5 : decode cX5_readEnd 5 = .ok (.getfield 42, 3) := by decide +kernel
theorem dX5_readEnd_8 : decode cX5_readEnd 8 = .ok (.aload_n 0, 1) := by decide +kernel
theorem dX5_readEnd_9 : decode cX5_readEnd 9 = .ok (.getfield 32, 3) := by decide +kernel
theorem dX5_readEnd_12 : decode cX5_readEnd 12 = .ok (.if_icmp .ge 17, 3) := by decide +kernel
theorem dX5_readEnd_15 : decode cX5_readEnd 15 = .ok (.aload_n 0, 1) := by decide +kernel
theorem dX5_readEnd_16 : decode cX5_readEnd 16 = .ok (.getfield 25, 3) := by decide +kernel
theorem dX5_readEnd_19 : decode cX5_readEnd 19 = .ok (.aload_n 0, 1) := by decide +kernel
theorem dX5_readEnd_20 : decode cX5_readEnd 20 = .ok (.getfield 42, 3) := by decide +kernel
theorem dX5_readEnd_23 : decode cX5_readEnd 23 = .ok (.iaload, 1) := by decide +kernel
theorem dX5_readEnd_24 : decode cX5_readEnd 24 = .ok (.bipush 59, 2) := by decide +kernel
theorem dX5_readEnd_26 : decode cX5_readEnd 26 = .ok (.if_icmp .eq 13, 3) := by decide +kernel
theorem dX5_readEnd_29 : decode cX5_readEnd 29 = .ok (.aload_n 0, 1) := by decide +kernel
theorem dX5_readEnd_30 : decode cX5_readEnd 30 = .ok (.iconst 1, 1) := by decide +kernel
theorem dX5_readEnd_31 : decode cX5_readEnd 31 = .ok (.aload_n 0, 1) := by decide +kernel
theorem dX5_readEnd_32 : decode cX5_readEnd 32 = .ok (.getfield 42, 3) := by decide +kernel
theorem dX5_readEnd_35 : decode cX5_readEnd 35 = .ok (.invokevirtual 84, 3) := by decide +kernel
theorem dX5_readEnd_38 : decode cX5_readEnd 38 = .ok (.return_, 1) := by decide +kernel
theorem dX5_readEnd_39 : decode cX5_readEnd 39 = .ok (.aload_n 0, 1) := by decide +kernel
theorem dX5_readEnd_40 : decode cX5_readEnd 40 = .ok (.dup, 1) := by decide +kernel
theorem dX5_readEnd_41 : decode cX5_readEnd 41 = .ok (.getfield 42, 3) := by decide +kernel
theorem dX5_readEnd_44 : decode cX5_readEnd 44 = .ok (.iconst 1, 1) := by decide +kernel
theorem dX5_readEnd_45 : decode cX5_readEnd 45 = .ok (.iadd, 1) := by decide +kernel
theorem dX5_readEnd_46 : decode cX5_readEnd 46 = .ok (.putfield 42, 3) := by decide +kernel
theorem dX5_readEnd_49 : decode cX5_readEnd 49 = .ok (.return_, 1) := by decide +kernel
theorem dX5_skipBlanks_0 : decode cX5_skipBlanks 0 = .ok (.iconst 0, 1) := by decide +kernel
theorem dX5_skipBlanks_1 : decode cX5_skipBlanks 1 = .ok (.istore_n 1, 1) := by decide +kernel
theorem dX5_skipBlanks_2 : decode cX5_skipBlanks 2 = .ok (.iload_n 1, 1) := by decide +kernel
theorem dX5_skipBlanks_3 : decode cX5_skipBlanks 3 = .ok (.sipush 250, 3) := by decide +kernel
theorem dX5_skipBlanks_6 : decode cX5_skipBlanks 6 = .ok (.if_icmp .ge 44, 3) := by decide +kernel
theorem dX5_skipBlanks_9 : decode cX5_skipBlanks 9 = .ok (.aload_n 0, 1) := by decide +kernel
theorem dX5_skipBlanks_10 : decode cX5_skipBlanks 10 = .ok (.getfield 42, 3) := by decide +kernel
theorem dX5_skipBlanks_13 : decode cX5_skipBlanks 13 = .ok (.aload_n 0, 1) := by decide +kernel
theorem dX5_skipBlanks_14 : decode cX5_skipBlanks 14 = .ok (.getfield 32, 3) := by decide +kernel
theorem dX5_skipBlanks_17 : decode cX5_skipBlanks 17 = .ok (.if_icmp .ge 33, 3) := by decide +kernel
theorem dX5_skipBlanks_20 : decode cX5_skipBlanks 20 = .ok (.aload_n 0, 1) := by decide +kernel
theorem dX5_skipBlanks_21 : decode cX5_skipBlanks 21 = .ok (.getfield 25, 3) := by decide +kernel
theorem dX5_skipBlanks_24 : decode cX5_skipBlanks 24 = .ok (.aload_n 0, 1) := by decide +kernel
theorem dX5_skipBlanks_25 : decode cX5_skipBlanks 25 = .ok (.getfield 42, 3) := by decide +kernel
theorem dX5_skipBlanks_28 : decode cX5_skipBlanks 28 = .ok (.iaload, 1) := by decide +kernel
theorem dX5_skipBlanks_29 : decode cX5_skipBlanks 29 = .ok (.bipush 32, 2) := by decide +kernel
theorem dX5_skipBlanks_31 : decode cX5_skipBlanks 31 = .ok (.if_icmp .ne 19, 3) := by decide +kernel
theorem dX5_skipBlanks_34 : decode cX5_skipBlanks 34 = .ok (.aload_n 0, 1) := by decide +kernel
theorem dX5_skipBlanks_35 : decode cX5_skipBlanks 35 = .ok (.dup, 1) := by decide +kernel
theorem dX5_skipBlanks_36 : decode cX5_skipBlanks 36 = .ok (.getfield 42, 3) := by decide +kernel
theorem dX5_skipBlanks_39 : decode cX5_skipBlanks 39 = .ok (.iconst 1, 1) := by decide +kernel
theorem dX5_skipBlanks_40 : decode cX5_skipBlanks 40 = .ok (.iadd, 1) := by decide +kernel
theorem dX5_skipBlanks_41 : decode cX5_skipBlanks 41 = .ok (.putfield 42, 3) := by decide +kernel
theorem dX5_skipBlanks_44 : decode cX5_skipBlanks 44 = .ok (.iinc 1 1, 3) := by decide +kernel
theorem dX5_skipBlanks_47 : decode cX5_skipBlanks 47 = .ok (.goto (-45), 3) := by decide +kernel
theorem dX5_skipBlanks_50 : decode cX5_skipBlanks 50 = .ok (.return_, 1) := by decide +kernel
theorem dX5_figureAt_0 : decode cX5_figureAt 0 = .ok (.iload_n 1, 1) := by decide +kernel
theorem dX5_figureAt_1 : decode cX5_figureAt 1 = .ok (.aload_n 0, 1) := by decide +kernel
theorem dX5_figureAt_2 : decode cX5_figureAt 2 = .ok (.getfield 32, 3) := by decide +kernel
theorem dX5_figureAt_5 : decode cX5_figureAt 5 = .ok (.if_icmp .ge 29, 3) := by decide +kernel
theorem dX5_figureAt_8 : decode cX5_figureAt 8 = .ok (.aload_n 0, 1) := by decide +kernel
theorem dX5_figureAt_9 : decode cX5_figureAt 9 = .ok (.getfield 25, 3) := by decide +kernel
theorem dX5_figureAt_12 : decode cX5_figureAt 12 = .ok (.iload_n 1, 1) := by decide +kernel
theorem dX5_figureAt_13 : decode cX5_figureAt 13 = .ok (.iaload, 1) := by decide +kernel
theorem dX5_figureAt_14 : decode cX5_figureAt 14 = .ok (.bipush 48, 2) := by decide +kernel
theorem dX5_figureAt_16 : decode cX5_figureAt 16 = .ok (.if_icmp .lt 18, 3) := by decide +kernel
theorem dX5_figureAt_19 : decode cX5_figureAt 19 = .ok (.aload_n 0, 1) := by decide +kernel
theorem dX5_figureAt_20 : decode cX5_figureAt 20 = .ok (.getfield 25, 3) := by decide +kernel
theorem dX5_figureAt_23 : decode cX5_figureAt 23 = .ok (.iload_n 1, 1) := by decide +kernel
theorem dX5_figureAt_24 : decode cX5_figureAt 24 = .ok (.iaload, 1) := by decide +kernel
theorem dX5_figureAt_25 : decode cX5_figureAt 25 = .ok (.bipush 57, 2) := by decide +kernel
theorem dX5_figureAt_27 : decode cX5_figureAt 27 = .ok (.if_icmp .gt 7, 3) := by decide +kernel
theorem dX5_figureAt_30 : decode cX5_figureAt 30 = .ok (.iconst 1, 1) := by decide +kernel
theorem dX5_figureAt_31 : decode cX5_figureAt 31 = .ok (.goto 4, 3) := by decide +kernel
theorem dX5_figureAt_34 : decode cX5_figureAt 34 = .ok (.iconst 0, 1) := by decide +kernel
theorem dX5_figureAt_35 : decode cX5_figureAt 35 = .ok (.ireturn, 1) := by decide +kernel
theorem dX5_fail_0 : decode cX5_fail 0 = .ok (.aload_n 0, 1) := by decide +kernel
theorem dX5_fail_1 : decode cX5_fail 1 = .ok (.getfield 36, 3) := by decide +kernel
theorem dX5_fail_4 : decode cX5_fail 4 = .ok (.ifCond .ne 13, 3) := by decide +kernel
theorem dX5_fail_7 : decode cX5_fail 7 = .ok (.aload_n 0, 1) := by decide +kernel
theorem dX5_fail_8 : decode cX5_fail 8 = .ok (.iload_n 1, 1) := by decide +kernel
theorem dX5_fail_9 : decode cX5_fail 9 = .ok (.putfield 36, 3) := by decide +kernel
theorem dX5_fail_12 : decode cX5_fail 12 = .ok (.aload_n 0, 1) := by decide +kernel
theorem dX5_fail_13 : decode cX5_fail 13 = .ok (.iload_n 2, 1) := by decide +kernel
theorem dX5_fail_14 : decode cX5_fail 14 = .ok (.putfield 39, 3) := by decide +kernel
theorem dX5_fail_17 : decode cX5_fail 17 = .ok (.return_, 1) := by decide +kernel
theorem dX6_init_0 : decode cX6_init 0 = .ok (.aload_n 0, 1) := by decide +kernel
theorem dX6_init_1 : decode cX6_init 1 = .ok (.invokespecial 3, 3) := by decide +kernel
theorem dX6_init_4 : decode cX6_init 4 = .ok (.aload_n 0, 1) := by decide +kernel
theorem dX6_init_5 : decode cX6_init 5 = .ok (.bipush 6, 2) := by decide +kernel
theorem dX6_init_7 : decode cX6_init 7 = .ok (.newarray .int, 2) := by decide +kernel
theorem dX6_init_9 : decode cX6_init 9 = .ok (.putfield 9, 3) := by decide +kernel
theorem dX6_init_12 : decode cX6_init 12 = .ok (.aload_n 0, 1) := by decide +kernel
theorem dX6_init_13 : decode cX6_init 13 = .ok (.bipush 6, 2) := by decide +kernel
theorem dX6_init_15 : decode cX6_init 15 = .ok (.newarray .int, 2) := by decide +kernel
theorem dX6_init_17 : decode cX6_init 17 = .ok (.putfield 15, 3) := by decide +kernel
theorem dX6_init_20 : decode cX6_init 20 = .ok (.aload_n 0, 1) := by decide +kernel
theorem dX6_init_21 : decode cX6_init 21 = .ok (.bipush 6, 2) := by decide +kernel
theorem dX6_init_23 : decode cX6_init 23 = .ok (.newarray .int, 2) := by decide +kernel
theorem dX6_init_25 : decode cX6_init 25 = .ok (.putfield 18, 3) := by decide +kernel
theorem dX6_init_28 : decode cX6_init 28 = .ok (.aload_n 0, 1) := by decide +kernel
theorem dX6_init_29 : decode cX6_init 29 = .ok (.iconst 0, 1) := by decide +kernel
theorem dX6_init_30 : decode cX6_init 30 = .ok (.putfield 21, 3) := by decide +kernel
theorem dX6_init_33 : decode cX6_init 33 = .ok (.return_, 1) := by decide +kernel
theorem dX6_gather_0 : decode cX6_gather 0 = .ok (.aload_n 0, 1) := by decide +kernel
theorem dX6_gather_1 : decode cX6_gather 1 = .ok (.iconst 0, 1) := by decide +kernel
theorem dX6_gather_2 : decode cX6_gather 2 = .ok (.putfield 21, 3) := by decide +kernel
theorem dX6_gather_5 : decode cX6_gather 5 = .ok (.iconst 0, 1) := by decide +kernel
theorem dX6_gather_6 : decode cX6_gather 6 = .ok (.istore 4, 2) := by decide +kernel
theorem dX6_gather_8 : decode cX6_gather 8 = .ok (.iload 4, 2) := by decide +kernel
theorem dX6_gather_10 : decode cX6_gather 10 = .ok (.aload_n 1, 1) := by decide +kernel
theorem dX6_gather_11 : decode cX6_gather 11 = .ok (.getfield 25, 3) := by decide +kernel
theorem dX6_gather_14 : decode cX6_gather 14 = .ok (.if_icmp .ge 52, 3) := by decide +kernel
theorem dX6_gather_17 : decode cX6_gather 17 = .ok (.aload_n 1, 1) := by decide +kernel
theorem dX6_gather_18 : decode cX6_gather 18 = .ok (.getfield 30, 3) := by decide +kernel
theorem dX6_gather_21 : decode cX6_gather 21 = .ok (.iload 4, 2) := by decide +kernel
theorem dX6_gather_23 : decode cX6_gather 23 = .ok (.iaload, 1) := by decide +kernel
theorem dX6_gather_24 : decode cX6_gather 24 = .ok (.iload_n 3, 1) := by decide +kernel
theorem dX6_gather_25 : decode cX6_gather 25 = .ok (.if_icmp .ne 35, 3) := by decide +kernel
theorem dX6_gather_28 : decode cX6_gather 28 = .ok (.aload_n 0, 1) := by decide +kernel
theorem dX6_gather_29 : decode cX6_gather 29 = .ok (.getfield 18, 3) := by decide +kernel
theorem dX6_gather_32 : decode cX6_gather 32 = .ok (.aload_n 0, 1) := by decide +kernel
theorem dX6_gather_33 : decode cX6_gather 33 = .ok (.getfield 21, 3) := by decide +kernel
theorem dX6_gather_36 : decode cX6_gather 36 = .ok (.iload 4, 2) := by decide +kernel
theorem dX6_gather_38 : decode cX6_gather 38 = .ok (.iastore, 1) := by decide +kernel
theorem dX6_gather_39 : decode cX6_gather 39 = .ok (.aload_n 0, 1) := by decide +kernel
theorem dX6_gather_40 : decode cX6_gather 40 = .ok (.aload_n 2, 1) := by decide +kernel
theorem dX6_gather_41 : decode cX6_gather 41 = .ok (.getfield 33, 3) := by decide +kernel
theorem dX6_gather_44 : decode cX6_gather 44 = .ok (.iload 4, 2) := by decide +kernel
theorem dX6_gather_46 : decode cX6_gather 46 = .ok (.iaload, 1) := by decide +kernel
theorem dX6_gather_47 : decode cX6_gather 47 = .ok (.invokevirtual 38, 3) := by decide +kernel
theorem dX6_gather_50 : decode cX6_gather 50 = .ok (.aload_n 0, 1) := by decide +kernel
theorem dX6_gather_51 : decode cX6_gather 51 = .ok (.dup, 1) := by decide +kernel
theorem dX6_gather_52 : decode cX6_gather 52 = .ok (.getfield 21, 3) := by decide +kernel
theorem dX6_gather_55 : decode cX6_gather 55 = .ok (.iconst 1, 1) := by decide +kernel
theorem dX6_gather_56 : decode cX6_gather 56 = .ok (.iadd, 1) := by decide +kernel
theorem dX6_gather_57 : decode cX6_gather 57 = .ok (.putfield 21, 3) := by decide +kernel
theorem dX6_gather_60 : decode cX6_gather 60 = .ok (.iinc 4 1, 3) := by decide +kernel
theorem dX6_gather_63 : decode cX6_gather 63 = .ok (.goto (-55), 3) := by decide +kernel
theorem dX6_gather_66 : decode cX6_gather 66 = .ok (.return_, 1) := by decide +kernel
theorem dX6_insertTenth_0 : decode cX6_insertTenth 0 = .ok (.aload_n 0, 1) := by decide +kernel
theorem dX6_insertTenth_1 : decode cX6_insertTenth 1 = .ok (.getfield 21, 3) := by decide +kernel
theorem dX6_insertTenth_4 : decode cX6_insertTenth 4 = .ok (.istore_n 2, 1) := by decide +kernel
theorem dX6_insertTenth_5 : decode cX6_insertTenth 5 = .ok (.iload_n 2, 1) := by decide +kernel
theorem dX6_insertTenth_6 : decode cX6_insertTenth 6 = .ok (.ifCond .le 35, 3) := by decide +kernel
theorem dX6_insertTenth_9 : decode cX6_insertTenth 9 = .ok (.aload_n 0, 1) := by decide +kernel
theorem dX6_insertTenth_10 : decode cX6_insertTenth 10 = .ok (.getfield 9, 3) := by decide +kernel
theorem dX6_insertTenth_13 : decode cX6_insertTenth 13 = .ok (.iload_n 2, 1) := by decide +kernel
theorem dX6_insertTenth_14 : decode cX6_insertTenth 14 = .ok (.iconst 1, 1) := by decide +kernel
theorem dX6_insertTenth_15 : decode cX6_insertTenth 15 = .ok (.isub, 1) := by decide +kernel
theorem dX6_insertTenth_16 : decode cX6_insertTenth 16 = .ok (.iaload, 1) := by decide +kernel
theorem dX6_insertTenth_17 : decode cX6_insertTenth 17 = .ok (.iload_n 1, 1) := by decide +kernel
theorem dX6_insertTenth_18 : decode cX6_insertTenth 18 = .ok (.if_icmp .le 23, 3) := by decide +kernel
theorem dX6_insertTenth_21 : decode cX6_insertTenth 21 = .ok (.aload_n 0, 1) := by decide +kernel
theorem dX6_insertTenth_22 : decode cX6_insertTenth 22 = .ok (.getfield 9, 3) := by decide +kernel
theorem dX6_insertTenth_25 : decode cX6_insertTenth 25 = .ok (.iload_n 2, 1) := by decide +kernel
theorem dX6_insertTenth_26 : decode cX6_insertTenth 26 = .ok (.aload_n 0, 1) := by decide +kernel
theorem dX6_insertTenth_27 : decode cX6_insertTenth 27 = .ok (.getfield 9, 3) := by decide +kernel
theorem dX6_insertTenth_30 : decode cX6_insertTenth 30 = .ok (.iload_n 2, 1) := by decide +kernel
theorem dX6_insertTenth_31 : decode cX6_insertTenth 31 = .ok (.iconst 1, 1) := by decide +kernel
theorem dX6_insertTenth_32 : decode cX6_insertTenth 32 = .ok (.isub, 1) := by decide +kernel
theorem dX6_insertTenth_33 : decode cX6_insertTenth 33 = .ok (.iaload, 1) := by decide +kernel
theorem dX6_insertTenth_34 : decode cX6_insertTenth 34 = .ok (.iastore, 1) := by decide +kernel
theorem dX6_insertTenth_35 : decode cX6_insertTenth 35 = .ok (.iinc 2 (-1), 3) := by decide +kernel
theorem dX6_insertTenth_38 : decode cX6_insertTenth 38 = .ok (.goto (-33), 3) := by decide +kernel
theorem dX6_insertTenth_41 : decode cX6_insertTenth 41 = .ok (.aload_n 0, 1) := by decide +kernel
theorem dX6_insertTenth_42 : decode cX6_insertTenth 42 = .ok (.getfield 9, 3) := by decide +kernel
theorem dX6_insertTenth_45 : decode cX6_insertTenth 45 = .ok (.iload_n 2, 1) := by decide +kernel
theorem dX6_insertTenth_46 : decode cX6_insertTenth 46 = .ok (.iload_n 1, 1) := by decide +kernel
theorem dX6_insertTenth_47 : decode cX6_insertTenth 47 = .ok (.iastore, 1) := by decide +kernel
theorem dX6_insertTenth_48 : decode cX6_insertTenth 48 = .ok (.return_, 1) := by decide +kernel
theorem dX6_orders_0 : decode cX6_orders 0 = .ok (.getstatic 42, 3) := by decide +kernel
theorem dX6_orders_3 : decode cX6_orders 3 = .ok (.aload_n 0, 1) := by decide +kernel
theorem dX6_orders_4 : decode cX6_orders 4 = .ok (.getfield 21, 3) := by decide +kernel
theorem dX6_orders_7 : decode cX6_orders 7 = .ok (.iaload, 1) := by decide +kernel
theorem dX6_orders_8 : decode cX6_orders 8 = .ok (.ireturn, 1) := by decide +kernel
theorem dX6_seatBy_0 : decode cX6_seatBy 0 = .ok (.aload_n 0, 1) := by decide +kernel
theorem dX6_seatBy_1 : decode cX6_seatBy 1 = .ok (.getfield 18, 3) := by decide +kernel
theorem dX6_seatBy_4 : decode cX6_seatBy 4 = .ok (.iconst 0, 1) := by decide +kernel
theorem dX6_seatBy_5 : decode cX6_seatBy 5 = .ok (.aload_n 0, 1) := by decide +kernel
theorem dX6_seatBy_6 : decode cX6_seatBy 6 = .ok (.getfield 15, 3) := by decide +kernel
theorem dX6_seatBy_9 : decode cX6_seatBy 9 = .ok (.iconst 0, 1) := by decide +kernel
theorem dX6_seatBy_10 : decode cX6_seatBy 10 = .ok (.aload_n 0, 1) := by decide +kernel
theorem dX6_seatBy_11 : decode cX6_seatBy 11 = .ok (.getfield 21, 3) := by decide +kernel
theorem dX6_seatBy_14 : decode cX6_seatBy 14 = .ok (.invokestatic 45, 3) := by decide +kernel
theorem dX6_seatBy_17 : decode cX6_seatBy 17 = .ok (.iload_n 1, 1) := by decide +kernel
theorem dX6_seatBy_18 : decode cX6_seatBy 18 = .ok (.istore_n 2, 1) := by decide +kernel
theorem dX6_seatBy_19 : decode cX6_seatBy 19 = .ok (.iconst 0, 1) := by decide +kernel
theorem dX6_seatBy_20 : decode cX6_seatBy 20 = .ok (.istore_n 3, 1) := by decide +kernel
theorem dX6_seatBy_21 : decode cX6_seatBy 21 = .ok (.iload_n 3, 1) := by decide +kernel
theorem dX6_seatBy_22 : decode cX6_seatBy 22 = .ok (.aload_n 0, 1) := by decide +kernel
theorem dX6_seatBy_23 : decode cX6_seatBy 23 = .ok (.getfield 21, 3) := by decide +kernel
theorem dX6_seatBy_26 : decode cX6_seatBy 26 = .ok (.if_icmp .ge 39, 3) := by decide +kernel
theorem dX6_seatBy_29 : decode cX6_seatBy 29 = .ok (.getstatic 42, 3) := by decide +kernel
theorem dX6_seatBy_32 : decode cX6_seatBy 32 = .ok (.aload_n 0, 1) := by decide +kernel
theorem dX6_seatBy_33 : decode cX6_seatBy 33 = .ok (.getfield 21, 3) := by decide +kernel
theorem dX6_seatBy_36 : decode cX6_seatBy 36 = .ok (.iconst 1, 1) := by decide +kernel
theorem dX6_seatBy_37 : decode cX6_seatBy 37 = .ok (.isub, 1) := by decide +kernel
theorem dX6_seatBy_38 : decode cX6_seatBy 38 = .ok (.iload_n 3, 1) := by decide +kernel
theorem dX6_seatBy_39 : decode cX6_seatBy 39 = .ok (.isub, 1) := by decide +kernel
theorem dX6_seatBy_40 : decode cX6_seatBy 40 = .ok (.iaload, 1) := by decide +kernel
theorem dX6_seatBy_41 : decode cX6_seatBy 41 = .ok (.istore 4, 2) := by decide +kernel
theorem dX6_seatBy_43 : decode cX6_seatBy 43 = .ok (.aload_n 0, 1) := by decide +kernel
theorem dX6_seatBy_44 : decode cX6_seatBy 44 = .ok (.iload_n 3, 1) := by decide +kernel
theorem dX6_seatBy_45 : decode cX6_seatBy 45 = .ok (.iload_n 2, 1) := by decide +kernel
theorem dX6_seatBy_46 : decode cX6_seatBy 46 = .ok (.iload 4, 2) := by decide +kernel
theorem dX6_seatBy_48 : decode cX6_seatBy 48 = .ok (.idiv, 1) := by decide +kernel
theorem dX6_seatBy_49 : decode cX6_seatBy 49 = .ok (.iadd, 1) := by decide +kernel
theorem dX6_seatBy_50 : decode cX6_seatBy 50 = .ok (.iload_n 3, 1) := by decide +kernel
theorem dX6_seatBy_51 : decode cX6_seatBy 51 = .ok (.invokevirtual 51, 3) := by decide +kernel
theorem dX6_seatBy_54 : decode cX6_seatBy 54 = .ok (.iload_n 2, 1) := by decide +kernel
theorem dX6_seatBy_55 : decode cX6_seatBy 55 = .ok (.iload 4, 2) := by decide +kernel
theorem dX6_seatBy_57 : decode cX6_seatBy 57 = .ok (.irem, 1) := by decide +kernel
theorem dX6_seatBy_58 : decode cX6_seatBy 58 = .ok (.istore_n 2, 1) := by decide +kernel
theorem dX6_seatBy_59 : decode cX6_seatBy 59 = .ok (.iinc 3 1, 3) := by decide +kernel
theorem dX6_seatBy_62 : decode cX6_seatBy 62 = .ok (.goto (-41), 3) := by decide +kernel
theorem dX6_seatBy_65 : decode cX6_seatBy 65 = .ok (.return_, 1) := by decide +kernel
theorem dX6_bringForward_0 : decode cX6_bringForward 0 = .ok (.aload_n 0, 1) := by decide +kernel
theorem dX6_bringForward_1 : decode cX6_bringForward 1 = .ok (.getfield 15, 3) := by decide +kernel
theorem dX6_bringForward_4 : decode cX6_bringForward 4 = .ok (.iload_n 1, 1) := by decide +kernel
theorem dX6_bringForward_5 : decode cX6_bringForward 5 = .ok (.iaload, 1) := by decide +kernel
theorem dX6_bringForward_6 : decode cX6_bringForward 6 = .ok (.istore_n 3, 1) := by decide +kernel
theorem dX6_bringForward_7 : decode cX6_bringForward 7 = .ok (.iload_n 1, 1) := by decide +kernel
theorem dX6_bringForward_8 : decode cX6_bringForward 8 = .ok (.istore 4, 2) := by decide +kernel
theorem dX6_bringForward_10 : decode cX6_bringForward 10 = .ok (.iload 4, 2) := by decide +kernel
theorem dX6_bringForward_12 : decode cX6_bringForward 12 = .ok (.iload_n 2, 1) := by decide +kernel
theorem dX6_bringForward_13 : decode cX6_bringForward 13 = .ok (.if_icmp .le 25, 3) := by decide +kernel
theorem dX6_bringForward_16 : decode cX6_bringForward 16 = .ok (.aload_n 0, 1) := by decide +kernel
theorem dX6_bringForward_17 : decode cX6_bringForward 17 = .ok (.getfield 15, 3) := by decide +kernel
theorem dX6_bringForward_20 : decode cX6_bringForward 20 = .ok (.iload 4, 2) := by decide +kernel
theorem dX6_bringForward_22 : decode cX6_bringForward 22 = .ok (.aload_n 0, 1) := by decide +kernel
theorem dX6_bringForward_23 : decode cX6_bringForward 23 = .ok (.getfield 15, 3) := by decide +kernel
theorem dX6_bringForward_26 : decode cX6_bringForward 26 = .ok (.iload 4, 2) := by decide +kernel
theorem dX6_bringForward_28 : decode cX6_bringForward 28 = .ok (.iconst 1, 1) := by decide +kernel
theorem dX6_bringForward_29 : decode cX6_bringForward 29 = .ok (.isub, 1) := by decide +kernel
theorem dX6_bringForward_30 : decode cX6_bringForward 30 = .ok (.iaload, 1) := by decide +kernel
theorem dX6_bringForward_31 : decode cX6_bringForward 31 = .ok (.iastore, 1) := by decide +kernel
theorem dX6_bringForward_32 : decode cX6_bringForward 32 = .ok (.iinc 4 (-1), 3) := by decide +kernel
theorem dX6_bringForward_35 : decode cX6_bringForward 35 = .ok (.goto (-25), 3) := by decide +kernel
theorem dX6_bringForward_38 : decode cX6_bringForward 38 = .ok (.aload_n 0, 1) := by decide +kernel
theorem dX6_bringForward_39 : decode cX6_bringForward 39 = .ok (.getfield 15, 3) := by decide +kernel
theorem dX6_bringForward_42 : decode cX6_bringForward 42 = .ok (.iload_n 2, 1) := by decide +kernel
theorem dX6_bringForward_43 : decode cX6_bringForward 43 = .ok (.iload_n 3, 1) := by decide +kernel
theorem dX6_bringForward_44 : decode cX6_bringForward 44 = .ok (.iastore, 1) := by decide +kernel
theorem dX6_bringForward_45 : decode cX6_bringForward 45 = .ok (.return_, 1) := by decide +kernel
theorem dX6_giveTenths_0 : decode cX6_giveTenths 0 = .ok (.iconst 0, 1) := by decide +kernel
theorem dX6_giveTenths_1 : decode cX6_giveTenths 1 = .ok (.istore_n 2, 1) := by decide +kernel
theorem dX6_giveTenths_2 : decode cX6_giveTenths 2 = .ok (.iload_n 2, 1) := by decide +kernel
theorem dX6_giveTenths_3 : decode cX6_giveTenths 3 = .ok (.aload_n 0, 1) := by decide +kernel
theorem dX6_giveTenths_4 : decode cX6_giveTenths 4 = .ok (.getfield 21, 3) := by decide +kernel
theorem dX6_giveTenths_7 : decode cX6_giveTenths 7 = .ok (.if_icmp .ge 26, 3) := by decide +kernel
theorem dX6_giveTenths_10 : decode cX6_giveTenths 10 = .ok (.aload_n 1, 1) := by decide +kernel
theorem dX6_giveTenths_11 : decode cX6_giveTenths 11 = .ok (.getfield 33, 3) := by decide +kernel
theorem dX6_giveTenths_14 : decode cX6_giveTenths 14 = .ok (.aload_n 0, 1) := by decide +kernel
theorem dX6_giveTenths_15 : decode cX6_giveTenths 15 = .ok (.getfield 15, 3) := by decide +kernel
theorem dX6_giveTenths_18 : decode cX6_giveTenths 18 = .ok (.iload_n 2, 1) := by decide +kernel
theorem dX6_giveTenths_19 : decode cX6_giveTenths 19 = .ok (.iaload, 1) := by decide +kernel
theorem dX6_giveTenths_20 : decode cX6_giveTenths 20 = .ok (.aload_n 0, 1) := by decide +kernel
theorem dX6_giveTenths_21 : decode cX6_giveTenths 21 = .ok (.getfield 9, 3) := by decide +kernel
theorem dX6_giveTenths_24 : decode cX6_giveTenths 24 = .ok (.iload_n 2, 1) := by decide +kernel
theorem dX6_giveTenths_25 : decode cX6_giveTenths 25 = .ok (.iaload, 1) := by decide +kernel
theorem dX6_giveTenths_26 : decode cX6_giveTenths 26 = .ok (.iastore, 1) := by decide +kernel
theorem dX6_giveTenths_27 : decode cX6_giveTenths 27 = .ok (.iinc 2 1, 3) := by decide +kernel
theorem dX6_giveTenths_30 : decode cX6_giveTenths 30 = .ok (.goto (-28), 3) := by decide +kernel
theorem dX6_giveTenths_33 : decode cX6_giveTenths 33 = .ok (.return_, 1) := by decide +kernel
theorem dX7_init_0 : decode cX7_init 0 = .ok (.aload_n 0, 1) := by decide +kernel
theorem dX7_init_1 : decode cX7_init 1 = .ok (.invokespecial 3, 3) := by decide +kernel
theorem dX7_init_4 : decode cX7_init 4 = .ok (.aload_n 0, 1) := by decide +kernel
theorem dX7_init_5 : decode cX7_init 5 = .ok (.iconst 2, 1) := by decide +kernel
theorem dX7_init_6 : decode cX7_init 6 = .ok (.newarray .int, 2) := by decide +kernel
theorem dX7_init_8 : decode cX7_init 8 = .ok (.putfield 9, 3) := by decide +kernel
theorem dX7_init_11 : decode cX7_init 11 = .ok (.aload_n 0, 1) := by decide +kernel
theorem dX7_init_12 : decode cX7_init 12 = .ok (.iconst 2, 1) := by decide +kernel
theorem dX7_init_13 : decode cX7_init 13 = .ok (.newarray .int, 2) := by decide +kernel
theorem dX7_init_15 : decode cX7_init 15 = .ok (.putfield 15, 3) := by decide +kernel
theorem dX7_init_18 : decode cX7_init 18 = .ok (.aload_n 0, 1) := by decide +kernel
theorem dX7_init_19 : decode cX7_init 19 = .ok (.iconst 2, 1) := by decide +kernel
theorem dX7_init_20 : decode cX7_init 20 = .ok (.newarray .int, 2) := by decide +kernel
theorem dX7_init_22 : decode cX7_init 22 = .ok (.putfield 18, 3) := by decide +kernel
theorem dX7_init_25 : decode cX7_init 25 = .ok (.aload_n 0, 1) := by decide +kernel
theorem dX7_init_26 : decode cX7_init 26 = .ok (.iconst 0, 1) := by decide +kernel
theorem dX7_init_27 : decode cX7_init 27 = .ok (.putfield 21, 3) := by decide +kernel
theorem dX7_init_30 : decode cX7_init 30 = .ok (.aload_n 0, 1) := by decide +kernel
theorem dX7_init_31 : decode cX7_init 31 = .ok (.iconst 0, 1) := by decide +kernel
theorem dX7_init_32 : decode cX7_init 32 = .ok (.putfield 25, 3) := by decide +kernel
theorem dX7_init_35 : decode cX7_init 35 = .ok (.aload_n 0, 1) := by decide +kernel
theorem dX7_init_36 : decode cX7_init 36 = .ok (.iconst 0, 1) := by decide +kernel
theorem dX7_init_37 : decode cX7_init 37 = .ok (.putfield 28, 3) := by decide +kernel
theorem dX7_init_40 : decode cX7_init 40 = .ok (.aload_n 0, 1) := by decide +kernel
theorem dX7_init_41 : decode cX7_init 41 = .ok (.iconst 0, 1) := by decide +kernel
theorem dX7_init_42 : decode cX7_init 42 = .ok (.putfield 31, 3) := by decide +kernel
theorem dX7_init_45 : decode cX7_init 45 = .ok (.aload_n 0, 1) := by decide +kernel
theorem dX7_init_46 : decode cX7_init 46 = .ok (.iconst 0, 1) := by decide +kernel
theorem dX7_init_47 : decode cX7_init 47 = .ok (.putfield 34, 3) := by decide +kernel
theorem dX7_init_50 : decode cX7_init 50 = .ok (.return_, 1) := by decide +kernel
theorem dX7_rest_0 : decode cX7_rest 0 = .ok (.aload_n 0, 1) := by decide +kernel
theorem dX7_rest_1 : decode cX7_rest 1 = .ok (.getfield 9, 3) := by decide +kernel
theorem dX7_rest_4 : decode cX7_rest 4 = .ok (.iconst 0, 1) := by decide +kernel
theorem dX7_rest_5 : decode cX7_rest 5 = .ok (.invokestatic 37, 3) := by decide +kernel
theorem dX7_rest_8 : decode cX7_rest 8 = .ok (.aload_n 0, 1) := by decide +kernel
theorem dX7_rest_9 : decode cX7_rest 9 = .ok (.getfield 15, 3) := by decide +kernel
theorem dX7_rest_12 : decode cX7_rest 12 = .ok (.iconst 0, 1) := by decide +kernel
theorem dX7_rest_13 : decode cX7_rest 13 = .ok (.invokestatic 37, 3) := by decide +kernel
theorem dX7_rest_16 : decode cX7_rest 16 = .ok (.aload_n 0, 1) := by decide +kernel
theorem dX7_rest_17 : decode cX7_rest 17 = .ok (.getfield 18, 3) := by decide +kernel
theorem dX7_rest_20 : decode cX7_rest 20 = .ok (.iconst (-1), 1) := by decide +kernel
theorem dX7_rest_21 : decode cX7_rest 21 = .ok (.invokestatic 37, 3) := by decide +kernel
theorem dX7_rest_24 : decode cX7_rest 24 = .ok (.aload_n 0, 1) := by decide +kernel
theorem dX7_rest_25 : decode cX7_rest 25 = .ok (.iconst 0, 1) := by decide +kernel
theorem dX7_rest_26 : decode cX7_rest 26 = .ok (.putfield 21, 3) := by decide +kernel
theorem dX7_rest_29 : decode cX7_rest 29 = .ok (.aload_n 0, 1) := by decide +kernel
theorem dX7_rest_30 : decode cX7_rest 30 = .ok (.iconst 0, 1) := by decide +kernel
theorem dX7_rest_31 : decode cX7_rest 31 = .ok (.putfield 25, 3) := by decide +kernel
theorem dX7_rest_34 : decode cX7_rest 34 = .ok (.aload_n 0, 1) := by decide +kernel
theorem dX7_rest_35 : decode cX7_rest 35 = .ok (.iconst 0, 1) := by decide +kernel
theorem dX7_rest_36 : decode cX7_rest 36 = .ok (.putfield 28, 3) := by decide +kernel
theorem dX7_rest_39 : decode cX7_rest 39 = .ok (.aload_n 0, 1) := by decide +kernel
theorem dX7_rest_40 : decode cX7_rest 40 = .ok (.iconst 0, 1) := by decide +kernel
theorem dX7_rest_41 : decode cX7_rest 41 = .ok (.putfield 31, 3) := by decide +kernel
theorem dX7_rest_44 : decode cX7_rest 44 = .ok (.aload_n 0, 1) := by decide +kernel
theorem dX7_rest_45 : decode cX7_rest 45 = .ok (.iconst 0, 1) := by decide +kernel
theorem dX7_rest_46 : decode cX7_rest 46 = .ok (.putfield 34, 3) := by decide +kernel
theorem dX7_rest_49 : decode cX7_rest 49 = .ok (.return_, 1) := by decide +kernel
theorem dX7_busyFor_0 : decode cX7_busyFor 0 = .ok (.aload_n 0, 1) := by decide +kernel
theorem dX7_busyFor_1 : decode cX7_busyFor 1 = .ok (.getfield 9, 3) := by decide +kernel
theorem dX7_busyFor_4 : decode cX7_busyFor 4 = .ok (.iload_n 1, 1) := by decide +kernel
theorem dX7_busyFor_5 : decode cX7_busyFor 5 = .ok (.iaload, 1) := by decide +kernel
theorem dX7_busyFor_6 : decode cX7_busyFor 6 = .ok (.iload_n 2, 1) := by decide +kernel
theorem dX7_busyFor_7 : decode cX7_busyFor 7 = .ok (.if_icmp .gt 17, 3) := by decide +kernel
theorem dX7_busyFor_10 : decode cX7_busyFor 10 = .ok (.iload_n 2, 1) := by decide +kernel
theorem dX7_busyFor_11 : decode cX7_busyFor 11 = .ok (.aload_n 0, 1) := by decide +kernel
theorem dX7_busyFor_12 : decode cX7_busyFor 12 = .ok (.getfield 15, 3) := by decide +kernel
theorem dX7_busyFor_15 : decode cX7_busyFor 15 = .ok (.iload_n 1, 1) := by decide +kernel
theorem dX7_busyFor_16 : decode cX7_busyFor 16 = .ok (.iaload, 1) := by decide +kernel
theorem dX7_busyFor_17 : decode cX7_busyFor 17 = .ok (.if_icmp .ge 7, 3) := by decide +kernel
theorem dX7_busyFor_20 : decode cX7_busyFor 20 = .ok (.iconst 1, 1) := by decide +kernel
theorem dX7_busyFor_21 : decode cX7_busyFor 21 = .ok (.goto 4, 3) := by decide +kernel
theorem dX7_busyFor_24 : decode cX7_busyFor 24 = .ok (.iconst 0, 1) := by decide +kernel
theorem dX7_busyFor_25 : decode cX7_busyFor 25 = .ok (.ireturn, 1) := by decide +kernel
theorem dX7_openAt_0 : decode cX7_openAt 0 = .ok (.aload_n 0, 1) := by decide +kernel
theorem dX7_openAt_1 : decode cX7_openAt 1 = .ok (.getfield 21, 3) := by decide +kernel
theorem dX7_openAt_4 : decode cX7_openAt 4 = .ok (.iload_n 1, 1) := by decide +kernel
theorem dX7_openAt_5 : decode cX7_openAt 5 = .ok (.if_icmp .gt 15, 3) := by decide +kernel
theorem dX7_openAt_8 : decode cX7_openAt 8 = .ok (.iload_n 1, 1) := by decide +kernel
theorem dX7_openAt_9 : decode cX7_openAt 9 = .ok (.aload_n 0, 1) := by decide +kernel
theorem dX7_openAt_10 : decode cX7_openAt 10 = .ok (.getfield 25, 3) := by decide +kernel
theorem dX7_openAt_13 : decode cX7_openAt 13 = .ok (.if_icmp .ge 7, 3) := by decide +kernel
theorem dX7_openAt_16 : decode cX7_openAt 16 = .ok (.iconst 1, 1) := by decide +kernel
theorem dX7_openAt_17 : decode cX7_openAt 17 = .ok (.goto 4, 3) := by decide +kernel
theorem dX7_openAt_20 : decode cX7_openAt 20 = .ok (.iconst 0, 1) := by decide +kernel
theorem dX7_openAt_21 : decode cX7_openAt 21 = .ok (.ireturn, 1) := by decide +kernel
theorem dX7_comesBackAt_0 : decode cX7_comesBackAt 0 = .ok (.aload_n 0, 1) := by decide +kernel
theorem dX7_comesBackAt_1 : decode cX7_comesBackAt 1 = .ok (.getfield 25, 3) := by decide +kernel
theorem dX7_comesBackAt_4 : decode cX7_comesBackAt 4 = .ok (.iload_n 1, 1) := by decide +kernel
theorem dX7_comesBackAt_5 : decode cX7_comesBackAt 5 = .ok (.if_icmp .gt 15, 3) := by decide +kernel
theorem dX7_comesBackAt_8 : decode cX7_comesBackAt 8 = .ok (.iload_n 1, 1) := by decide +kernel
theorem dX7_comesBackAt_9 : decode cX7_comesBackAt 9 = .ok (.aload_n 0, 1) := by decide +kernel
theorem dX7_comesBackAt_10 : decode cX7_comesBackAt 10 = .ok (.getfield 28, 3) := by decide +kernel
theorem dX7_comesBackAt_13 : decode cX7_comesBackAt 13 = .ok (.if_icmp .ge 7, 3) := by decide +kernel
theorem dX7_comesBackAt_16 : decode cX7_comesBackAt 16 = .ok (.iconst 1, 1) := by decide +kernel
theorem dX7_comesBackAt_17 : decode cX7_comesBackAt 17 = .ok (.goto 4, 3) := by decide +kernel
theorem dX7_comesBackAt_20 : decode cX7_comesBackAt 20 = .ok (.iconst 0, 1) := by decide +kernel
theorem dX7_comesBackAt_21 : decode cX7_comesBackAt 21 = .ok (.ireturn, 1) := by decide +kernel
theorem dX7_letThrough_0 : decode cX7_letThrough 0 = .ok (.aload_n 0, 1) := by decide +kernel
theorem dX7_letThrough_1 : decode cX7_letThrough 1 = .ok (.getfield 15, 3) := by decide +kernel
theorem dX7_letThrough_4 : decode cX7_letThrough 4 = .ok (.iload_n 2, 1) := by decide +kernel
theorem dX7_letThrough_5 : decode cX7_letThrough 5 = .ok (.iaload, 1) := by decide +kernel
theorem dX7_letThrough_6 : decode cX7_letThrough 6 = .ok (.iload_n 3, 1) := by decide +kernel
theorem dX7_letThrough_7 : decode cX7_letThrough 7 = .ok (.if_icmp .gt 21, 3) := by decide +kernel
theorem dX7_letThrough_10 : decode cX7_letThrough 10 = .ok (.aload_n 0, 1) := by decide +kernel
theorem dX7_letThrough_11 : decode cX7_letThrough 11 = .ok (.getfield 9, 3) := by decide +kernel
theorem dX7_letThrough_14 : decode cX7_letThrough 14 = .ok (.iload_n 2, 1) := by decide +kernel
theorem dX7_letThrough_15 : decode cX7_letThrough 15 = .ok (.iload_n 3, 1) := by decide +kernel
theorem dX7_letThrough_16 : decode cX7_letThrough 16 = .ok (.iastore, 1) := by decide +kernel
theorem dX7_letThrough_17 : decode cX7_letThrough 17 = .ok (.aload_n 0, 1) := by decide +kernel
theorem dX7_letThrough_18 : decode cX7_letThrough 18 = .ok (.getfield 15, 3) := by decide +kernel
theorem dX7_letThrough_21 : decode cX7_letThrough 21 = .ok (.iload_n 2, 1) := by decide +kernel
theorem dX7_letThrough_22 : decode cX7_letThrough 22 = .ok (.iload 4, 2) := by decide +kernel
theorem dX7_letThrough_24 : decode cX7_letThrough 24 = .ok (.iastore, 1) := by decide +kernel
theorem dX7_letThrough_25 : decode cX7_letThrough 25 = .ok (.goto 36, 3) := by decide +kernel
theorem dX7_letThrough_28 : decode cX7_letThrough 28 = .ok (.aload_n 0, 1) := by decide +kernel
theorem dX7_letThrough_29 : decode cX7_letThrough 29 = .ok (.getfield 9, 3) := by decide +kernel
theorem dX7_letThrough_32 : decode cX7_letThrough 32 = .ok (.iload_n 2, 1) := by decide +kernel
theorem dX7_letThrough_33 : decode cX7_letThrough 33 = .ok (.aload_n 0, 1) := by decide +kernel
theorem dX7_letThrough_34 : decode cX7_letThrough 34 = .ok (.getfield 9, 3) := by decide +kernel
theorem dX7_letThrough_37 : decode cX7_letThrough 37 = .ok (.iload_n 2, 1) := by decide +kernel
theorem dX7_letThrough_38 : decode cX7_letThrough 38 = .ok (.iaload, 1) := by decide +kernel
theorem dX7_letThrough_39 : decode cX7_letThrough 39 = .ok (.iload_n 3, 1) := by decide +kernel
theorem dX7_letThrough_40 : decode cX7_letThrough 40 = .ok (.invokestatic 43, 3) := by decide +kernel
theorem dX7_letThrough_43 : decode cX7_letThrough 43 = .ok (.iastore, 1) := by decide +kernel
theorem dX7_letThrough_44 : decode cX7_letThrough 44 = .ok (.aload_n 0, 1) := by decide +kernel
theorem dX7_letThrough_45 : decode cX7_letThrough 45 = .ok (.getfield 15, 3) := by decide +kernel
theorem dX7_letThrough_48 : decode cX7_letThrough 48 = .ok (.iload_n 2, 1) := by decide +kernel
theorem dX7_letThrough_49 : decode cX7_letThrough 49 = .ok (.aload_n 0, 1) := by decide +kernel
theorem dX7_letThrough_50 : decode cX7_letThrough 50 = .ok (.getfield 15, 3) := by decide +kernel
theorem dX7_letThrough_53 : decode cX7_letThrough 53 = .ok (.iload_n 2, 1) := by decide +kernel
theorem dX7_letThrough_54 : decode cX7_letThrough 54 = .ok (.iaload, 1) := by decide +kernel
theorem dX7_letThrough_55 : decode cX7_letThrough 55 = .ok (.iload 4, 2) := by decide +kernel
theorem dX7_letThrough_57 : decode cX7_letThrough 57 = .ok (.invokestatic 49, 3) := by decide +kernel
theorem dX7_letThrough_60 : decode cX7_letThrough 60 = .ok (.iastore, 1) := by decide +kernel
theorem dX7_letThrough_61 : decode cX7_letThrough 61 = .ok (.aload_n 0, 1) := by decide +kernel
theorem dX7_letThrough_62 : decode cX7_letThrough 62 = .ok (.getfield 18, 3) := by decide +kernel
theorem dX7_letThrough_65 : decode cX7_letThrough 65 = .ok (.iload_n 2, 1) := by decide +kernel
theorem dX7_letThrough_66 : decode cX7_letThrough 66 = .ok (.iload_n 1, 1) := by decide +kernel
theorem dX7_letThrough_67 : decode cX7_letThrough 67 = .ok (.iastore, 1) := by decide +kernel
theorem dX7_letThrough_68 : decode cX7_letThrough 68 = .ok (.return_, 1) := by decide +kernel
theorem dX7_takeKick_0 : decode cX7_takeKick 0 = .ok (.aload_n 0, 1) := by decide +kernel
theorem dX7_takeKick_1 : decode cX7_takeKick 1 = .ok (.iload_n 1, 1) := by decide +kernel
theorem dX7_takeKick_2 : decode cX7_takeKick 2 = .ok (.putfield 21, 3) := by decide +kernel
theorem dX7_takeKick_5 : decode cX7_takeKick 5 = .ok (.aload_n 0, 1) := by decide +kernel
theorem dX7_takeKick_6 : decode cX7_takeKick 6 = .ok (.iload_n 1, 1) := by decide +kernel
theorem dX7_takeKick_7 : decode cX7_takeKick 7 = .ok (.iload_n 2, 1) := by decide +kernel
theorem dX7_takeKick_8 : decode cX7_takeKick 8 = .ok (.iadd, 1) := by decide +kernel
theorem dX7_takeKick_9 : decode cX7_takeKick 9 = .ok (.putfield 25, 3) := by decide +kernel
theorem dX7_takeKick_12 : decode cX7_takeKick 12 = .ok (.aload_n 0, 1) := by decide +kernel
theorem dX7_takeKick_13 : decode cX7_takeKick 13 = .ok (.aload_n 0, 1) := by decide +kernel
theorem dX7_takeKick_14 : decode cX7_takeKick 14 = .ok (.getfield 25, 3) := by decide +kernel
theorem dX7_takeKick_17 : decode cX7_takeKick 17 = .ok (.iload_n 3, 1) := by decide +kernel
theorem dX7_takeKick_18 : decode cX7_takeKick 18 = .ok (.iadd, 1) := by decide +kernel
theorem dX7_takeKick_19 : decode cX7_takeKick 19 = .ok (.putfield 28, 3) := by decide +kernel
theorem dX7_takeKick_22 : decode cX7_takeKick 22 = .ok (.aload_n 0, 1) := by decide +kernel
theorem dX7_takeKick_23 : decode cX7_takeKick 23 = .ok (.dup, 1) := by decide +kernel
theorem dX7_takeKick_24 : decode cX7_takeKick 24 = .ok (.getfield 34, 3) := by decide +kernel
theorem dX7_takeKick_27 : decode cX7_takeKick 27 = .ok (.iconst 1, 1) := by decide +kernel
theorem dX7_takeKick_28 : decode cX7_takeKick 28 = .ok (.iadd, 1) := by decide +kernel
theorem dX7_takeKick_29 : decode cX7_takeKick 29 = .ok (.putfield 34, 3) := by decide +kernel
theorem dX7_takeKick_32 : decode cX7_takeKick 32 = .ok (.return_, 1) := by decide +kernel
theorem dX7_doing_0 : decode cX7_doing 0 = .ok (.aload_n 0, 1) := by decide +kernel
theorem dX7_doing_1 : decode cX7_doing 1 = .ok (.iconst 0, 1) := by decide +kernel
theorem dX7_doing_2 : decode cX7_doing 2 = .ok (.iload_n 1, 1) := by decide +kernel
theorem dX7_doing_3 : decode cX7_doing 3 = .ok (.invokevirtual 52, 3) := by decide +kernel
theorem dX7_doing_6 : decode cX7_doing 6 = .ok (.ifCond .ne 12, 3) := by decide +kernel
theorem dX7_doing_9 : decode cX7_doing 9 = .ok (.aload_n 0, 1) := by decide +kernel
theorem dX7_doing_10 : decode cX7_doing 10 = .ok (.iconst 1, 1) := by decide +kernel
theorem dX7_doing_11 : decode cX7_doing 11 = .ok (.iload_n 1, 1) := by decide +kernel
theorem dX7_doing_12 : decode cX7_doing 12 = .ok (.invokevirtual 52, 3) := by decide +kernel
theorem dX7_doing_15 : decode cX7_doing 15 = .ok (.ifCond .eq 5, 3) := by decide +kernel
theorem dX7_doing_18 : decode cX7_doing 18 = .ok (.iconst 1, 1) := by decide +kernel
theorem dX7_doing_19 : decode cX7_doing 19 = .ok (.ireturn, 1) := by decide +kernel
theorem dX7_doing_20 : decode cX7_doing 20 = .ok (.aload_n 0, 1) := by decide +kernel
theorem dX7_doing_21 : decode cX7_doing 21 = .ok (.iload_n 1, 1) := by decide +kernel
theorem dX7_doing_22 : decode cX7_doing 22 = .ok (.invokevirtual 56, 3) := by decide +kernel
theorem dX7_doing_25 : decode cX7_doing 25 = .ok (.ifCond .eq 5, 3) := by decide +kernel
theorem dX7_doing_28 : decode cX7_doing 28 = .ok (.iconst 2, 1) := by decide +kernel
theorem dX7_doing_29 : decode cX7_doing 29 = .ok (.ireturn, 1) := by decide +kernel
theorem dX7_doing_30 : decode cX7_doing 30 = .ok (.aload_n 0, 1) := by decide +kernel
theorem dX7_doing_31 : decode cX7_doing 31 = .ok (.iload_n 1, 1) := by decide +kernel
theorem dX7_doing_32 : decode cX7_doing 32 = .ok (.invokevirtual 60, 3) := by decide +kernel
theorem dX7_doing_35 : decode cX7_doing 35 = .ok (.ifCond .eq 7, 3) := by decide +kernel
theorem dX7_doing_38 : decode cX7_doing 38 = .ok (.iconst 3, 1) := by decide +kernel
theorem dX7_doing_39 : decode cX7_doing 39 = .ok (.goto 4, 3) := by decide +kernel
theorem dX7_doing_42 : decode cX7_doing 42 = .ok (.iconst 0, 1) := by decide +kernel
theorem dX7_doing_43 : decode cX7_doing 43 = .ok (.ireturn, 1) := by decide +kernel
theorem dX8_init_0 : decode cX8_init 0 = .ok (.aload_n 0, 1) := by decide +kernel
theorem dX8_init_1 : decode cX8_init 1 = .ok (.invokespecial 3, 3) := by decide +kernel
theorem dX8_init_4 : decode cX8_init 4 = .ok (.aload_n 0, 1) := by decide +kernel
theorem dX8_init_5 : decode cX8_init 5 = .ok (.new 9, 3) := by decide +kernel
theorem dX8_init_8 : decode cX8_init 8 = .ok (.dup, 1) := by decide +kernel
theorem dX8_init_9 : decode cX8_init 9 = .ok (.invokespecial 11, 3) := by decide +kernel
theorem dX8_init_12 : decode cX8_init 12 = .ok (.putfield 12, 3) := by decide +kernel
theorem dX8_init_15 : decode cX8_init 15 = .ok (.aload_n 0, 1) := by decide +kernel
theorem dX8_init_16 : decode cX8_init 16 = .ok (.new 18, 3) := by decide +kernel
theorem dX8_init_19 : decode cX8_init 19 = .ok (.dup, 1) := by decide +kernel
theorem dX8_init_20 : decode cX8_init 20 = .ok (.invokespecial 20, 3) := by decide +kernel
theorem dX8_init_23 : decode cX8_init 23 = .ok (.putfield 21, 3) := by decide +kernel
theorem dX8_init_26 : decode cX8_init 26 = .ok (.aload_n 0, 1) := by decide +kernel
theorem dX8_init_27 : decode cX8_init 27 = .ok (.iconst 0, 1) := by decide +kernel
theorem dX8_init_28 : decode cX8_init 28 = .ok (.putfield 25, 3) := by decide +kernel
theorem dX8_init_31 : decode cX8_init 31 = .ok (.aload_n 0, 1) := by decide +kernel
theorem dX8_init_32 : decode cX8_init 32 = .ok (.iconst 0, 1) := by decide +kernel
theorem dX8_init_33 : decode cX8_init 33 = .ok (.putfield 29, 3) := by decide +kernel
theorem dX8_init_36 : decode cX8_init 36 = .ok (.aload_n 0, 1) := by decide +kernel
theorem dX8_init_37 : decode cX8_init 37 = .ok (.aload_n 1, 1) := by decide +kernel
theorem dX8_init_38 : decode cX8_init 38 = .ok (.putfield 32, 3) := by decide +kernel
theorem dX8_init_41 : decode cX8_init 41 = .ok (.aload_n 0, 1) := by decide +kernel
theorem dX8_init_42 : decode cX8_init 42 = .ok (.aload_n 2, 1) := by decide +kernel
theorem dX8_init_43 : decode cX8_init 43 = .ok (.putfield 36, 3) := by decide +kernel
theorem dX8_init_46 : decode cX8_init 46 = .ok (.aload_n 0, 1) := by decide +kernel
theorem dX8_init_47 : decode cX8_init 47 = .ok (.aload_n 3, 1) := by decide +kernel
theorem dX8_init_48 : decode cX8_init 48 = .ok (.putfield 39, 3) := by decide +kernel
theorem dX8_init_51 : decode cX8_init 51 = .ok (.return_, 1) := by decide +kernel
theorem dX8_startSearch_0 : decode cX8_startSearch 0 = .ok (.aload_n 0, 1) := by decide +kernel
theorem dX8_startSearch_1 : decode cX8_startSearch 1 = .ok (.getfield 12, 3) := by decide +kernel
theorem dX8_startSearch_4 : decode cX8_startSearch 4 = .ok (.aload_n 0, 1) := by decide +kernel
theorem dX8_startSearch_5 : decode cX8_startSearch 5 = .ok (.getfield 36, 3) := by decide +kernel
theorem dX8_startSearch_8 : decode cX8_startSearch 8 = .ok (.invokevirtual 43, 3) := by decide +kernel
theorem dX8_startSearch_11 : decode cX8_startSearch 11 = .ok (.aload_n 0, 1) := by decide +kernel
theorem dX8_startSearch_12 : decode cX8_startSearch 12 = .ok (.ldc 47, 2) := by decide +kernel
theorem dX8_startSearch_14 : decode cX8_startSearch 14 = .ok (.putfield 29, 3) := by decide +kernel
theorem dX8_startSearch_17 : decode cX8_startSearch 17 = .ok (.return_, 1) := by decide +kernel
theorem dX8_weigh_0 : decode cX8_weigh 0 = .ok (.aload_n 0, 1) := by decide +kernel
theorem dX8_weigh_1 : decode cX8_weigh 1 = .ok (.getfield 39, 3) := by decide +kernel
theorem dX8_weigh_4 : decode cX8_weigh 4 = .ok (.aload_n 0, 1) := by decide +kernel
theorem dX8_weigh_5 : decode cX8_weigh 5 = .ok (.getfield 12, 3) := by decide +kernel
theorem dX8_weigh_8 : decode cX8_weigh 8 = .ok (.invokevirtual 48, 3) := by decide +kernel
theorem dX8_weigh_11 : decode cX8_weigh 11 = .ok (.aload_n 0, 1) := by decide +kernel
theorem dX8_weigh_12 : decode cX8_weigh 12 = .ok (.getfield 39, 3) := by decide +kernel
theorem dX8_weigh_15 : decode cX8_weigh 15 = .ok (.invokevirtual 53, 3) := by decide +kernel
theorem dX8_weigh_18 : decode cX8_weigh 18 = .ok (.istore_n 2, 1) := by decide +kernel
theorem dX8_weigh_19 : decode cX8_weigh 19 = .ok (.iload_n 2, 1) := by decide +kernel
theorem dX8_weigh_20 : decode cX8_weigh 20 = .ok (.aload_n 0, 1) := by decide +kernel
theorem dX8_weigh_21 : decode cX8_weigh 21 = .ok (.getfield 29, 3) := by decide +kernel
theorem dX8_weigh_24 : decode cX8_weigh 24 = .ok (.if_icmp .ge 13, 3) := by decide +kernel
theorem dX8_weigh_27 : decode cX8_weigh 27 = .ok (.aload_n 0, 1) := by decide +kernel
theorem dX8_weigh_28 : decode cX8_weigh 28 = .ok (.iload_n 1, 1) := by decide +kernel
theorem dX8_weigh_29 : decode cX8_weigh 29 = .ok (.putfield 25, 3) := by decide +kernel
theorem dX8_weigh_32 : decode cX8_weigh 32 = .ok (.aload_n 0, 1) := by decide +kernel
theorem dX8_weigh_33 : decode cX8_weigh 33 = .ok (.iload_n 2, 1) := by decide +kernel
theorem dX8_weigh_34 : decode cX8_weigh 34 = .ok (.putfield 29, 3) := by decide +kernel
theorem dX8_weigh_37 : decode cX8_weigh 37 = .ok (.return_, 1) := by decide +kernel
theorem dX8_trialCost_0 : decode cX8_trialCost 0 = .ok (.aload_n 0, 1) := by decide +kernel
theorem dX8_trialCost_1 : decode cX8_trialCost 1 = .ok (.getfield 39, 3) := by decide +kernel
theorem dX8_trialCost_4 : decode cX8_trialCost 4 = .ok (.aload_n 0, 1) := by decide +kernel
theorem dX8_trialCost_5 : decode cX8_trialCost 5 = .ok (.getfield 12, 3) := by decide +kernel
theorem dX8_trialCost_8 : decode cX8_trialCost 8 = .ok (.invokevirtual 48, 3) := by decide +kernel
theorem dX8_trialCost_11 : decode cX8_trialCost 11 = .ok (.aload_n 0, 1) := by decide +kernel
theorem dX8_trialCost_12 : decode cX8_trialCost 12 = .ok (.getfield 39, 3) := by decide +kernel
theorem dX8_trialCost_15 : decode cX8_trialCost 15 = .ok (.invokevirtual 53, 3) := by decide +kernel
theorem dX8_trialCost_18 : decode cX8_trialCost 18 = .ok (.ireturn, 1) := by decide +kernel
theorem dX8_allBy_0 : decode cX8_allBy 0 = .ok (.aload_n 0, 1) := by decide +kernel
theorem dX8_allBy_1 : decode cX8_allBy 1 = .ok (.getfield 12, 3) := by decide +kernel
theorem dX8_allBy_4 : decode cX8_allBy 4 = .ok (.aload_n 0, 1) := by decide +kernel
theorem dX8_allBy_5 : decode cX8_allBy 5 = .ok (.getfield 36, 3) := by decide +kernel
theorem dX8_allBy_8 : decode cX8_allBy 8 = .ok (.invokevirtual 43, 3) := by decide +kernel
theorem dX8_allBy_11 : decode cX8_allBy 11 = .ok (.aload_n 0, 1) := by decide +kernel
theorem dX8_allBy_12 : decode cX8_allBy 12 = .ok (.getfield 12, 3) := by decide +kernel
theorem dX8_allBy_15 : decode cX8_allBy 15 = .ok (.getfield 57, 3) := by decide +kernel
theorem dX8_allBy_18 : decode cX8_allBy 18 = .ok (.iload_n 1, 1) := by decide +kernel
theorem dX8_allBy_19 : decode cX8_allBy 19 = .ok (.invokestatic 61, 3) := by decide +kernel
theorem dX8_allBy_22 : decode cX8_allBy 22 = .ok (.aload_n 0, 1) := by decide +kernel
theorem dX8_allBy_23 : decode cX8_allBy 23 = .ok (.invokevirtual 67, 3) := by decide +kernel
theorem dX8_allBy_26 : decode cX8_allBy 26 = .ok (.ireturn, 1) := by decide +kernel
theorem dX8_bestRules_0 : decode cX8_bestRules 0 = .ok (.aload_n 0, 1) := by decide +kernel
theorem dX8_bestRules_1 : decode cX8_bestRules 1 = .ok (.invokevirtual 70, 3) := by decide +kernel
theorem dX8_bestRules_4 : decode cX8_bestRules 4 = .ok (.iconst 1, 1) := by decide +kernel
theorem dX8_bestRules_5 : decode cX8_bestRules 5 = .ok (.istore_n 2, 1) := by decide +kernel
theorem dX8_bestRules_6 : decode cX8_bestRules 6 = .ok (.iconst 0, 1) := by decide +kernel
theorem dX8_bestRules_7 : decode cX8_bestRules 7 = .ok (.istore_n 3, 1) := by decide +kernel
theorem dX8_bestRules_8 : decode cX8_bestRules 8 = .ok (.iload_n 3, 1) := by decide +kernel
theorem dX8_bestRules_9 : decode cX8_bestRules 9 = .ok (.aload_n 0, 1) := by decide +kernel
theorem dX8_bestRules_10 : decode cX8_bestRules 10 = .ok (.getfield 32, 3) := by decide +kernel
theorem dX8_bestRules_13 : decode cX8_bestRules 13 = .ok (.getfield 73, 3) := by decide +kernel
theorem dX8_bestRules_16 : decode cX8_bestRules 16 = .ok (.if_icmp .ge 13, 3) := by decide +kernel
theorem dX8_bestRules_19 : decode cX8_bestRules 19 = .ok (.iload_n 2, 1) := by decide +kernel
theorem dX8_bestRules_20 : decode cX8_bestRules 20 = .ok (.iconst 3, 1) := by decide +kernel
theorem dX8_bestRules_21 : decode cX8_bestRules 21 = .ok (.imul, 1) := by decide +kernel
theorem dX8_bestRules_22 : decode cX8_bestRules 22 = .ok (.istore_n 2, 1) := by decide +kernel
theorem dX8_bestRules_23 : decode cX8_bestRules 23 = .ok (.iinc 3 1, 3) := by decide +kernel
theorem dX8_bestRules_26 : decode cX8_bestRules 26 = .ok (.goto (-18), 3) := by decide +kernel
theorem dX8_bestRules_29 : decode cX8_bestRules 29 = .ok (.iconst 0, 1) := by decide +kernel
theorem dX8_bestRules_30 : decode cX8_bestRules 30 = .ok (.istore_n 3, 1) := by decide +kernel
theorem dX8_bestRules_31 : decode cX8_bestRules 31 = .ok (.iload_n 3, 1) := by decide +kernel
theorem dX8_bestRules_32 : decode cX8_bestRules 32 = .ok (.iload_n 2, 1) := by decide +kernel
theorem dX8_bestRules_33 : decode cX8_bestRules 33 = .ok (.if_icmp .ge 26, 3) := by decide +kernel
theorem dX8_bestRules_36 : decode cX8_bestRules 36 = .ok (.aload_n 0, 1) := by decide +kernel
theorem dX8_bestRules_37 : decode cX8_bestRules 37 = .ok (.getfield 29, 3) := by decide +kernel
theorem dX8_bestRules_40 : decode cX8_bestRules 40 = .ok (.ifCond .le 19, 3) := by decide +kernel
theorem dX8_bestRules_43 : decode cX8_bestRules 43 = .ok (.aload_n 0, 1) := by decide +kernel
theorem dX8_bestRules_44 : decode cX8_bestRules 44 = .ok (.iload_n 3, 1) := by decide +kernel
theorem dX8_bestRules_45 : decode cX8_bestRules 45 = .ok (.invokevirtual 78, 3) := by decide +kernel
theorem dX8_bestRules_48 : decode cX8_bestRules 48 = .ok (.aload_n 0, 1) := by decide +kernel
theorem dX8_bestRules_49 : decode cX8_bestRules 49 = .ok (.iload_n 3, 1) := by decide +kernel
theorem dX8_bestRules_50 : decode cX8_bestRules 50 = .ok (.invokevirtual 82, 3) := by decide +kernel
theorem dX8_bestRules_53 : decode cX8_bestRules 53 = .ok (.iinc 3 1, 3) := by decide +kernel
theorem dX8_bestRules_56 : decode cX8_bestRules 56 = .ok (.goto (-25), 3) := by decide +kernel
theorem dX8_bestRules_59 : decode cX8_bestRules 59 = .ok (.aload_n 0, 1) := by decide +kernel
theorem dX8_bestRules_60 : decode cX8_bestRules 60 = .ok (.aload_n 0, 1) := by decide +kernel
theorem dX8_bestRules_61 : decode cX8_bestRules 61 = .ok (.getfield 25, 3) := by decide +kernel
theorem dX8_bestRules_64 : decode cX8_bestRules 64 = .ok (.invokevirtual 78, 3) := by decide +kernel
theorem dX8_bestRules_67 : decode cX8_bestRules 67 = .ok (.iload_n 1, 1) := by decide +kernel
theorem dX8_bestRules_68 : decode cX8_bestRules 68 = .ok (.ifCond .lt 21, 3) := by decide +kernel
theorem dX8_bestRules_71 : decode cX8_bestRules 71 = .ok (.iload_n 1, 1) := by decide +kernel
theorem dX8_bestRules_72 : decode cX8_bestRules 72 = .ok (.bipush 6, 2) := by decide +kernel
theorem dX8_bestRules_74 : decode cX8_bestRules 74 = .ok (.if_icmp .ge 15, 3) := by decide +kernel
theorem dX8_bestRules_77 : decode cX8_bestRules 77 = .ok (.aload_n 0, 1) := by decide +kernel
theorem dX8_bestRules_78 : decode cX8_bestRules 78 = .ok (.getfield 12, 3) := by decide +kernel
theorem dX8_bestRules_81 : decode cX8_bestRules 81 = .ok (.getfield 57, 3) := by decide +kernel
theorem dX8_bestRules_84 : decode cX8_bestRules 84 = .ok (.iload_n 1, 1) := by decide +kernel
theorem dX8_bestRules_85 : decode cX8_bestRules 85 = .ok (.iaload, 1) := by decide +kernel
theorem dX8_bestRules_86 : decode cX8_bestRules 86 = .ok (.goto 7, 3) := by decide +kernel
theorem dX8_bestRules_89 : decode cX8_bestRules 89 = .ok (.aload_n 0, 1) := by decide +kernel
theorem dX8_bestRules_90 : decode cX8_bestRules 90 = .ok (.getfield 29, 3) := by decide +kernel
theorem dX8_bestRules_93 : decode cX8_bestRules 93 = .ok (.ireturn, 1) := by decide +kernel
theorem dX8_spellRules_0 : decode cX8_spellRules 0 = .ok (.iload_n 1, 1) := by decide +kernel
theorem dX8_spellRules_1 : decode cX8_spellRules 1 = .ok (.istore_n 2, 1) := by decide +kernel
theorem dX8_spellRules_2 : decode cX8_spellRules 2 = .ok (.aload_n 0, 1) := by decide +kernel
theorem dX8_spellRules_3 : decode cX8_spellRules 3 = .ok (.getfield 32, 3) := by decide +kernel
theorem dX8_spellRules_6 : decode cX8_spellRules 6 = .ok (.getfield 73, 3) := by decide +kernel
theorem dX8_spellRules_9 : decode cX8_spellRules 9 = .ok (.iconst 1, 1) := by decide +kernel
theorem dX8_spellRules_10 : decode cX8_spellRules 10 = .ok (.isub, 1) := by decide +kernel
theorem dX8_spellRules_11 : decode cX8_spellRules 11 = .ok (.istore_n 3, 1) := by decide +kernel
theorem dX8_spellRules_12 : decode cX8_spellRules 12 = .ok (.iload_n 3, 1) := by decide +kernel
theorem dX8_spellRules_13 : decode cX8_spellRules 13 = .ok (.ifCond .lt 25, 3) := by decide +kernel
theorem dX8_spellRules_16 : decode cX8_spellRules 16 = .ok (.aload_n 0, 1) := by decide +kernel
theorem dX8_spellRules_17 : decode cX8_spellRules 17 = .ok (.getfield 12, 3) := by decide +kernel
theorem dX8_spellRules_20 : decode cX8_spellRules 20 = .ok (.getfield 57, 3) := by decide +kernel
theorem dX8_spellRules_23 : decode cX8_spellRules 23 = .ok (.iload_n 3, 1) := by decide +kernel
theorem dX8_spellRules_24 : decode cX8_spellRules 24 = .ok (.iload_n 2, 1) := by decide +kernel
theorem dX8_spellRules_25 : decode cX8_spellRules 25 = .ok (.iconst 3, 1) := by decide +kernel
theorem dX8_spellRules_26 : decode cX8_spellRules 26 = .ok (.irem, 1) := by decide +kernel
theorem dX8_spellRules_27 : decode cX8_spellRules 27 = .ok (.iastore, 1) := by decide +kernel
theorem dX8_spellRules_28 : decode cX8_spellRules 28 = .ok (.iload_n 2, 1) := by decide +kernel
theorem dX8_spellRules_29 : decode cX8_spellRules 29 = .ok (.iconst 3, 1) := by decide +kernel
theorem dX8_spellRules_30 : decode cX8_spellRules 30 = .ok (.idiv, 1) := by decide +kernel
theorem dX8_spellRules_31 : decode cX8_spellRules 31 = .ok (.istore_n 2, 1) := by decide +kernel
theorem dX8_spellRules_32 : decode cX8_spellRules 32 = .ok (.iinc 3 (-1), 3) := by decide +kernel
theorem dX8_spellRules_35 : decode cX8_spellRules 35 = .ok (.goto (-23), 3) := by decide +kernel
theorem dX8_spellRules_38 : decode cX8_spellRules 38 = .ok (.return_, 1) := by decide +kernel
theorem dX8_findKick_0 : decode cX8_findKick 0 = .ok (.aload_n 0, 1) := by decide +kernel
theorem dX8_findKick_1 : decode cX8_findKick 1 = .ok (.invokevirtual 70, 3) := by decide +kernel
theorem dX8_findKick_4 : decode cX8_findKick 4 = .ok (.iconst 1, 1) := by decide +kernel
theorem dX8_findKick_5 : decode cX8_findKick 5 = .ok (.istore_n 2, 1) := by decide +kernel
theorem dX8_findKick_6 : decode cX8_findKick 6 = .ok (.iload_n 2, 1) := by decide +kernel
theorem dX8_findKick_7 : decode cX8_findKick 7 = .ok (.bipush 9, 2) := by decide +kernel
theorem dX8_findKick_9 : decode cX8_findKick 9 = .ok (.if_icmp .gt 31, 3) := by decide +kernel
theorem dX8_findKick_12 : decode cX8_findKick 12 = .ok (.aload_n 0, 1) := by decide +kernel
theorem dX8_findKick_13 : decode cX8_findKick 13 = .ok (.getfield 29, 3) := by decide +kernel
theorem dX8_findKick_16 : decode cX8_findKick 16 = .ok (.ifCond .le 24, 3) := by decide +kernel
theorem dX8_findKick_19 : decode cX8_findKick 19 = .ok (.aload_n 0, 1) := by decide +kernel
theorem dX8_findKick_20 : decode cX8_findKick 20 = .ok (.getfield 12, 3) := by decide +kernel
theorem dX8_findKick_23 : decode cX8_findKick 23 = .ok (.getfield 85, 3) := by decide +kernel
theorem dX8_findKick_26 : decode cX8_findKick 26 = .ok (.iload_n 1, 1) := by decide +kernel
theorem dX8_findKick_27 : decode cX8_findKick 27 = .ok (.iload_n 2, 1) := by decide +kernel
theorem dX8_findKick_28 : decode cX8_findKick 28 = .ok (.iastore, 1) := by decide +kernel
theorem dX8_findKick_29 : decode cX8_findKick 29 = .ok (.aload_n 0, 1) := by decide +kernel
theorem dX8_findKick_30 : decode cX8_findKick 30 = .ok (.iload_n 2, 1) := by decide +kernel
theorem dX8_findKick_31 : decode cX8_findKick 31 = .ok (.invokevirtual 82, 3) := by decide +kernel
theorem dX8_findKick_34 : decode cX8_findKick 34 = .ok (.iinc 2 1, 3) := by decide +kernel
theorem dX8_findKick_37 : decode cX8_findKick 37 = .ok (.goto (-31), 3) := by decide +kernel
theorem dX8_findKick_40 : decode cX8_findKick 40 = .ok (.return_, 1) := by decide +kernel
theorem dX8_findChange_0 : decode cX8_findChange 0 = .ok (.aload_n 0, 1) := by decide +kernel
theorem dX8_findChange_1 : decode cX8_findChange 1 = .ok (.invokevirtual 70, 3) := by decide +kernel
theorem dX8_findChange_4 : decode cX8_findChange 4 = .ok (.iconst 0, 1) := by decide +kernel
theorem dX8_findChange_5 : decode cX8_findChange 5 = .ok (.istore_n 3, 1) := by decide +kernel
theorem dX8_findChange_6 : decode cX8_findChange 6 = .ok (.iload_n 3, 1) := by decide +kernel
theorem dX8_findChange_7 : decode cX8_findChange 7 = .ok (.sipush 1000, 3) := by decide +kernel
theorem dX8_findChange_10 : decode cX8_findChange 10 = .ok (.if_icmp .gt 42, 3) := by decide +kernel
theorem dX8_findChange_13 : decode cX8_findChange 13 = .ok (.aload_n 0, 1) := by decide +kernel
theorem dX8_findChange_14 : decode cX8_findChange 14 = .ok (.getfield 29, 3) := by decide +kernel
theorem dX8_findChange_17 : decode cX8_findChange 17 = .ok (.ifCond .le 35, 3) := by decide +kernel
theorem dX8_findChange_20 : decode cX8_findChange 20 = .ok (.iload_n 3, 1) := by decide +kernel
theorem dX8_findChange_21 : decode cX8_findChange 21 = .ok (.ifCond .eq 13, 3) := by decide +kernel
theorem dX8_findChange_24 : decode cX8_findChange 24 = .ok (.aload_n 0, 1) := by decide +kernel
theorem dX8_findChange_25 : decode cX8_findChange 25 = .ok (.iload_n 3, 1) := by decide +kernel
theorem dX8_findChange_26 : decode cX8_findChange 26 = .ok (.iconst 1, 1) := by decide +kernel
theorem dX8_findChange_27 : decode cX8_findChange 27 = .ok (.isub, 1) := by decide +kernel
theorem dX8_findChange_28 : decode cX8_findChange 28 = .ok (.invokevirtual 88, 3) := by decide +kernel
theorem dX8_findChange_31 : decode cX8_findChange 31 = .ok (.ifCond .eq 15, 3) := by decide +kernel
theorem dX8_findChange_34 : decode cX8_findChange 34 = .ok (.aload_n 0, 1) := by decide +kernel
theorem dX8_findChange_35 : decode cX8_findChange 35 = .ok (.iload_n 3, 1) := by decide +kernel
theorem dX8_findChange_36 : decode cX8_findChange 36 = .ok (.iload_n 1, 1) := by decide +kernel
theorem dX8_findChange_37 : decode cX8_findChange 37 = .ok (.iload_n 2, 1) := by decide +kernel
theorem dX8_findChange_38 : decode cX8_findChange 38 = .ok (.invokevirtual 92, 3) := by decide +kernel
theorem dX8_findChange_41 : decode cX8_findChange 41 = .ok (.aload_n 0, 1) := by decide +kernel
theorem dX8_findChange_42 : decode cX8_findChange 42 = .ok (.iload_n 3, 1) := by decide +kernel
theorem dX8_findChange_43 : decode cX8_findChange 43 = .ok (.invokevirtual 82, 3) := by decide +kernel
theorem dX8_findChange_46 : decode cX8_findChange 46 = .ok (.iinc 3 1, 3) := by decide +kernel
theorem dX8_findChange_49 : decode cX8_findChange 49 = .ok (.goto (-43), 3) := by decide +kernel
theorem dX8_findChange_52 : decode cX8_findChange 52 = .ok (.return_, 1) := by decide +kernel
theorem dX8_oneComesAt_0 : decode cX8_oneComesAt 0 = .ok (.iconst 0, 1) := by decide +kernel
theorem dX8_oneComesAt_1 : decode cX8_oneComesAt 1 = .ok (.istore_n 2, 1) := by decide +kernel
theorem dX8_oneComesAt_2 : decode cX8_oneComesAt 2 = .ok (.iload_n 2, 1) := by decide +kernel
theorem dX8_oneComesAt_3 : decode cX8_oneComesAt 3 = .ok (.aload_n 0, 1) := by decide +kernel
theorem dX8_oneComesAt_4 : decode cX8_oneComesAt 4 = .ok (.getfield 32, 3) := by decide +kernel
theorem dX8_oneComesAt_7 : decode cX8_oneComesAt 7 = .ok (.getfield 73, 3) := by decide +kernel
theorem dX8_oneComesAt_10 : decode cX8_oneComesAt 10 = .ok (.if_icmp .ge 24, 3) := by decide +kernel
theorem dX8_oneComesAt_13 : decode cX8_oneComesAt 13 = .ok (.aload_n 0, 1) := by decide +kernel
theorem dX8_oneComesAt_14 : decode cX8_oneComesAt 14 = .ok (.getfield 36, 3) := by decide +kernel
theorem dX8_oneComesAt_17 : decode cX8_oneComesAt 17 = .ok (.getfield 96, 3) := by decide +kernel
theorem dX8_oneComesAt_20 : decode cX8_oneComesAt 20 = .ok (.iload_n 2, 1) := by decide +kernel
theorem dX8_oneComesAt_21 : decode cX8_oneComesAt 21 = .ok (.iaload, 1) := by decide +kernel
theorem dX8_oneComesAt_22 : decode cX8_oneComesAt 22 = .ok (.iload_n 1, 1) := by decide +kernel
theorem dX8_oneComesAt_23 : decode cX8_oneComesAt 23 = .ok (.if_icmp .ne 5, 3) := by decide +kernel
theorem dX8_oneComesAt_26 : decode cX8_oneComesAt 26 = .ok (.iconst 1, 1) := by decide +kernel
theorem dX8_oneComesAt_27 : decode cX8_oneComesAt 27 = .ok (.ireturn, 1) := by decide +kernel
theorem dX8_oneComesAt_28 : decode cX8_oneComesAt 28 = .ok (.iinc 2 1, 3) := by decide +kernel
theorem dX8_oneComesAt_31 : decode cX8_oneComesAt 31 = .ok (.goto (-29), 3) := by decide +kernel
theorem dX8_oneComesAt_34 : decode cX8_oneComesAt 34 = .ok (.iconst 0, 1) := by decide +kernel
theorem dX8_oneComesAt_35 : decode cX8_oneComesAt 35 = .ok (.ireturn, 1) := by decide +kernel
theorem dX8_changeAt_0 : decode cX8_changeAt 0 = .ok (.iconst 0, 1) := by decide +kernel
theorem dX8_changeAt_1 : decode cX8_changeAt 1 = .ok (.istore 4, 2) := by decide +kernel
theorem dX8_changeAt_3 : decode cX8_changeAt 3 = .ok (.iload 4, 2) := by decide +kernel
theorem dX8_changeAt_5 : decode cX8_changeAt 5 = .ok (.aload_n 0, 1) := by decide +kernel
theorem dX8_changeAt_6 : decode cX8_changeAt 6 = .ok (.getfield 32, 3) := by decide +kernel
theorem dX8_changeAt_9 : decode cX8_changeAt 9 = .ok (.getfield 73, 3) := by decide +kernel
theorem dX8_changeAt_12 : decode cX8_changeAt 12 = .ok (.if_icmp .ge 38, 3) := by decide +kernel
theorem dX8_changeAt_15 : decode cX8_changeAt 15 = .ok (.aload_n 0, 1) := by decide +kernel
theorem dX8_changeAt_16 : decode cX8_changeAt 16 = .ok (.getfield 12, 3) := by decide +kernel
theorem dX8_changeAt_19 : decode cX8_changeAt 19 = .ok (.getfield 57, 3) := by decide +kernel
theorem dX8_changeAt_22 : decode cX8_changeAt 22 = .ok (.iload 4, 2) := by decide +kernel
theorem dX8_changeAt_24 : decode cX8_changeAt 24 = .ok (.aload_n 0, 1) := by decide +kernel
theorem dX8_changeAt_25 : decode cX8_changeAt 25 = .ok (.getfield 12, 3) := by decide +kernel
theorem dX8_changeAt_28 : decode cX8_changeAt 28 = .ok (.getfield 96, 3) := by decide +kernel
theorem dX8_changeAt_31 : decode cX8_changeAt 31 = .ok (.iload 4, 2) := by decide +kernel
theorem dX8_changeAt_33 : decode cX8_changeAt 33 = .ok (.iaload, 1) := by decide +kernel
theorem dX8_changeAt_34 : decode cX8_changeAt 34 = .ok (.iload_n 1, 1) := by decide +kernel
theorem dX8_changeAt_35 : decode cX8_changeAt 35 = .ok (.if_icmp .lt 7, 3) := by decide +kernel
theorem dX8_changeAt_38 : decode cX8_changeAt 38 = .ok (.iload_n 3, 1) := by decide +kernel
theorem dX8_changeAt_39 : decode cX8_changeAt 39 = .ok (.goto 4, 3) := by decide +kernel
theorem dX8_changeAt_42 : decode cX8_changeAt 42 = .ok (.iload_n 2, 1) := by decide +kernel
theorem dX8_changeAt_43 : decode cX8_changeAt 43 = .ok (.iastore, 1) := by decide +kernel
theorem dX8_changeAt_44 : decode cX8_changeAt 44 = .ok (.iinc 4 1, 3) := by decide +kernel
theorem dX8_changeAt_47 : decode cX8_changeAt 47 = .ok (.goto (-44), 3) := by decide +kernel
theorem dX8_changeAt_50 : decode cX8_changeAt 50 = .ok (.return_, 1) := by decide +kernel
theorem dX8_windowSaves_0 : decode cX8_windowSaves 0 = .ok (.aload_n 0, 1) := by decide +kernel
theorem dX8_windowSaves_1 : decode cX8_windowSaves 1 = .ok (.getfield 12, 3) := by decide +kernel
theorem dX8_windowSaves_4 : decode cX8_windowSaves 4 = .ok (.aload_n 0, 1) := by decide +kernel
theorem dX8_windowSaves_5 : decode cX8_windowSaves 5 = .ok (.getfield 36, 3) := by decide +kernel
theorem dX8_windowSaves_8 : decode cX8_windowSaves 8 = .ok (.invokevirtual 43, 3) := by decide +kernel
theorem dX8_windowSaves_11 : decode cX8_windowSaves 11 = .ok (.aload_n 0, 1) := by decide +kernel
theorem dX8_windowSaves_12 : decode cX8_windowSaves 12 = .ok (.getfield 12, 3) := by decide +kernel
theorem dX8_windowSaves_15 : decode cX8_windowSaves 15 = .ok (.iconst 0, 1) := by decide +kernel
theorem dX8_windowSaves_16 : decode cX8_windowSaves 16 = .ok (.putfield 99, 3) := by decide +kernel
theorem dX8_windowSaves_19 : decode cX8_windowSaves 19 = .ok (.aload_n 0, 1) := by decide +kernel
theorem dX8_windowSaves_20 : decode cX8_windowSaves 20 = .ok (.invokevirtual 67, 3) := by decide +kernel
theorem dX8_windowSaves_23 : decode cX8_windowSaves 23 = .ok (.istore_n 1, 1) := by decide +kernel
theorem dX8_windowSaves_24 : decode cX8_windowSaves 24 = .ok (.aload_n 0, 1) := by decide +kernel
theorem dX8_windowSaves_25 : decode cX8_windowSaves 25 = .ok (.getfield 12, 3) := by decide +kernel
theorem dX8_windowSaves_28 : decode cX8_windowSaves 28 = .ok (.iconst 1, 1) := by decide +kernel
theorem dX8_windowSaves_29 : decode cX8_windowSaves 29 = .ok (.putfield 99, 3) := by decide +kernel
theorem dX8_windowSaves_32 : decode cX8_windowSaves 32 = .ok (.iload_n 1, 1) := by decide +kernel
theorem dX8_windowSaves_33 : decode cX8_windowSaves 33 = .ok (.aload_n 0, 1) := by decide +kernel
theorem dX8_windowSaves_34 : decode cX8_windowSaves 34 = .ok (.invokevirtual 67, 3) := by decide +kernel
theorem dX8_windowSaves_37 : decode cX8_windowSaves 37 = .ok (.isub, 1) := by decide +kernel
theorem dX8_windowSaves_38 : decode cX8_windowSaves 38 = .ok (.ireturn, 1) := by decide +kernel
theorem dX8_quietSaves_0 : decode cX8_quietSaves 0 = .ok (.aload_n 0, 1) := by decide +kernel
theorem dX8_quietSaves_1 : decode cX8_quietSaves 1 = .ok (.getfield 12, 3) := by decide +kernel
theorem dX8_quietSaves_4 : decode cX8_quietSaves 4 = .ok (.aload_n 0, 1) := by decide +kernel
theorem dX8_quietSaves_5 : decode cX8_quietSaves 5 = .ok (.getfield 36, 3) := by decide +kernel
theorem dX8_quietSaves_8 : decode cX8_quietSaves 8 = .ok (.invokevirtual 43, 3) := by decide +kernel
theorem dX8_quietSaves_11 : decode cX8_quietSaves 11 = .ok (.aload_n 0, 1) := by decide +kernel
theorem dX8_quietSaves_12 : decode cX8_quietSaves 12 = .ok (.invokevirtual 67, 3) := by decide +kernel
theorem dX8_quietSaves_15 : decode cX8_quietSaves 15 = .ok (.istore_n 1, 1) := by decide +kernel
theorem dX8_quietSaves_16 : decode cX8_quietSaves 16 = .ok (.aload_n 0, 1) := by decide +kernel
theorem dX8_quietSaves_17 : decode cX8_quietSaves 17 = .ok (.getfield 12, 3) := by decide +kernel
theorem dX8_quietSaves_20 : decode cX8_quietSaves 20 = .ok (.bipush 9, 2) := by decide +kernel
theorem dX8_quietSaves_22 : decode cX8_quietSaves 22 = .ok (.putfield 102, 3) := by decide +kernel
theorem dX8_quietSaves_25 : decode cX8_quietSaves 25 = .ok (.iload_n 1, 1) := by decide +kernel
theorem dX8_quietSaves_26 : decode cX8_quietSaves 26 = .ok (.aload_n 0, 1) := by decide +kernel
theorem dX8_quietSaves_27 : decode cX8_quietSaves 27 = .ok (.invokevirtual 67, 3) := by decide +kernel
theorem dX8_quietSaves_30 : decode cX8_quietSaves 30 = .ok (.isub, 1) := by decide +kernel
theorem dX8_quietSaves_31 : decode cX8_quietSaves 31 = .ok (.ireturn, 1) := by decide +kernel
theorem dX8_spread_0 : decode cX8_spread 0 = .ok (.aload_n 0, 1) := by decide +kernel
theorem dX8_spread_1 : decode cX8_spread 1 = .ok (.getfield 12, 3) := by decide +kernel
theorem dX8_spread_4 : decode cX8_spread 4 = .ok (.aload_n 0, 1) := by decide +kernel
theorem dX8_spread_5 : decode cX8_spread 5 = .ok (.getfield 36, 3) := by decide +kernel
theorem dX8_spread_8 : decode cX8_spread 8 = .ok (.invokevirtual 43, 3) := by decide +kernel
theorem dX8_spread_11 : decode cX8_spread 11 = .ok (.aload_n 0, 1) := by decide +kernel
theorem dX8_spread_12 : decode cX8_spread 12 = .ok (.getfield 21, 3) := by decide +kernel
theorem dX8_spread_15 : decode cX8_spread 15 = .ok (.aload_n 0, 1) := by decide +kernel
theorem dX8_spread_16 : decode cX8_spread 16 = .ok (.getfield 32, 3) := by decide +kernel
theorem dX8_spread_19 : decode cX8_spread 19 = .ok (.aload_n 0, 1) := by decide +kernel
theorem dX8_spread_20 : decode cX8_spread 20 = .ok (.getfield 36, 3) := by decide +kernel
theorem dX8_spread_23 : decode cX8_spread 23 = .ok (.iload_n 1, 1) := by decide +kernel
theorem dX8_spread_24 : decode cX8_spread 24 = .ok (.invokevirtual 105, 3) := by decide +kernel
theorem dX8_spread_27 : decode cX8_spread 27 = .ok (.aload_n 0, 1) := by decide +kernel
theorem dX8_spread_28 : decode cX8_spread 28 = .ok (.getfield 21, 3) := by decide +kernel
theorem dX8_spread_31 : decode cX8_spread 31 = .ok (.iconst 0, 1) := by decide +kernel
theorem dX8_spread_32 : decode cX8_spread 32 = .ok (.invokevirtual 109, 3) := by decide +kernel
theorem dX8_spread_35 : decode cX8_spread 35 = .ok (.iconst 1, 1) := by decide +kernel
theorem dX8_spread_36 : decode cX8_spread 36 = .ok (.istore_n 3, 1) := by decide +kernel
theorem dX8_spread_37 : decode cX8_spread 37 = .ok (.iload_n 3, 1) := by decide +kernel
theorem dX8_spread_38 : decode cX8_spread 38 = .ok (.aload_n 0, 1) := by decide +kernel
theorem dX8_spread_39 : decode cX8_spread 39 = .ok (.getfield 21, 3) := by decide +kernel
theorem dX8_spread_42 : decode cX8_spread 42 = .ok (.getfield 112, 3) := by decide +kernel
theorem dX8_spread_45 : decode cX8_spread 45 = .ok (.if_icmp .ge 31, 3) := by decide +kernel
theorem dX8_spread_48 : decode cX8_spread 48 = .ok (.aload_n 0, 1) := by decide +kernel
theorem dX8_spread_49 : decode cX8_spread 49 = .ok (.getfield 21, 3) := by decide +kernel
theorem dX8_spread_52 : decode cX8_spread 52 = .ok (.getfield 115, 3) := by decide +kernel
theorem dX8_spread_55 : decode cX8_spread 55 = .ok (.iload_n 3, 1) := by decide +kernel
theorem dX8_spread_56 : decode cX8_spread 56 = .ok (.aload_n 0, 1) := by decide +kernel
theorem dX8_spread_57 : decode cX8_spread 57 = .ok (.getfield 21, 3) := by decide +kernel
theorem dX8_spread_60 : decode cX8_spread 60 = .ok (.getfield 115, 3) := by decide +kernel
theorem dX8_spread_63 : decode cX8_spread 63 = .ok (.iconst 0, 1) := by decide +kernel
theorem dX8_spread_64 : decode cX8_spread 64 = .ok (.iaload, 1) := by decide +kernel
theorem dX8_spread_65 : decode cX8_spread 65 = .ok (.iload_n 3, 1) := by decide +kernel
theorem dX8_spread_66 : decode cX8_spread 66 = .ok (.iload_n 2, 1) := by decide +kernel
theorem dX8_spread_67 : decode cX8_spread 67 = .ok (.imul, 1) := by decide +kernel
theorem dX8_spread_68 : decode cX8_spread 68 = .ok (.iadd, 1) := by decide +kernel
theorem dX8_spread_69 : decode cX8_spread 69 = .ok (.iastore, 1) := by decide +kernel
theorem dX8_spread_70 : decode cX8_spread 70 = .ok (.iinc 3 1, 3) := by decide +kernel
theorem dX8_spread_73 : decode cX8_spread 73 = .ok (.goto (-36), 3) := by decide +kernel
theorem dX8_spread_76 : decode cX8_spread 76 = .ok (.aload_n 0, 1) := by decide +kernel
theorem dX8_spread_77 : decode cX8_spread 77 = .ok (.getfield 21, 3) := by decide +kernel
theorem dX8_spread_80 : decode cX8_spread 80 = .ok (.aload_n 0, 1) := by decide +kernel
theorem dX8_spread_81 : decode cX8_spread 81 = .ok (.getfield 12, 3) := by decide +kernel
theorem dX8_spread_84 : decode cX8_spread 84 = .ok (.invokevirtual 118, 3) := by decide +kernel
theorem dX8_spread_87 : decode cX8_spread 87 = .ok (.aload_n 0, 1) := by decide +kernel
theorem dX8_spread_88 : decode cX8_spread 88 = .ok (.invokevirtual 67, 3) := by decide +kernel
theorem dX8_spread_91 : decode cX8_spread 91 = .ok (.ireturn, 1) := by decide +kernel
theorem dX8_bestOrder_0 : decode cX8_bestOrder 0 = .ok (.aload_n 0, 1) := by decide +kernel
theorem dX8_bestOrder_1 : decode cX8_bestOrder 1 = .ok (.invokevirtual 70, 3) := by decide +kernel
theorem dX8_bestOrder_4 : decode cX8_bestOrder 4 = .ok (.aload_n 0, 1) := by decide +kernel
theorem dX8_bestOrder_5 : decode cX8_bestOrder 5 = .ok (.getfield 21, 3) := by decide +kernel
theorem dX8_bestOrder_8 : decode cX8_bestOrder 8 = .ok (.aload_n 0, 1) := by decide +kernel
theorem dX8_bestOrder_9 : decode cX8_bestOrder 9 = .ok (.getfield 32, 3) := by decide +kernel
theorem dX8_bestOrder_12 : decode cX8_bestOrder 12 = .ok (.aload_n 0, 1) := by decide +kernel
theorem dX8_bestOrder_13 : decode cX8_bestOrder 13 = .ok (.getfield 36, 3) := by decide +kernel
theorem dX8_bestOrder_16 : decode cX8_bestOrder 16 = .ok (.iload_n 1, 1) := by decide +kernel
theorem dX8_bestOrder_17 : decode cX8_bestOrder 17 = .ok (.invokevirtual 105, 3) := by decide +kernel
theorem dX8_bestOrder_20 : decode cX8_bestOrder 20 = .ok (.iconst 0, 1) := by decide +kernel
theorem dX8_bestOrder_21 : decode cX8_bestOrder 21 = .ok (.istore_n 3, 1) := by decide +kernel
theorem dX8_bestOrder_22 : decode cX8_bestOrder 22 = .ok (.iload_n 3, 1) := by decide +kernel
theorem dX8_bestOrder_23 : decode cX8_bestOrder 23 = .ok (.aload_n 0, 1) := by decide +kernel
theorem dX8_bestOrder_24 : decode cX8_bestOrder 24 = .ok (.getfield 21, 3) := by decide +kernel
theorem dX8_bestOrder_27 : decode cX8_bestOrder 27 = .ok (.invokevirtual 121, 3) := by decide +kernel
theorem dX8_bestOrder_30 : decode cX8_bestOrder 30 = .ok (.if_icmp .ge 40, 3) := by decide +kernel
theorem dX8_bestOrder_33 : decode cX8_bestOrder 33 = .ok (.aload_n 0, 1) := by decide +kernel
theorem dX8_bestOrder_34 : decode cX8_bestOrder 34 = .ok (.getfield 29, 3) := by decide +kernel
theorem dX8_bestOrder_37 : decode cX8_bestOrder 37 = .ok (.ifCond .le 33, 3) := by decide +kernel
theorem dX8_bestOrder_40 : decode cX8_bestOrder 40 = .ok (.aload_n 0, 1) := by decide +kernel
theorem dX8_bestOrder_41 : decode cX8_bestOrder 41 = .ok (.getfield 21, 3) := by decide +kernel
theorem dX8_bestOrder_44 : decode cX8_bestOrder 44 = .ok (.iload_n 3, 1) := by decide +kernel
theorem dX8_bestOrder_45 : decode cX8_bestOrder 45 = .ok (.invokevirtual 109, 3) := by decide +kernel
theorem dX8_bestOrder_48 : decode cX8_bestOrder 48 = .ok (.aload_n 0, 1) := by decide +kernel
theorem dX8_bestOrder_49 : decode cX8_bestOrder 49 = .ok (.getfield 21, 3) := by decide +kernel
theorem dX8_bestOrder_52 : decode cX8_bestOrder 52 = .ok (.aload_n 0, 1) := by decide +kernel
theorem dX8_bestOrder_53 : decode cX8_bestOrder 53 = .ok (.getfield 12, 3) := by decide +kernel
theorem dX8_bestOrder_56 : decode cX8_bestOrder 56 = .ok (.invokevirtual 118, 3) := by decide +kernel
theorem dX8_bestOrder_59 : decode cX8_bestOrder 59 = .ok (.aload_n 0, 1) := by decide +kernel
theorem dX8_bestOrder_60 : decode cX8_bestOrder 60 = .ok (.iload_n 3, 1) := by decide +kernel
theorem dX8_bestOrder_61 : decode cX8_bestOrder 61 = .ok (.invokevirtual 82, 3) := by decide +kernel
theorem dX8_bestOrder_64 : decode cX8_bestOrder 64 = .ok (.iinc 3 1, 3) := by decide +kernel
theorem dX8_bestOrder_67 : decode cX8_bestOrder 67 = .ok (.goto (-45), 3) := by decide +kernel
theorem dX8_bestOrder_70 : decode cX8_bestOrder 70 = .ok (.iload_n 2, 1) := by decide +kernel
theorem dX8_bestOrder_71 : decode cX8_bestOrder 71 = .ok (.iconst (-1), 1) := by decide +kernel
theorem dX8_bestOrder_72 : decode cX8_bestOrder 72 = .ok (.if_icmp .ne 8, 3) := by decide +kernel
theorem dX8_bestOrder_75 : decode cX8_bestOrder 75 = .ok (.aload_n 0, 1) := by decide +kernel
theorem dX8_bestOrder_76 : decode cX8_bestOrder 76 = .ok (.getfield 29, 3) := by decide +kernel
theorem dX8_bestOrder_79 : decode cX8_bestOrder 79 = .ok (.ireturn, 1) := by decide +kernel
theorem dX8_bestOrder_80 : decode cX8_bestOrder 80 = .ok (.iload_n 2, 1) := by decide +kernel
theorem dX8_bestOrder_81 : decode cX8_bestOrder 81 = .ok (.ifCond .lt 14, 3) := by decide +kernel
theorem dX8_bestOrder_84 : decode cX8_bestOrder 84 = .ok (.iload_n 2, 1) := by decide +kernel
theorem dX8_bestOrder_85 : decode cX8_bestOrder 85 = .ok (.aload_n 0, 1) := by decide +kernel
theorem dX8_bestOrder_86 : decode cX8_bestOrder 86 = .ok (.getfield 21, 3) := by decide +kernel
theorem dX8_bestOrder_89 : decode cX8_bestOrder 89 = .ok (.getfield 112, 3) := by decide +kernel
theorem dX8_bestOrder_92 : decode cX8_bestOrder 92 = .ok (.if_icmp .lt 5, 3) := by decide +kernel
theorem dX8_bestOrder_95 : decode cX8_bestOrder 95 = .ok (.iconst (-1), 1) := by decide +kernel
theorem dX8_bestOrder_96 : decode cX8_bestOrder 96 = .ok (.ireturn, 1) := by decide +kernel
theorem dX8_bestOrder_97 : decode cX8_bestOrder 97 = .ok (.aload_n 0, 1) := by decide +kernel
theorem dX8_bestOrder_98 : decode cX8_bestOrder 98 = .ok (.getfield 21, 3) := by decide +kernel
theorem dX8_bestOrder_101 : decode cX8_bestOrder 101 = .ok (.aload_n 0, 1) := by decide +kernel
theorem dX8_bestOrder_102 : decode cX8_bestOrder 102 = .ok (.getfield 25, 3) := by decide +kernel
theorem dX8_bestOrder_105 : decode cX8_bestOrder 105 = .ok (.invokevirtual 109, 3) := by decide +kernel
theorem dX8_bestOrder_108 : decode cX8_bestOrder 108 = .ok (.aload_n 0, 1) := by decide +kernel
theorem dX8_bestOrder_109 : decode cX8_bestOrder 109 = .ok (.getfield 21, 3) := by decide +kernel
theorem dX8_bestOrder_112 : decode cX8_bestOrder 112 = .ok (.getfield 124, 3) := by decide +kernel
theorem dX8_bestOrder_115 : decode cX8_bestOrder 115 = .ok (.iload_n 2, 1) := by decide +kernel
theorem dX8_bestOrder_116 : decode cX8_bestOrder 116 = .ok (.iaload, 1) := by decide +kernel
theorem dX8_bestOrder_117 : decode cX8_bestOrder 117 = .ok (.ireturn, 1) := by decide +kernel
theorem dX8_restingPairs_0 : decode cX8_restingPairs 0 = .ok (.iconst 0, 1) := by decide +kernel
theorem dX8_restingPairs_1 : decode cX8_restingPairs 1 = .ok (.istore_n 3, 1) := by decide +kernel
theorem dX8_restingPairs_2 : decode cX8_restingPairs 2 = .ok (.iconst 0, 1) := by decide +kernel
theorem dX8_restingPairs_3 : decode cX8_restingPairs 3 = .ok (.istore 4, 2) := by decide +kernel
theorem dX8_restingPairs_5 : decode cX8_restingPairs 5 = .ok (.iload 4, 2) := by decide +kernel
theorem dX8_restingPairs_7 : decode cX8_restingPairs 7 = .ok (.iconst 2, 1) := by decide +kernel
theorem dX8_restingPairs_8 : decode cX8_restingPairs 8 = .ok (.if_icmp .ge 110, 3) := by decide +kernel
theorem dX8_restingPairs_11 : decode cX8_restingPairs 11 = .ok (.iconst 0, 1) := by decide +kernel
theorem dX8_restingPairs_12 : decode cX8_restingPairs 12 = .ok (.istore 5, 2) := by decide +kernel
theorem dX8_restingPairs_14 : decode cX8_restingPairs 14 = .ok (.iload 5, 2) := by decide +kernel
theorem dX8_restingPairs_16 : decode cX8_restingPairs 16 = .ok (.iconst 2, 1) := by decide +kernel
theorem dX8_restingPairs_17 : decode cX8_restingPairs 17 = .ok (.if_icmp .ge 95, 3) := by decide +kernel
theorem dX8_restingPairs_20 : decode cX8_restingPairs 20 = .ok (.aload_n 0, 1) := by decide +kernel
theorem dX8_restingPairs_21 : decode cX8_restingPairs 21 = .ok (.iload_n 1, 1) := by decide +kernel
theorem dX8_restingPairs_22 : decode cX8_restingPairs 22 = .ok (.iload_n 2, 1) := by decide +kernel
theorem dX8_restingPairs_23 : decode cX8_restingPairs 23 = .ok (.iload 4, 2) := by decide +kernel
theorem dX8_restingPairs_25 : decode cX8_restingPairs 25 = .ok (.iload 5, 2) := by decide +kernel
theorem dX8_restingPairs_27 : decode cX8_restingPairs 27 = .ok (.invokevirtual 127, 3) := by decide +kernel
theorem dX8_restingPairs_30 : decode cX8_restingPairs 30 = .ok (.aload_n 0, 1) := by decide +kernel
theorem dX8_restingPairs_31 : decode cX8_restingPairs 31 = .ok (.iload_n 1, 1) := by decide +kernel
theorem dX8_restingPairs_32 : decode cX8_restingPairs 32 = .ok (.iload_n 2, 1) := by decide +kernel
theorem dX8_restingPairs_33 : decode cX8_restingPairs 33 = .ok (.iconst 1, 1) := by decide +kernel
theorem dX8_restingPairs_34 : decode cX8_restingPairs 34 = .ok (.iload 4, 2) := by decide +kernel
theorem dX8_restingPairs_36 : decode cX8_restingPairs 36 = .ok (.isub, 1) := by decide +kernel
theorem dX8_restingPairs_37 : decode cX8_restingPairs 37 = .ok (.iload 5, 2) := by decide +kernel
theorem dX8_restingPairs_39 : decode cX8_restingPairs 39 = .ok (.invokevirtual 127, 3) := by decide +kernel
theorem dX8_restingPairs_42 : decode cX8_restingPairs 42 = .ok (.if_icmp .gt 7, 3) := by decide +kernel
theorem dX8_restingPairs_45 : decode cX8_restingPairs 45 = .ok (.iconst 1, 1) := by decide +kernel
theorem dX8_restingPairs_46 : decode cX8_restingPairs 46 = .ok (.goto 4, 3) := by decide +kernel
theorem dX8_restingPairs_49 : decode cX8_restingPairs 49 = .ok (.iconst 0, 1) := by decide +kernel
theorem dX8_restingPairs_50 : decode cX8_restingPairs 50 = .ok (.istore 6, 2) := by decide +kernel
theorem dX8_restingPairs_52 : decode cX8_restingPairs 52 = .ok (.aload_n 0, 1) := by decide +kernel
theorem dX8_restingPairs_53 : decode cX8_restingPairs 53 = .ok (.iload_n 2, 1) := by decide +kernel
theorem dX8_restingPairs_54 : decode cX8_restingPairs 54 = .ok (.iload_n 1, 1) := by decide +kernel
theorem dX8_restingPairs_55 : decode cX8_restingPairs 55 = .ok (.iload 5, 2) := by decide +kernel
theorem dX8_restingPairs_57 : decode cX8_restingPairs 57 = .ok (.iload 4, 2) := by decide +kernel
theorem dX8_restingPairs_59 : decode cX8_restingPairs 59 = .ok (.invokevirtual 127, 3) := by decide +kernel
theorem dX8_restingPairs_62 : decode cX8_restingPairs 62 = .ok (.aload_n 0, 1) := by decide +kernel
theorem dX8_restingPairs_63 : decode cX8_restingPairs 63 = .ok (.iload_n 2, 1) := by decide +kernel
theorem dX8_restingPairs_64 : decode cX8_restingPairs 64 = .ok (.iload_n 1, 1) := by decide +kernel
theorem dX8_restingPairs_65 : decode cX8_restingPairs 65 = .ok (.iconst 1, 1) := by decide +kernel
theorem dX8_restingPairs_66 : decode cX8_restingPairs 66 = .ok (.iload 5, 2) := by decide +kernel
theorem dX8_restingPairs_68 : decode cX8_restingPairs 68 = .ok (.isub, 1) := by decide +kernel
theorem dX8_restingPairs_69 : decode cX8_restingPairs 69 = .ok (.iload 4, 2) := by decide +kernel
theorem dX8_restingPairs_71 : decode cX8_restingPairs 71 = .ok (.invokevirtual 127, 3) := by decide +kernel
theorem dX8_restingPairs_74 : decode cX8_restingPairs 74 = .ok (.if_icmp .gt 7, 3) := by decide +kernel
theorem dX8_restingPairs_77 : decode cX8_restingPairs 77 = .ok (.iconst 1, 1) := by decide +kernel
theorem dX8_restingPairs_78 : decode cX8_restingPairs 78 = .ok (.goto 4, 3) := by decide +kernel
theorem dX8_restingPairs_81 : decode cX8_restingPairs 81 = .ok (.iconst 0, 1) := by decide +kernel
theorem dX8_restingPairs_82 : decode cX8_restingPairs 82 = .ok (.istore 7, 2) := by decide +kernel
theorem dX8_restingPairs_84 : decode cX8_restingPairs 84 = .ok (.iload 6, 2) := by decide +kernel
theorem dX8_restingPairs_86 : decode cX8_restingPairs 86 = .ok (.ifCond .eq 20, 3) := by decide +kernel
theorem dX8_restingPairs_89 : decode cX8_restingPairs 89 = .ok (.iload 7, 2) := by decide +kernel
theorem dX8_restingPairs_91 : decode cX8_restingPairs 91 = .ok (.ifCond .eq 15, 3) := by decide +kernel
theorem dX8_restingPairs_94 : decode cX8_restingPairs 94 = .ok (.iload_n 3, 1) := by decide +kernel
theorem dX8_restingPairs_95 : decode cX8_restingPairs 95 = .ok (.iconst 1, 1) := by decide +kernel
theorem dX8_restingPairs_96 : decode cX8_restingPairs 96 = .ok (.iconst 2, 1) := by decide +kernel
theorem dX8_restingPairs_97 : decode cX8_restingPairs 97 = .ok (.iload 4, 2) := by decide +kernel
theorem dX8_restingPairs_99 : decode cX8_restingPairs 99 = .ok (.imul, 1) := by decide +kernel
theorem dX8_restingPairs_100 : decode cX8_restingPairs 100 = .ok (.iload 5, 2) := by decide +kernel
theorem dX8_restingPairs_102 : decode cX8_restingPairs 102 = .ok (.iadd, 1) := by decide +kernel
theorem dX8_restingPairs_103 : decode cX8_restingPairs 103 = .ok (.ishl, 1) := by decide +kernel
theorem dX8_restingPairs_104 : decode cX8_restingPairs 104 = .ok (.ior, 1) := by decide +kernel
theorem dX8_restingPairs_105 : decode cX8_restingPairs 105 = .ok (.istore_n 3, 1) := by decide +kernel
theorem dX8_restingPairs_106 : decode cX8_restingPairs 106 = .ok (.iinc 5 1, 3) := by decide +kernel
theorem dX8_restingPairs_109 : decode cX8_restingPairs 109 = .ok (.goto (-95), 3) := by decide +kernel
theorem dX8_restingPairs_112 : decode cX8_restingPairs 112 = .ok (.iinc 4 1, 3) := by decide +kernel
theorem dX8_restingPairs_115 : decode cX8_restingPairs 115 = .ok (.goto (-110), 3) := by decide +kernel
theorem dX8_restingPairs_118 : decode cX8_restingPairs 118 = .ok (.iload_n 3, 1) := by decide +kernel
theorem dX8_restingPairs_119 : decode cX8_restingPairs 119 = .ok (.ireturn, 1) := by decide +kernel
theorem dX8_lossOf_0 : decode cX8_lossOf 0 = .ok (.iload_n 3, 1) := by decide +kernel
theorem dX8_lossOf_1 : decode cX8_lossOf 1 = .ok (.ifCond .ne 25, 3) := by decide +kernel
theorem dX8_lossOf_4 : decode cX8_lossOf 4 = .ok (.iload 4, 2) := by decide +kernel
theorem dX8_lossOf_6 : decode cX8_lossOf 6 = .ok (.ifCond .ne 18, 3) := by decide +kernel
theorem dX8_lossOf_9 : decode cX8_lossOf 9 = .ok (.aload_n 0, 1) := by decide +kernel
theorem dX8_lossOf_10 : decode cX8_lossOf 10 = .ok (.getfield 32, 3) := by decide +kernel
theorem dX8_lossOf_13 : decode cX8_lossOf 13 = .ok (.getfield 131, 3) := by decide +kernel
theorem dX8_lossOf_16 : decode cX8_lossOf 16 = .ok (.iload_n 1, 1) := by decide +kernel
theorem dX8_lossOf_17 : decode cX8_lossOf 17 = .ok (.iaload, 1) := by decide +kernel
theorem dX8_lossOf_18 : decode cX8_lossOf 18 = .ok (.bipush 20, 2) := by decide +kernel
theorem dX8_lossOf_20 : decode cX8_lossOf 20 = .ok (.iadd, 1) := by decide +kernel
theorem dX8_lossOf_21 : decode cX8_lossOf 21 = .ok (.goto 4, 3) := by decide +kernel
theorem dX8_lossOf_24 : decode cX8_lossOf 24 = .ok (.iconst 0, 1) := by decide +kernel
theorem dX8_lossOf_25 : decode cX8_lossOf 25 = .ok (.ireturn, 1) := by decide +kernel
theorem dX8_lossOf_26 : decode cX8_lossOf 26 = .ok (.iload 4, 2) := by decide +kernel
theorem dX8_lossOf_28 : decode cX8_lossOf 28 = .ok (.ifCond .ne 15, 3) := by decide +kernel
theorem dX8_lossOf_31 : decode cX8_lossOf 31 = .ok (.aload_n 0, 1) := by decide +kernel
theorem dX8_lossOf_32 : decode cX8_lossOf 32 = .ok (.getfield 32, 3) := by decide +kernel
theorem dX8_lossOf_35 : decode cX8_lossOf 35 = .ok (.getfield 134, 3) := by decide +kernel
theorem dX8_lossOf_38 : decode cX8_lossOf 38 = .ok (.iload_n 2, 1) := by decide +kernel
theorem dX8_lossOf_39 : decode cX8_lossOf 39 = .ok (.iaload, 1) := by decide +kernel
theorem dX8_lossOf_40 : decode cX8_lossOf 40 = .ok (.goto 5, 3) := by decide +kernel
theorem dX8_lossOf_43 : decode cX8_lossOf 43 = .ok (.bipush 9, 2) := by decide +kernel
theorem dX8_lossOf_45 : decode cX8_lossOf 45 = .ok (.ireturn, 1) := by decide +kernel
theorem dX8_kindOnOtherLeaf_0 : decode cX8_kindOnOtherLeaf 0 = .ok (.aload_n 0, 1) := by decide +kernel
theorem dX8_kindOnOtherLeaf_1 : decode cX8_kindOnOtherLeaf 1 = .ok (.getfield 12, 3) := by decide +kernel
theorem dX8_kindOnOtherLeaf_4 : decode cX8_kindOnOtherLeaf 4 = .ok (.aload_n 0, 1) := by decide +kernel
theorem dX8_kindOnOtherLeaf_5 : decode cX8_kindOnOtherLeaf 5 = .ok (.getfield 36, 3) := by decide +kernel
theorem dX8_kindOnOtherLeaf_8 : decode cX8_kindOnOtherLeaf 8 = .ok (.invokevirtual 43, 3) := by decide +kernel
theorem dX8_kindOnOtherLeaf_11 : decode cX8_kindOnOtherLeaf 11 = .ok (.aload_n 0, 1) := by decide +kernel
theorem dX8_kindOnOtherLeaf_12 : decode cX8_kindOnOtherLeaf 12 = .ok (.getfield 12, 3) := by decide +kernel
theorem dX8_kindOnOtherLeaf_15 : decode cX8_kindOnOtherLeaf 15 = .ok (.getfield 57, 3) := by decide +kernel
theorem dX8_kindOnOtherLeaf_18 : decode cX8_kindOnOtherLeaf 18 = .ok (.iload_n 1, 1) := by decide +kernel
theorem dX8_kindOnOtherLeaf_19 : decode cX8_kindOnOtherLeaf 19 = .ok (.iconst 1, 1) := by decide +kernel
theorem dX8_kindOnOtherLeaf_20 : decode cX8_kindOnOtherLeaf 20 = .ok (.iastore, 1) := by decide +kernel
theorem dX8_kindOnOtherLeaf_21 : decode cX8_kindOnOtherLeaf 21 = .ok (.aload_n 0, 1) := by decide +kernel
theorem dX8_kindOnOtherLeaf_22 : decode cX8_kindOnOtherLeaf 22 = .ok (.getfield 39, 3) := by decide +kernel
theorem dX8_kindOnOtherLeaf_25 : decode cX8_kindOnOtherLeaf 25 = .ok (.aload_n 0, 1) := by decide +kernel
theorem dX8_kindOnOtherLeaf_26 : decode cX8_kindOnOtherLeaf 26 = .ok (.getfield 12, 3) := by decide +kernel
theorem dX8_kindOnOtherLeaf_29 : decode cX8_kindOnOtherLeaf 29 = .ok (.invokevirtual 48, 3) := by decide +kernel
theorem dX8_kindOnOtherLeaf_32 : decode cX8_kindOnOtherLeaf 32 = .ok (.aload_n 0, 1) := by decide +kernel
theorem dX8_kindOnOtherLeaf_33 : decode cX8_kindOnOtherLeaf 33 = .ok (.getfield 39, 3) := by decide +kernel
theorem dX8_kindOnOtherLeaf_36 : decode cX8_kindOnOtherLeaf 36 = .ok (.getfield 137, 3) := by decide +kernel
theorem dX8_kindOnOtherLeaf_39 : decode cX8_kindOnOtherLeaf 39 = .ok (.iload_n 1, 1) := by decide +kernel
theorem dX8_kindOnOtherLeaf_40 : decode cX8_kindOnOtherLeaf 40 = .ok (.aaload, 1) := by decide +kernel
theorem dX8_kindOnOtherLeaf_41 : decode cX8_kindOnOtherLeaf 41 = .ok (.getfield 141, 3) := by decide +kernel
theorem dX8_kindOnOtherLeaf_44 : decode cX8_kindOnOtherLeaf 44 = .ok (.ireturn, 1) := by decide +kernel
theorem dX9_init_0 : decode cX9_init 0 = .ok (.aload_n 0, 1) := by decide +kernel
theorem dX9_init_1 : decode cX9_init 1 = .ok (.invokespecial 1, 3) := by decide +kernel
theorem dX9_init_4 : decode cX9_init 4 = .ok (.aload_n 0, 1) := by decide +kernel
theorem dX9_init_5 : decode cX9_init 5 = .ok (.new 7, 3) := by decide +kernel
theorem dX9_init_8 : decode cX9_init 8 = .ok (.dup, 1) := by decide +kernel
theorem dX9_init_9 : decode cX9_init 9 = .ok (.invokespecial 9, 3) := by decide +kernel
theorem dX9_init_12 : decode cX9_init 12 = .ok (.putfield 10, 3) := by decide +kernel
theorem dX9_init_15 : decode cX9_init 15 = .ok (.aload_n 0, 1) := by decide +kernel
theorem dX9_init_16 : decode cX9_init 16 = .ok (.new 16, 3) := by decide +kernel
theorem dX9_init_19 : decode cX9_init 19 = .ok (.dup, 1) := by decide +kernel
theorem dX9_init_20 : decode cX9_init 20 = .ok (.invokespecial 18, 3) := by decide +kernel
theorem dX9_init_23 : decode cX9_init 23 = .ok (.putfield 19, 3) := by decide +kernel
theorem dX9_init_26 : decode cX9_init 26 = .ok (.aload_n 0, 1) := by decide +kernel
theorem dX9_init_27 : decode cX9_init 27 = .ok (.new 23, 3) := by decide +kernel
theorem dX9_init_30 : decode cX9_init 30 = .ok (.dup, 1) := by decide +kernel
theorem dX9_init_31 : decode cX9_init 31 = .ok (.invokespecial 25, 3) := by decide +kernel
theorem dX9_init_34 : decode cX9_init 34 = .ok (.putfield 26, 3) := by decide +kernel
theorem dX9_init_37 : decode cX9_init 37 = .ok (.aload_n 0, 1) := by decide +kernel
theorem dX9_init_38 : decode cX9_init 38 = .ok (.new 30, 3) := by decide +kernel
theorem dX9_init_41 : decode cX9_init 41 = .ok (.dup, 1) := by decide +kernel
theorem dX9_init_42 : decode cX9_init 42 = .ok (.aload_n 0, 1) := by decide +kernel
theorem dX9_init_43 : decode cX9_init 43 = .ok (.getfield 19, 3) := by decide +kernel
theorem dX9_init_46 : decode cX9_init 46 = .ok (.invokespecial 32, 3) := by decide +kernel
theorem dX9_init_49 : decode cX9_init 49 = .ok (.putfield 35, 3) := by decide +kernel
theorem dX9_init_52 : decode cX9_init 52 = .ok (.aload_n 0, 1) := by decide +kernel
theorem dX9_init_53 : decode cX9_init 53 = .ok (.new 39, 3) := by decide +kernel
theorem dX9_init_56 : decode cX9_init 56 = .ok (.dup, 1) := by decide +kernel
theorem dX9_init_57 : decode cX9_init 57 = .ok (.aload_n 0, 1) := by decide +kernel
theorem dX9_init_58 : decode cX9_init 58 = .ok (.getfield 19, 3) := by decide +kernel
theorem dX9_init_61 : decode cX9_init 61 = .ok (.aload_n 0, 1) := by decide +kernel
theorem dX9_init_62 : decode cX9_init 62 = .ok (.getfield 26, 3) := by decide +kernel
theorem dX9_init_65 : decode cX9_init 65 = .ok (.aload_n 0, 1) := by decide +kernel
theorem dX9_init_66 : decode cX9_init 66 = .ok (.getfield 35, 3) := by decide +kernel
theorem dX9_init_69 : decode cX9_init 69 = .ok (.invokespecial 41, 3) := by decide +kernel
theorem dX9_init_72 : decode cX9_init 72 = .ok (.putfield 44, 3) := by decide +kernel
theorem dX9_init_75 : decode cX9_init 75 = .ok (.aload_n 0, 1) := by decide +kernel
theorem dX9_init_76 : decode cX9_init 76 = .ok (.iconst 2, 1) := by decide +kernel
theorem dX9_init_77 : decode cX9_init 77 = .ok (.anewarray 48, 3) := by decide +kernel
theorem dX9_init_80 : decode cX9_init 80 = .ok (.putfield 50, 3) := by decide +kernel
theorem dX9_init_83 : decode cX9_init 83 = .ok (.aload_n 0, 1) := by decide +kernel
theorem dX9_init_84 : decode cX9_init 84 = .ok (.bipush 20, 2) := by decide +kernel
theorem dX9_init_86 : decode cX9_init 86 = .ok (.newarray .int, 2) := by decide +kernel
theorem dX9_init_88 : decode cX9_init 88 = .ok (.putfield 54, 3) := by decide +kernel
theorem dX9_init_91 : decode cX9_init 91 = .ok (.aload_n 0, 1) := by decide +kernel
theorem dX9_init_92 : decode cX9_init 92 = .ok (.bipush 20, 2) := by decide +kernel
theorem dX9_init_94 : decode cX9_init 94 = .ok (.newarray .int, 2) := by decide +kernel
theorem dX9_init_96 : decode cX9_init 96 = .ok (.putfield 58, 3) := by decide +kernel
theorem dX9_init_99 : decode cX9_init 99 = .ok (.aload_n 0, 1) := by decide +kernel
theorem dX9_init_100 : decode cX9_init 100 = .ok (.iconst 0, 1) := by decide +kernel
theorem dX9_init_101 : decode cX9_init 101 = .ok (.putfield 61, 3) := by decide +kernel
theorem dX9_init_104 : decode cX9_init 104 = .ok (.aload_n 0, 1) := by decide +kernel
theorem dX9_init_105 : decode cX9_init 105 = .ok (.lconst 0, 1) := by decide +kernel
theorem dX9_init_106 : decode cX9_init 106 = .ok (.putfield 65, 3) := by decide +kernel
theorem dX9_init_109 : decode cX9_init 109 = .ok (.aload_n 0, 1) := by decide +kernel
theorem dX9_init_110 : decode cX9_init 110 = .ok (.iconst (-1), 1) := by decide +kernel
theorem dX9_init_111 : decode cX9_init 111 = .ok (.putfield 69, 3) := by decide +kernel
theorem dX9_init_114 : decode cX9_init 114 = .ok (.iconst 0, 1) := by decide +kernel
theorem dX9_init_115 : decode cX9_init 115 = .ok (.istore_n 1, 1) := by decide +kernel
theorem dX9_init_116 : decode cX9_init 116 = .ok (.iload_n 1, 1) := by decide +kernel
theorem dX9_init_117 : decode cX9_init 117 = .ok (.iconst 2, 1) := by decide +kernel
theorem dX9_init_118 : decode cX9_init 118 = .ok (.if_icmp .ge 22, 3) := by decide +kernel
theorem dX9_init_121 : decode cX9_init 121 = .ok (.aload_n 0, 1) := by decide +kernel
theorem dX9_init_122 : decode cX9_init 122 = .ok (.getfield 50, 3) := by decide +kernel
theorem dX9_init_125 : decode cX9_init 125 = .ok (.iload_n 1, 1) := by decide +kernel
theorem dX9_init_126 : decode cX9_init 126 = .ok (.new 48, 3) := by decide +kernel
theorem dX9_init_129 : decode cX9_init 129 = .ok (.dup, 1) := by decide +kernel
theorem dX9_init_130 : decode cX9_init 130 = .ok (.invokespecial 72, 3) := by decide +kernel
theorem dX9_init_133 : decode cX9_init 133 = .ok (.aastore, 1) := by decide +kernel
theorem dX9_init_134 : decode cX9_init 134 = .ok (.iinc 1 1, 3) := by decide +kernel
theorem dX9_init_137 : decode cX9_init 137 = .ok (.goto (-21), 3) := by decide +kernel
theorem dX9_init_140 : decode cX9_init 140 = .ok (.return_, 1) := by decide +kernel
theorem dX9_feed_0 : decode cX9_feed 0 = .ok (.iload_n 1, 1) := by decide +kernel
theorem dX9_feed_1 : decode cX9_feed 1 = .ok (.ifCond .lt 10, 3) := by decide +kernel
theorem dX9_feed_4 : decode cX9_feed 4 = .ok (.iload_n 1, 1) := by decide +kernel
theorem dX9_feed_5 : decode cX9_feed 5 = .ok (.sipush 255, 3) := by decide +kernel
theorem dX9_feed_8 : decode cX9_feed 8 = .ok (.if_icmp .le 6, 3) := by decide +kernel
theorem dX9_feed_11 : decode cX9_feed 11 = .ok (.ldc 73, 2) := by decide +kernel
theorem dX9_feed_13 : decode cX9_feed 13 = .ok (.ireturn, 1) := by decide +kernel
theorem dX9_feed_14 : decode cX9_feed 14 = .ok (.aload_n 0, 1) := by decide +kernel
theorem dX9_feed_15 : decode cX9_feed 15 = .ok (.getfield 10, 3) := by decide +kernel
theorem dX9_feed_18 : decode cX9_feed 18 = .ok (.getfield 74, 3) := by decide +kernel
theorem dX9_feed_21 : decode cX9_feed 21 = .ok (.sipush 250, 3) := by decide +kernel
theorem dX9_feed_24 : decode cX9_feed 24 = .ok (.if_icmp .lt 6, 3) := by decide +kernel
theorem dX9_feed_27 : decode cX9_feed 27 = .ok (.ldc 77, 2) := by decide +kernel
theorem dX9_feed_29 : decode cX9_feed 29 = .ok (.ireturn, 1) := by decide +kernel
theorem dX9_feed_30 : decode cX9_feed 30 = .ok (.aload_n 0, 1) := by decide +kernel
theorem dX9_feed_31 : decode cX9_feed 31 = .ok (.getfield 10, 3) := by decide +kernel
theorem dX9_feed_34 : decode cX9_feed 34 = .ok (.iload_n 1, 1) := by decide +kernel
theorem dX9_feed_35 : decode cX9_feed 35 = .ok (.invokevirtual 78, 3) := by decide +kernel
theorem dX9_feed_38 : decode cX9_feed 38 = .ok (.ireturn, 1) := by decide +kernel
theorem dX9_house_0 : decode cX9_house 0 = .ok (.aload_n 0, 1) := by decide +kernel
theorem dX9_house_1 : decode cX9_house 1 = .ok (.getfield 10, 3) := by decide +kernel
theorem dX9_house_4 : decode cX9_house 4 = .ok (.invokevirtual 82, 3) := by decide +kernel
theorem dX9_house_7 : decode cX9_house 7 = .ok (.aload_n 0, 1) := by decide +kernel
theorem dX9_house_8 : decode cX9_house 8 = .ok (.getfield 10, 3) := by decide +kernel
theorem dX9_house_11 : decode cX9_house 11 = .ok (.getfield 85, 3) := by decide +kernel
theorem dX9_house_14 : decode cX9_house 14 = .ok (.ifCond .eq 25, 3) := by decide +kernel
theorem dX9_house_17 : decode cX9_house 17 = .ok (.aload_n 0, 1) := by decide +kernel
theorem dX9_house_18 : decode cX9_house 18 = .ok (.aload_n 0, 1) := by decide +kernel
theorem dX9_house_19 : decode cX9_house 19 = .ok (.getfield 10, 3) := by decide +kernel
theorem dX9_house_22 : decode cX9_house 22 = .ok (.getfield 88, 3) := by decide +kernel
theorem dX9_house_25 : decode cX9_house 25 = .ok (.putfield 69, 3) := by decide +kernel
theorem dX9_house_28 : decode cX9_house 28 = .ok (.bipush (-10), 2) := by decide +kernel
theorem dX9_house_30 : decode cX9_house 30 = .ok (.aload_n 0, 1) := by decide +kernel
theorem dX9_house_31 : decode cX9_house 31 = .ok (.getfield 10, 3) := by decide +kernel
theorem dX9_house_34 : decode cX9_house 34 = .ok (.getfield 85, 3) := by decide +kernel
theorem dX9_house_37 : decode cX9_house 37 = .ok (.isub, 1) := by decide +kernel
theorem dX9_house_38 : decode cX9_house 38 = .ok (.ireturn, 1) := by decide +kernel
theorem dX9_house_39 : decode cX9_house 39 = .ok (.aload_n 0, 1) := by decide +kernel
theorem dX9_house_40 : decode cX9_house 40 = .ok (.iconst (-1), 1) := by decide +kernel
theorem dX9_house_41 : decode cX9_house 41 = .ok (.putfield 69, 3) := by decide +kernel
theorem dX9_house_44 : decode cX9_house 44 = .ok (.aload_n 0, 1) := by decide +kernel
theorem dX9_house_45 : decode cX9_house 45 = .ok (.getfield 19, 3) := by decide +kernel
theorem dX9_house_48 : decode cX9_house 48 = .ok (.aload_n 0, 1) := by decide +kernel
theorem dX9_house_49 : decode cX9_house 49 = .ok (.getfield 10, 3) := by decide +kernel
theorem dX9_house_52 : decode cX9_house 52 = .ok (.getfield 89, 3) := by decide +kernel
theorem dX9_house_55 : decode cX9_house 55 = .ok (.invokevirtual 90, 3) := by decide +kernel
theorem dX9_house_58 : decode cX9_house 58 = .ok (.aload_n 0, 1) := by decide +kernel
theorem dX9_house_59 : decode cX9_house 59 = .ok (.getfield 26, 3) := by decide +kernel
theorem dX9_house_62 : decode cX9_house 62 = .ok (.aload_n 0, 1) := by decide +kernel
theorem dX9_house_63 : decode cX9_house 63 = .ok (.getfield 10, 3) := by decide +kernel
theorem dX9_house_66 : decode cX9_house 66 = .ok (.getfield 93, 3) := by decide +kernel
theorem dX9_house_69 : decode cX9_house 69 = .ok (.invokevirtual 94, 3) := by decide +kernel
theorem dX9_house_72 : decode cX9_house 72 = .ok (.aload_n 0, 1) := by decide +kernel
theorem dX9_house_73 : decode cX9_house 73 = .ok (.iconst 0, 1) := by decide +kernel
theorem dX9_house_74 : decode cX9_house 74 = .ok (.putfield 61, 3) := by decide +kernel
theorem dX9_house_77 : decode cX9_house 77 = .ok (.iconst 0, 1) := by decide +kernel
theorem dX9_house_78 : decode cX9_house 78 = .ok (.istore_n 1, 1) := by decide +kernel
theorem dX9_house_79 : decode cX9_house 79 = .ok (.iload_n 1, 1) := by decide +kernel
theorem dX9_house_80 : decode cX9_house 80 = .ok (.iconst 2, 1) := by decide +kernel
theorem dX9_house_81 : decode cX9_house 81 = .ok (.if_icmp .ge 19, 3) := by decide +kernel
theorem dX9_house_84 : decode cX9_house 84 = .ok (.aload_n 0, 1) := by decide +kernel
theorem dX9_house_85 : decode cX9_house 85 = .ok (.getfield 50, 3) := by decide +kernel
theorem dX9_house_88 : decode cX9_house 88 = .ok (.iload_n 1, 1) := by decide +kernel
theorem dX9_house_89 : decode cX9_house 89 = .ok (.aaload, 1) := by decide +kernel
theorem dX9_house_90 : decode cX9_house 90 = .ok (.iconst 0, 1) := by decide +kernel
theorem dX9_house_91 : decode cX9_house 91 = .ok (.putfield 97, 3) := by decide +kernel
theorem dX9_house_94 : decode cX9_house 94 = .ok (.iinc 1 1, 3) := by decide +kernel
theorem dX9_house_97 : decode cX9_house 97 = .ok (.goto (-18), 3) := by decide +kernel
theorem dX9_house_100 : decode cX9_house 100 = .ok (.aload_n 0, 1) := by decide +kernel
theorem dX9_house_101 : decode cX9_house 101 = .ok (.getfield 19, 3) := by decide +kernel
theorem dX9_house_104 : decode cX9_house 104 = .ok (.getfield 101, 3) := by decide +kernel
theorem dX9_house_107 : decode cX9_house 107 = .ok (.ireturn, 1) := by decide +kernel
theorem dX9_fault_0 : decode cX9_fault 0 = .ok (.aload_n 0, 1) := by decide +kernel
theorem dX9_fault_1 : decode cX9_fault 1 = .ok (.getfield 69, 3) := by decide +kernel
theorem dX9_fault_4 : decode cX9_fault 4 = .ok (.ireturn, 1) := by decide +kernel
theorem dX9_told_0 : decode cX9_told 0 = .ok (.iload_n 1, 1) := by decide +kernel
theorem dX9_told_1 : decode cX9_told 1 = .ok (.ifCond .lt 9, 3) := by decide +kernel
theorem dX9_told_4 : decode cX9_told 4 = .ok (.iload_n 1, 1) := by decide +kernel
theorem dX9_told_5 : decode cX9_told 5 = .ok (.bipush 10, 2) := by decide +kernel
theorem dX9_told_7 : decode cX9_told 7 = .ok (.if_icmp .le 6, 3) := by decide +kernel
theorem dX9_told_10 : decode cX9_told 10 = .ok (.ldc 73, 2) := by decide +kernel
theorem dX9_told_12 : decode cX9_told 12 = .ok (.ireturn, 1) := by decide +kernel
theorem dX9_told_13 : decode cX9_told 13 = .ok (.iload_n 1, 1) := by decide +kernel
theorem dX9_told_14 : decode cX9_told 14 = .ok (.tableswitch 71 0 4 #[34, 42, 50, 58, 66], 34) := by decide +kernel
theorem dX9_told_48 : decode cX9_told 48 = .ok (.aload_n 0, 1) := by decide +kernel
theorem dX9_told_49 : decode cX9_told 49 = .ok (.getfield 19, 3) := by decide +kernel
theorem dX9_told_52 : decode cX9_told 52 = .ok (.getfield 101, 3) := by decide +kernel
theorem dX9_told_55 : decode cX9_told 55 = .ok (.ireturn, 1) := by decide +kernel
theorem dX9_told_56 : decode cX9_told 56 = .ok (.aload_n 0, 1) := by decide +kernel
theorem dX9_told_57 : decode cX9_told 57 = .ok (.getfield 10, 3) := by decide +kernel
theorem dX9_told_60 : decode cX9_told 60 = .ok (.getfield 74, 3) := by decide +kernel
theorem dX9_told_63 : decode cX9_told 63 = .ok (.ireturn, 1) := by decide +kernel
theorem dX9_told_64 : decode cX9_told 64 = .ok (.aload_n 0, 1) := by decide +kernel
theorem dX9_told_65 : decode cX9_told 65 = .ok (.getfield 26, 3) := by decide +kernel
theorem dX9_told_68 : decode cX9_told 68 = .ok (.getfield 104, 3) := by decide +kernel
theorem dX9_told_71 : decode cX9_told 71 = .ok (.ireturn, 1) := by decide +kernel
theorem dX9_told_72 : decode cX9_told 72 = .ok (.aload_n 0, 1) := by decide +kernel
theorem dX9_told_73 : decode cX9_told 73 = .ok (.getfield 26, 3) := by decide +kernel
theorem dX9_told_76 : decode cX9_told 76 = .ok (.getfield 107, 3) := by decide +kernel
theorem dX9_told_79 : decode cX9_told 79 = .ok (.ireturn, 1) := by decide +kernel
theorem dX9_told_80 : decode cX9_told 80 = .ok (.aload_n 0, 1) := by decide +kernel
theorem dX9_told_81 : decode cX9_told 81 = .ok (.getfield 61, 3) := by decide +kernel
theorem dX9_told_84 : decode cX9_told 84 = .ok (.ireturn, 1) := by decide +kernel
theorem dX9_told_85 : decode cX9_told 85 = .ok (.aload_n 0, 1) := by decide +kernel
theorem dX9_told_86 : decode cX9_told 86 = .ok (.iload_n 1, 1) := by decide +kernel
theorem dX9_told_87 : decode cX9_told 87 = .ok (.invokevirtual 110, 3) := by decide +kernel
theorem dX9_told_90 : decode cX9_told 90 = .ok (.ireturn, 1) := by decide +kernel
theorem dX9_toldOfEvening_0 : decode cX9_toldOfEvening 0 = .ok (.aload_n 0, 1) := by decide +kernel
theorem dX9_toldOfEvening_1 : decode cX9_toldOfEvening 1 = .ok (.getfield 35, 3) := by decide +kernel
theorem dX9_toldOfEvening_4 : decode cX9_toldOfEvening 4 = .ok (.aload_n 0, 1) := by decide +kernel
theorem dX9_toldOfEvening_5 : decode cX9_toldOfEvening 5 = .ok (.getfield 26, 3) := by decide +kernel
theorem dX9_toldOfEvening_8 : decode cX9_toldOfEvening 8 = .ok (.invokevirtual 113, 3) := by decide +kernel
theorem dX9_toldOfEvening_11 : decode cX9_toldOfEvening 11 = .ok (.iload_n 1, 1) := by decide +kernel
theorem dX9_toldOfEvening_12 : decode cX9_toldOfEvening 12 = .ok (.tableswitch 79 5 9 #[36, 44, 52, 60, 70], 36) := by decide +kernel
theorem dX9_toldOfEvening_48 : decode cX9_toldOfEvening 48 = .ok (.aload_n 0, 1) := by decide +kernel
theorem dX9_toldOfEvening_49 : decode cX9_toldOfEvening 49 = .ok (.getfield 35, 3) := by decide +kernel
theorem dX9_toldOfEvening_52 : decode cX9_toldOfEvening 52 = .ok (.invokevirtual 116, 3) := by decide +kernel
theorem dX9_toldOfEvening_55 : decode cX9_toldOfEvening 55 = .ok (.ireturn, 1) := by decide +kernel
theorem dX9_toldOfEvening_56 : decode cX9_toldOfEvening 56 = .ok (.aload_n 0, 1) := by decide +kernel
theorem dX9_toldOfEvening_57 : decode cX9_toldOfEvening 57 = .ok (.getfield 35, 3) := by decide +kernel
theorem dX9_toldOfEvening_60 : decode cX9_toldOfEvening 60 = .ok (.invokevirtual 120, 3) := by decide +kernel
theorem dX9_toldOfEvening_63 : decode cX9_toldOfEvening 63 = .ok (.ireturn, 1) := by decide +kernel
theorem dX9_toldOfEvening_64 : decode cX9_toldOfEvening 64 = .ok (.aload_n 0, 1) := by decide +kernel
theorem dX9_toldOfEvening_65 : decode cX9_toldOfEvening 65 = .ok (.getfield 35, 3) := by decide +kernel
theorem dX9_toldOfEvening_68 : decode cX9_toldOfEvening 68 = .ok (.invokevirtual 123, 3) := by decide +kernel
theorem dX9_toldOfEvening_71 : decode cX9_toldOfEvening 71 = .ok (.ireturn, 1) := by decide +kernel
theorem dX9_toldOfEvening_72 : decode cX9_toldOfEvening 72 = .ok (.aload_n 0, 1) := by decide +kernel
theorem dX9_toldOfEvening_73 : decode cX9_toldOfEvening 73 = .ok (.getfield 35, 3) := by decide +kernel
theorem dX9_toldOfEvening_76 : decode cX9_toldOfEvening 76 = .ok (.bipush 6, 2) := by decide +kernel
theorem dX9_toldOfEvening_78 : decode cX9_toldOfEvening 78 = .ok (.invokevirtual 126, 3) := by decide +kernel
theorem dX9_toldOfEvening_81 : decode cX9_toldOfEvening 81 = .ok (.ireturn, 1) := by decide +kernel
theorem dX9_toldOfEvening_82 : decode cX9_toldOfEvening 82 = .ok (.aload_n 0, 1) := by decide +kernel
theorem dX9_toldOfEvening_83 : decode cX9_toldOfEvening 83 = .ok (.getfield 35, 3) := by decide +kernel
theorem dX9_toldOfEvening_86 : decode cX9_toldOfEvening 86 = .ok (.iconst 5, 1) := by decide +kernel
theorem dX9_toldOfEvening_87 : decode cX9_toldOfEvening 87 = .ok (.invokevirtual 126, 3) := by decide +kernel
theorem dX9_toldOfEvening_90 : decode cX9_toldOfEvening 90 = .ok (.ireturn, 1) := by decide +kernel
theorem dX9_toldOfEvening_91 : decode cX9_toldOfEvening 91 = .ok (.aload_n 0, 1) := by decide +kernel
theorem dX9_toldOfEvening_92 : decode cX9_toldOfEvening 92 = .ok (.getfield 35, 3) := by decide +kernel
theorem dX9_toldOfEvening_95 : decode cX9_toldOfEvening 95 = .ok (.invokevirtual 129, 3) := by decide +kernel
theorem dX9_toldOfEvening_98 : decode cX9_toldOfEvening 98 = .ok (.ireturn, 1) := by decide +kernel
theorem dX9_leaf_0 : decode cX9_leaf 0 = .ok (.iload_n 1, 1) := by decide +kernel
theorem dX9_leaf_1 : decode cX9_leaf 1 = .ok (.invokestatic 132, 3) := by decide +kernel
theorem dX9_leaf_4 : decode cX9_leaf 4 = .ok (.ifCond .eq 6, 3) := by decide +kernel
theorem dX9_leaf_7 : decode cX9_leaf 7 = .ok (.ldc 136, 2) := by decide +kernel
theorem dX9_leaf_9 : decode cX9_leaf 9 = .ok (.ireturn, 1) := by decide +kernel
theorem dX9_leaf_10 : decode cX9_leaf 10 = .ok (.iload_n 2, 1) := by decide +kernel
theorem dX9_leaf_11 : decode cX9_leaf 11 = .ok (.ifCond .lt 8, 3) := by decide +kernel
theorem dX9_leaf_14 : decode cX9_leaf 14 = .ok (.iload_n 2, 1) := by decide +kernel
theorem dX9_leaf_15 : decode cX9_leaf 15 = .ok (.iconst 3, 1) := by decide +kernel
theorem dX9_leaf_16 : decode cX9_leaf 16 = .ok (.if_icmp .le 6, 3) := by decide +kernel
theorem dX9_leaf_19 : decode cX9_leaf 19 = .ok (.ldc 73, 2) := by decide +kernel
theorem dX9_leaf_21 : decode cX9_leaf 21 = .ok (.ireturn, 1) := by decide +kernel
theorem dX9_leaf_22 : decode cX9_leaf 22 = .ok (.iload_n 2, 1) := by decide +kernel
theorem dX9_leaf_23 : decode cX9_leaf 23 = .ok (.ifCond .ne 13, 3) := by decide +kernel
theorem dX9_leaf_26 : decode cX9_leaf 26 = .ok (.aload_n 0, 1) := by decide +kernel
theorem dX9_leaf_27 : decode cX9_leaf 27 = .ok (.getfield 19, 3) := by decide +kernel
theorem dX9_leaf_30 : decode cX9_leaf 30 = .ok (.getfield 137, 3) := by decide +kernel
theorem dX9_leaf_33 : decode cX9_leaf 33 = .ok (.iload_n 1, 1) := by decide +kernel
theorem dX9_leaf_34 : decode cX9_leaf 34 = .ok (.iaload, 1) := by decide +kernel
theorem dX9_leaf_35 : decode cX9_leaf 35 = .ok (.ireturn, 1) := by decide +kernel
theorem dX9_leaf_36 : decode cX9_leaf 36 = .ok (.iload_n 2, 1) := by decide +kernel
theorem dX9_leaf_37 : decode cX9_leaf 37 = .ok (.iconst 1, 1) := by decide +kernel
theorem dX9_leaf_38 : decode cX9_leaf 38 = .ok (.if_icmp .ne 13, 3) := by decide +kernel
theorem dX9_leaf_41 : decode cX9_leaf 41 = .ok (.aload_n 0, 1) := by decide +kernel
theorem dX9_leaf_42 : decode cX9_leaf 42 = .ok (.getfield 19, 3) := by decide +kernel
theorem dX9_leaf_45 : decode cX9_leaf 45 = .ok (.getfield 140, 3) := by decide +kernel
theorem dX9_leaf_48 : decode cX9_leaf 48 = .ok (.iload_n 1, 1) := by decide +kernel
theorem dX9_leaf_49 : decode cX9_leaf 49 = .ok (.iaload, 1) := by decide +kernel
theorem dX9_leaf_50 : decode cX9_leaf 50 = .ok (.ireturn, 1) := by decide +kernel
theorem dX9_leaf_51 : decode cX9_leaf 51 = .ok (.aload_n 0, 1) := by decide +kernel
theorem dX9_leaf_52 : decode cX9_leaf 52 = .ok (.getfield 35, 3) := by decide +kernel
theorem dX9_leaf_55 : decode cX9_leaf 55 = .ok (.aload_n 0, 1) := by decide +kernel
theorem dX9_leaf_56 : decode cX9_leaf 56 = .ok (.getfield 26, 3) := by decide +kernel
theorem dX9_leaf_59 : decode cX9_leaf 59 = .ok (.invokevirtual 113, 3) := by decide +kernel
theorem dX9_leaf_62 : decode cX9_leaf 62 = .ok (.iload_n 2, 1) := by decide +kernel
theorem dX9_leaf_63 : decode cX9_leaf 63 = .ok (.iconst 2, 1) := by decide +kernel
theorem dX9_leaf_64 : decode cX9_leaf 64 = .ok (.if_icmp .ne 18, 3) := by decide +kernel
theorem dX9_leaf_67 : decode cX9_leaf 67 = .ok (.aload_n 0, 1) := by decide +kernel
theorem dX9_leaf_68 : decode cX9_leaf 68 = .ok (.getfield 35, 3) := by decide +kernel
theorem dX9_leaf_71 : decode cX9_leaf 71 = .ok (.getfield 143, 3) := by decide +kernel
theorem dX9_leaf_74 : decode cX9_leaf 74 = .ok (.iload_n 1, 1) := by decide +kernel
theorem dX9_leaf_75 : decode cX9_leaf 75 = .ok (.aaload, 1) := by decide +kernel
theorem dX9_leaf_76 : decode cX9_leaf 76 = .ok (.getfield 147, 3) := by decide +kernel
theorem dX9_leaf_79 : decode cX9_leaf 79 = .ok (.goto 15, 3) := by decide +kernel
theorem dX9_leaf_82 : decode cX9_leaf 82 = .ok (.aload_n 0, 1) := by decide +kernel
theorem dX9_leaf_83 : decode cX9_leaf 83 = .ok (.getfield 35, 3) := by decide +kernel
theorem dX9_leaf_86 : decode cX9_leaf 86 = .ok (.getfield 143, 3) := by decide +kernel
theorem dX9_leaf_89 : decode cX9_leaf 89 = .ok (.iload_n 1, 1) := by decide +kernel
theorem dX9_leaf_90 : decode cX9_leaf 90 = .ok (.aaload, 1) := by decide +kernel
theorem dX9_leaf_91 : decode cX9_leaf 91 = .ok (.getfield 152, 3) := by decide +kernel
theorem dX9_leaf_94 : decode cX9_leaf 94 = .ok (.ireturn, 1) := by decide +kernel
theorem dX9_waiter_0 : decode cX9_waiter 0 = .ok (.aload_n 0, 1) := by decide +kernel
theorem dX9_waiter_1 : decode cX9_waiter 1 = .ok (.iload_n 1, 1) := by decide +kernel
theorem dX9_waiter_2 : decode cX9_waiter 2 = .ok (.invokevirtual 155, 3) := by decide +kernel
theorem dX9_waiter_5 : decode cX9_waiter 5 = .ok (.ifCond .eq 6, 3) := by decide +kernel
theorem dX9_waiter_8 : decode cX9_waiter 8 = .ok (.ldc 136, 2) := by decide +kernel
theorem dX9_waiter_10 : decode cX9_waiter 10 = .ok (.ireturn, 1) := by decide +kernel
theorem dX9_waiter_11 : decode cX9_waiter 11 = .ok (.iload_n 2, 1) := by decide +kernel
theorem dX9_waiter_12 : decode cX9_waiter 12 = .ok (.ifCond .lt 9, 3) := by decide +kernel
theorem dX9_waiter_15 : decode cX9_waiter 15 = .ok (.iload_n 2, 1) := by decide +kernel
theorem dX9_waiter_16 : decode cX9_waiter 16 = .ok (.bipush 6, 2) := by decide +kernel
theorem dX9_waiter_18 : decode cX9_waiter 18 = .ok (.if_icmp .le 6, 3) := by decide +kernel
theorem dX9_waiter_21 : decode cX9_waiter 21 = .ok (.ldc 73, 2) := by decide +kernel
theorem dX9_waiter_23 : decode cX9_waiter 23 = .ok (.ireturn, 1) := by decide +kernel
theorem dX9_waiter_24 : decode cX9_waiter 24 = .ok (.iload_n 2, 1) := by decide +kernel
theorem dX9_waiter_25 : decode cX9_waiter 25 = .ok (.tableswitch 99 0 5 #[39, 49, 59, 69, 79, 89], 39) := by decide +kernel
theorem dX9_waiter_64 : decode cX9_waiter 64 = .ok (.aload_n 0, 1) := by decide +kernel
theorem dX9_waiter_65 : decode cX9_waiter 65 = .ok (.getfield 19, 3) := by decide +kernel
theorem dX9_waiter_68 : decode cX9_waiter 68 = .ok (.getfield 158, 3) := by decide +kernel
theorem dX9_waiter_71 : decode cX9_waiter 71 = .ok (.iload_n 1, 1) := by decide +kernel
theorem dX9_waiter_72 : decode cX9_waiter 72 = .ok (.iaload, 1) := by decide +kernel
theorem dX9_waiter_73 : decode cX9_waiter 73 = .ok (.ireturn, 1) := by decide +kernel
theorem dX9_waiter_74 : decode cX9_waiter 74 = .ok (.aload_n 0, 1) := by decide +kernel
theorem dX9_waiter_75 : decode cX9_waiter 75 = .ok (.getfield 26, 3) := by decide +kernel
theorem dX9_waiter_78 : decode cX9_waiter 78 = .ok (.getfield 161, 3) := by decide +kernel
theorem dX9_waiter_81 : decode cX9_waiter 81 = .ok (.iload_n 1, 1) := by decide +kernel
theorem dX9_waiter_82 : decode cX9_waiter 82 = .ok (.iaload, 1) := by decide +kernel
theorem dX9_waiter_83 : decode cX9_waiter 83 = .ok (.ireturn, 1) := by decide +kernel
theorem dX9_waiter_84 : decode cX9_waiter 84 = .ok (.aload_n 0, 1) := by decide +kernel
theorem dX9_waiter_85 : decode cX9_waiter 85 = .ok (.getfield 19, 3) := by decide +kernel
theorem dX9_waiter_88 : decode cX9_waiter 88 = .ok (.getfield 164, 3) := by decide +kernel
theorem dX9_waiter_91 : decode cX9_waiter 91 = .ok (.iload_n 1, 1) := by decide +kernel
theorem dX9_waiter_92 : decode cX9_waiter 92 = .ok (.iaload, 1) := by decide +kernel
theorem dX9_waiter_93 : decode cX9_waiter 93 = .ok (.ireturn, 1) := by decide +kernel
theorem dX9_waiter_94 : decode cX9_waiter 94 = .ok (.aload_n 0, 1) := by decide +kernel
theorem dX9_waiter_95 : decode cX9_waiter 95 = .ok (.getfield 19, 3) := by decide +kernel
theorem dX9_waiter_98 : decode cX9_waiter 98 = .ok (.getfield 167, 3) := by decide +kernel
theorem dX9_waiter_101 : decode cX9_waiter 101 = .ok (.iload_n 1, 1) := by decide +kernel
theorem dX9_waiter_102 : decode cX9_waiter 102 = .ok (.iaload, 1) := by decide +kernel
theorem dX9_waiter_103 : decode cX9_waiter 103 = .ok (.ireturn, 1) := by decide +kernel
theorem dX9_waiter_104 : decode cX9_waiter 104 = .ok (.aload_n 0, 1) := by decide +kernel
theorem dX9_waiter_105 : decode cX9_waiter 105 = .ok (.getfield 26, 3) := by decide +kernel
theorem dX9_waiter_108 : decode cX9_waiter 108 = .ok (.getfield 170, 3) := by decide +kernel
theorem dX9_waiter_111 : decode cX9_waiter 111 = .ok (.iload_n 1, 1) := by decide +kernel
theorem dX9_waiter_112 : decode cX9_waiter 112 = .ok (.iaload, 1) := by decide +kernel
theorem dX9_waiter_113 : decode cX9_waiter 113 = .ok (.ireturn, 1) := by decide +kernel
theorem dX9_waiter_114 : decode cX9_waiter 114 = .ok (.aload_n 0, 1) := by decide +kernel
theorem dX9_waiter_115 : decode cX9_waiter 115 = .ok (.getfield 26, 3) := by decide +kernel
theorem dX9_waiter_118 : decode cX9_waiter 118 = .ok (.getfield 172, 3) := by decide +kernel
theorem dX9_waiter_121 : decode cX9_waiter 121 = .ok (.iload_n 1, 1) := by decide +kernel
theorem dX9_waiter_122 : decode cX9_waiter 122 = .ok (.iaload, 1) := by decide +kernel
theorem dX9_waiter_123 : decode cX9_waiter 123 = .ok (.ireturn, 1) := by decide +kernel
theorem dX9_waiter_124 : decode cX9_waiter 124 = .ok (.aload_n 0, 1) := by decide +kernel
theorem dX9_waiter_125 : decode cX9_waiter 125 = .ok (.getfield 19, 3) := by decide +kernel
theorem dX9_waiter_128 : decode cX9_waiter 128 = .ok (.getfield 175, 3) := by decide +kernel
theorem dX9_waiter_131 : decode cX9_waiter 131 = .ok (.iload_n 1, 1) := by decide +kernel
theorem dX9_waiter_132 : decode cX9_waiter 132 = .ok (.iaload, 1) := by decide +kernel
theorem dX9_waiter_133 : decode cX9_waiter 133 = .ok (.ireturn, 1) := by decide +kernel
theorem dX9_come_0 : decode cX9_come 0 = .ok (.aload_n 0, 1) := by decide +kernel
theorem dX9_come_1 : decode cX9_come 1 = .ok (.aload_n 0, 1) := by decide +kernel
theorem dX9_come_2 : decode cX9_come 2 = .ok (.getfield 26, 3) := by decide +kernel
theorem dX9_come_5 : decode cX9_come 5 = .ok (.getfield 161, 3) := by decide +kernel
theorem dX9_come_8 : decode cX9_come 8 = .ok (.iload_n 1, 1) := by decide +kernel
theorem dX9_come_9 : decode cX9_come 9 = .ok (.iload_n 2, 1) := by decide +kernel
theorem dX9_come_10 : decode cX9_come 10 = .ok (.iconst 0, 1) := by decide +kernel
theorem dX9_come_11 : decode cX9_come 11 = .ok (.sipush 999, 3) := by decide +kernel
theorem dX9_come_14 : decode cX9_come 14 = .ok (.invokevirtual 178, 3) := by decide +kernel
theorem dX9_come_17 : decode cX9_come 17 = .ok (.ireturn, 1) := by decide +kernel
theorem dX9_rule_0 : decode cX9_rule 0 = .ok (.aload_n 0, 1) := by decide +kernel
theorem dX9_rule_1 : decode cX9_rule 1 = .ok (.aload_n 0, 1) := by decide +kernel
theorem dX9_rule_2 : decode cX9_rule 2 = .ok (.getfield 26, 3) := by decide +kernel
theorem dX9_rule_5 : decode cX9_rule 5 = .ok (.getfield 172, 3) := by decide +kernel
theorem dX9_rule_8 : decode cX9_rule 8 = .ok (.iload_n 1, 1) := by decide +kernel
theorem dX9_rule_9 : decode cX9_rule 9 = .ok (.iload_n 2, 1) := by decide +kernel
theorem dX9_rule_10 : decode cX9_rule 10 = .ok (.iconst 0, 1) := by decide +kernel
theorem dX9_rule_11 : decode cX9_rule 11 = .ok (.iconst 2, 1) := by decide +kernel
theorem dX9_rule_12 : decode cX9_rule 12 = .ok (.invokevirtual 178, 3) := by decide +kernel
theorem dX9_rule_15 : decode cX9_rule 15 = .ok (.ireturn, 1) := by decide +kernel
theorem dX9_kick_0 : decode cX9_kick 0 = .ok (.aload_n 0, 1) := by decide +kernel
theorem dX9_kick_1 : decode cX9_kick 1 = .ok (.aload_n 0, 1) := by decide +kernel
theorem dX9_kick_2 : decode cX9_kick 2 = .ok (.getfield 26, 3) := by decide +kernel
theorem dX9_kick_5 : decode cX9_kick 5 = .ok (.getfield 170, 3) := by decide +kernel
theorem dX9_kick_8 : decode cX9_kick 8 = .ok (.iload_n 1, 1) := by decide +kernel
theorem dX9_kick_9 : decode cX9_kick 9 = .ok (.iload_n 2, 1) := by decide +kernel
theorem dX9_kick_10 : decode cX9_kick 10 = .ok (.iconst 1, 1) := by decide +kernel
theorem dX9_kick_11 : decode cX9_kick 11 = .ok (.bipush 9, 2) := by decide +kernel
theorem dX9_kick_13 : decode cX9_kick 13 = .ok (.invokevirtual 178, 3) := by decide +kernel
theorem dX9_kick_16 : decode cX9_kick 16 = .ok (.ireturn, 1) := by decide +kernel
theorem dX9_put_0 : decode cX9_put 0 = .ok (.aload_n 0, 1) := by decide +kernel
theorem dX9_put_1 : decode cX9_put 1 = .ok (.iload_n 2, 1) := by decide +kernel
theorem dX9_put_2 : decode cX9_put 2 = .ok (.invokevirtual 155, 3) := by decide +kernel
theorem dX9_put_5 : decode cX9_put 5 = .ok (.ifCond .eq 6, 3) := by decide +kernel
theorem dX9_put_8 : decode cX9_put 8 = .ok (.ldc 136, 2) := by decide +kernel
theorem dX9_put_10 : decode cX9_put 10 = .ok (.ireturn, 1) := by decide +kernel
theorem dX9_put_11 : decode cX9_put 11 = .ok (.iload_n 3, 1) := by decide +kernel
theorem dX9_put_12 : decode cX9_put 12 = .ok (.iload 4, 2) := by decide +kernel
theorem dX9_put_14 : decode cX9_put 14 = .ok (.if_icmp .lt 9, 3) := by decide +kernel
theorem dX9_put_17 : decode cX9_put 17 = .ok (.iload_n 3, 1) := by decide +kernel
theorem dX9_put_18 : decode cX9_put 18 = .ok (.iload 5, 2) := by decide +kernel
theorem dX9_put_20 : decode cX9_put 20 = .ok (.if_icmp .le 6, 3) := by decide +kernel
theorem dX9_put_23 : decode cX9_put 23 = .ok (.ldc 73, 2) := by decide +kernel
theorem dX9_put_25 : decode cX9_put 25 = .ok (.ireturn, 1) := by decide +kernel
theorem dX9_put_26 : decode cX9_put 26 = .ok (.aload_n 1, 1) := by decide +kernel
theorem dX9_put_27 : decode cX9_put 27 = .ok (.iload_n 2, 1) := by decide +kernel
theorem dX9_put_28 : decode cX9_put 28 = .ok (.iaload, 1) := by decide +kernel
theorem dX9_put_29 : decode cX9_put 29 = .ok (.istore 6, 2) := by decide +kernel
theorem dX9_put_31 : decode cX9_put 31 = .ok (.aload_n 1, 1) := by decide +kernel
theorem dX9_put_32 : decode cX9_put 32 = .ok (.iload_n 2, 1) := by decide +kernel
theorem dX9_put_33 : decode cX9_put 33 = .ok (.iload_n 3, 1) := by decide +kernel
theorem dX9_put_34 : decode cX9_put 34 = .ok (.iastore, 1) := by decide +kernel
theorem dX9_put_35 : decode cX9_put 35 = .ok (.iload 6, 2) := by decide +kernel
theorem dX9_put_37 : decode cX9_put 37 = .ok (.ireturn, 1) := by decide +kernel
theorem dX9_glass_0 : decode cX9_glass 0 = .ok (.aload_n 0, 1) := by decide +kernel
theorem dX9_glass_1 : decode cX9_glass 1 = .ok (.getfield 26, 3) := by decide +kernel
theorem dX9_glass_4 : decode cX9_glass 4 = .ok (.getfield 104, 3) := by decide +kernel
theorem dX9_glass_7 : decode cX9_glass 7 = .ok (.istore_n 2, 1) := by decide +kernel
theorem dX9_glass_8 : decode cX9_glass 8 = .ok (.aload_n 0, 1) := by decide +kernel
theorem dX9_glass_9 : decode cX9_glass 9 = .ok (.getfield 26, 3) := by decide +kernel
theorem dX9_glass_12 : decode cX9_glass 12 = .ok (.iload_n 1, 1) := by decide +kernel
theorem dX9_glass_13 : decode cX9_glass 13 = .ok (.ifCond .eq 7, 3) := by decide +kernel
theorem dX9_glass_16 : decode cX9_glass 16 = .ok (.iconst 1, 1) := by decide +kernel
theorem dX9_glass_17 : decode cX9_glass 17 = .ok (.goto 4, 3) := by decide +kernel
theorem dX9_glass_20 : decode cX9_glass 20 = .ok (.iconst 0, 1) := by decide +kernel
theorem dX9_glass_21 : decode cX9_glass 21 = .ok (.putfield 104, 3) := by decide +kernel
theorem dX9_glass_24 : decode cX9_glass 24 = .ok (.iload_n 2, 1) := by decide +kernel
theorem dX9_glass_25 : decode cX9_glass 25 = .ok (.ireturn, 1) := by decide +kernel
theorem dX9_noise_0 : decode cX9_noise 0 = .ok (.iload_n 1, 1) := by decide +kernel
theorem dX9_noise_1 : decode cX9_noise 1 = .ok (.ifCond .lt 9, 3) := by decide +kernel
theorem dX9_noise_4 : decode cX9_noise 4 = .ok (.iload_n 1, 1) := by decide +kernel
theorem dX9_noise_5 : decode cX9_noise 5 = .ok (.bipush 9, 2) := by decide +kernel
theorem dX9_noise_7 : decode cX9_noise 7 = .ok (.if_icmp .le 6, 3) := by decide +kernel
theorem dX9_noise_10 : decode cX9_noise 10 = .ok (.ldc 73, 2) := by decide +kernel
theorem dX9_noise_12 : decode cX9_noise 12 = .ok (.ireturn, 1) := by decide +kernel
theorem dX9_noise_13 : decode cX9_noise 13 = .ok (.aload_n 0, 1) := by decide +kernel
theorem dX9_noise_14 : decode cX9_noise 14 = .ok (.getfield 26, 3) := by decide +kernel
theorem dX9_noise_17 : decode cX9_noise 17 = .ok (.getfield 107, 3) := by decide +kernel
theorem dX9_noise_20 : decode cX9_noise 20 = .ok (.istore_n 2, 1) := by decide +kernel
theorem dX9_noise_21 : decode cX9_noise 21 = .ok (.aload_n 0, 1) := by decide +kernel
theorem dX9_noise_22 : decode cX9_noise 22 = .ok (.getfield 26, 3) := by decide +kernel
theorem dX9_noise_25 : decode cX9_noise 25 = .ok (.iload_n 1, 1) := by decide +kernel
theorem dX9_noise_26 : decode cX9_noise 26 = .ok (.putfield 107, 3) := by decide +kernel
theorem dX9_noise_29 : decode cX9_noise 29 = .ok (.iload_n 2, 1) := by decide +kernel
theorem dX9_noise_30 : decode cX9_noise 30 = .ok (.ireturn, 1) := by decide +kernel
theorem dX9_drift_0 : decode cX9_drift 0 = .ok (.iload_n 1, 1) := by decide +kernel
theorem dX9_drift_1 : decode cX9_drift 1 = .ok (.iconst 1, 1) := by decide +kernel
theorem dX9_drift_2 : decode cX9_drift 2 = .ok (.if_icmp .lt 9, 3) := by decide +kernel
theorem dX9_drift_5 : decode cX9_drift 5 = .ok (.iload_n 1, 1) := by decide +kernel
theorem dX9_drift_6 : decode cX9_drift 6 = .ok (.bipush 99, 2) := by decide +kernel
theorem dX9_drift_8 : decode cX9_drift 8 = .ok (.if_icmp .le 6, 3) := by decide +kernel
theorem dX9_drift_11 : decode cX9_drift 11 = .ok (.ldc 73, 2) := by decide +kernel
theorem dX9_drift_13 : decode cX9_drift 13 = .ok (.ireturn, 1) := by decide +kernel
theorem dX9_drift_14 : decode cX9_drift 14 = .ok (.aload_n 0, 1) := by decide +kernel
theorem dX9_drift_15 : decode cX9_drift 15 = .ok (.getfield 19, 3) := by decide +kernel
theorem dX9_drift_18 : decode cX9_drift 18 = .ok (.getfield 101, 3) := by decide +kernel
theorem dX9_drift_21 : decode cX9_drift 21 = .ok (.ifCond .ne 6, 3) := by decide +kernel
theorem dX9_drift_24 : decode cX9_drift 24 = .ok (.ldc 182, 2) := by decide +kernel
theorem dX9_drift_26 : decode cX9_drift 26 = .ok (.ireturn, 1) := by decide +kernel
theorem dX9_drift_27 : decode cX9_drift 27 = .ok (.iconst 0, 1) := by decide +kernel
theorem dX9_drift_28 : decode cX9_drift 28 = .ok (.istore_n 2, 1) := by decide +kernel
theorem dX9_drift_29 : decode cX9_drift 29 = .ok (.iconst 0, 1) := by decide +kernel
theorem dX9_drift_30 : decode cX9_drift 30 = .ok (.istore_n 3, 1) := by decide +kernel
theorem dX9_drift_31 : decode cX9_drift 31 = .ok (.iload_n 3, 1) := by decide +kernel
theorem dX9_drift_32 : decode cX9_drift 32 = .ok (.iload_n 1, 1) := by decide +kernel
theorem dX9_drift_33 : decode cX9_drift 33 = .ok (.if_icmp .ge 92, 3) := by decide +kernel
theorem dX9_drift_36 : decode cX9_drift 36 = .ok (.iconst 0, 1) := by decide +kernel
theorem dX9_drift_37 : decode cX9_drift 37 = .ok (.istore 4, 2) := by decide +kernel
theorem dX9_drift_39 : decode cX9_drift 39 = .ok (.iload 4, 2) := by decide +kernel
theorem dX9_drift_41 : decode cX9_drift 41 = .ok (.aload_n 0, 1) := by decide +kernel
theorem dX9_drift_42 : decode cX9_drift 42 = .ok (.getfield 19, 3) := by decide +kernel
theorem dX9_drift_45 : decode cX9_drift 45 = .ok (.getfield 101, 3) := by decide +kernel
theorem dX9_drift_48 : decode cX9_drift 48 = .ok (.if_icmp .ge 26, 3) := by decide +kernel
theorem dX9_drift_51 : decode cX9_drift 51 = .ok (.aload_n 0, 1) := by decide +kernel
theorem dX9_drift_52 : decode cX9_drift 52 = .ok (.getfield 26, 3) := by decide +kernel
theorem dX9_drift_55 : decode cX9_drift 55 = .ok (.getfield 161, 3) := by decide +kernel
theorem dX9_drift_58 : decode cX9_drift 58 = .ok (.iload 4, 2) := by decide +kernel
theorem dX9_drift_60 : decode cX9_drift 60 = .ok (.aload_n 0, 1) := by decide +kernel
theorem dX9_drift_61 : decode cX9_drift 61 = .ok (.sipush 200, 3) := by decide +kernel
theorem dX9_drift_64 : decode cX9_drift 64 = .ok (.invokevirtual 183, 3) := by decide +kernel
theorem dX9_drift_67 : decode cX9_drift 67 = .ok (.iastore, 1) := by decide +kernel
theorem dX9_drift_68 : decode cX9_drift 68 = .ok (.iinc 4 1, 3) := by decide +kernel
theorem dX9_drift_71 : decode cX9_drift 71 = .ok (.goto (-32), 3) := by decide +kernel
theorem dX9_drift_74 : decode cX9_drift 74 = .ok (.aload_n 0, 1) := by decide +kernel
theorem dX9_drift_75 : decode cX9_drift 75 = .ok (.iconst 4, 1) := by decide +kernel
theorem dX9_drift_76 : decode cX9_drift 76 = .ok (.invokevirtual 183, 3) := by decide +kernel
theorem dX9_drift_79 : decode cX9_drift 79 = .ok (.ifCond .ne 19, 3) := by decide +kernel
theorem dX9_drift_82 : decode cX9_drift 82 = .ok (.aload_n 0, 1) := by decide +kernel
theorem dX9_drift_83 : decode cX9_drift 83 = .ok (.getfield 26, 3) := by decide +kernel
theorem dX9_drift_86 : decode cX9_drift 86 = .ok (.iconst 1, 1) := by decide +kernel
theorem dX9_drift_87 : decode cX9_drift 87 = .ok (.aload_n 0, 1) := by decide +kernel
theorem dX9_drift_88 : decode cX9_drift 88 = .ok (.getfield 26, 3) := by decide +kernel
theorem dX9_drift_91 : decode cX9_drift 91 = .ok (.getfield 104, 3) := by decide +kernel
theorem dX9_drift_94 : decode cX9_drift 94 = .ok (.isub, 1) := by decide +kernel
theorem dX9_drift_95 : decode cX9_drift 95 = .ok (.putfield 104, 3) := by decide +kernel
theorem dX9_drift_98 : decode cX9_drift 98 = .ok (.aload_n 0, 1) := by decide +kernel
theorem dX9_drift_99 : decode cX9_drift 99 = .ok (.getfield 35, 3) := by decide +kernel
theorem dX9_drift_102 : decode cX9_drift 102 = .ok (.aload_n 0, 1) := by decide +kernel
theorem dX9_drift_103 : decode cX9_drift 103 = .ok (.getfield 26, 3) := by decide +kernel
theorem dX9_drift_106 : decode cX9_drift 106 = .ok (.invokevirtual 113, 3) := by decide +kernel
theorem dX9_drift_109 : decode cX9_drift 109 = .ok (.iload_n 2, 1) := by decide +kernel
theorem dX9_drift_110 : decode cX9_drift 110 = .ok (.aload_n 0, 1) := by decide +kernel
theorem dX9_drift_111 : decode cX9_drift 111 = .ok (.getfield 35, 3) := by decide +kernel
theorem dX9_drift_114 : decode cX9_drift 114 = .ok (.invokevirtual 123, 3) := by decide +kernel
theorem dX9_drift_117 : decode cX9_drift 117 = .ok (.iadd, 1) := by decide +kernel
theorem dX9_drift_118 : decode cX9_drift 118 = .ok (.istore_n 2, 1) := by decide +kernel
theorem dX9_drift_119 : decode cX9_drift 119 = .ok (.iinc 3 1, 3) := by decide +kernel
theorem dX9_drift_122 : decode cX9_drift 122 = .ok (.goto (-91), 3) := by decide +kernel
theorem dX9_drift_125 : decode cX9_drift 125 = .ok (.iload_n 2, 1) := by decide +kernel
theorem dX9_drift_126 : decode cX9_drift 126 = .ok (.ireturn, 1) := by decide +kernel
theorem dX9_drawOf_0 : decode cX9_drawOf 0 = .ok (.aload_n 0, 1) := by decide +kernel
theorem dX9_drawOf_1 : decode cX9_drawOf 1 = .ok (.aload_n 0, 1) := by decide +kernel
theorem dX9_drawOf_2 : decode cX9_drawOf 2 = .ok (.getfield 65, 3) := by decide +kernel
theorem dX9_drawOf_5 : decode cX9_drawOf 5 = .ok (.ldc2_w 186, 3) := by decide +kernel
theorem dX9_drawOf_8 : decode cX9_drawOf 8 = .ok (.lmul, 1) := by decide +kernel
theorem dX9_drawOf_9 : decode cX9_drawOf 9 = .ok (.ldc2_w 188, 3) := by decide +kernel
theorem dX9_drawOf_12 : decode cX9_drawOf 12 = .ok (.ladd, 1) := by decide +kernel
theorem dX9_drawOf_13 : decode cX9_drawOf 13 = .ok (.ldc2_w 190, 3) := by decide +kernel
theorem dX9_drawOf_16 : decode cX9_drawOf 16 = .ok (.lrem, 1) := by decide +kernel
theorem dX9_drawOf_17 : decode cX9_drawOf 17 = .ok (.putfield 65, 3) := by decide +kernel
theorem dX9_drawOf_20 : decode cX9_drawOf 20 = .ok (.iload_n 1, 1) := by decide +kernel
theorem dX9_drawOf_21 : decode cX9_drawOf 21 = .ok (.iconst 1, 1) := by decide +kernel
theorem dX9_drawOf_22 : decode cX9_drawOf 22 = .ok (.if_icmp .ge 7, 3) := by decide +kernel
theorem dX9_drawOf_25 : decode cX9_drawOf 25 = .ok (.iconst 0, 1) := by decide +kernel
theorem dX9_drawOf_26 : decode cX9_drawOf 26 = .ok (.goto 15, 3) := by decide +kernel
theorem dX9_drawOf_29 : decode cX9_drawOf 29 = .ok (.aload_n 0, 1) := by decide +kernel
theorem dX9_drawOf_30 : decode cX9_drawOf 30 = .ok (.getfield 65, 3) := by decide +kernel
theorem dX9_drawOf_33 : decode cX9_drawOf 33 = .ok (.ldc2_w 192, 3) := by decide +kernel
theorem dX9_drawOf_36 : decode cX9_drawOf 36 = .ok (.ldiv, 1) := by decide +kernel
theorem dX9_drawOf_37 : decode cX9_drawOf 37 = .ok (.iload_n 1, 1) := by decide +kernel
theorem dX9_drawOf_38 : decode cX9_drawOf 38 = .ok (.i2l, 1) := by decide +kernel
theorem dX9_drawOf_39 : decode cX9_drawOf 39 = .ok (.lrem, 1) := by decide +kernel
theorem dX9_drawOf_40 : decode cX9_drawOf 40 = .ok (.l2i, 1) := by decide +kernel
theorem dX9_drawOf_41 : decode cX9_drawOf 41 = .ok (.ireturn, 1) := by decide +kernel
theorem dX9_pass_0 : decode cX9_pass 0 = .ok (.aload_n 0, 1) := by decide +kernel
theorem dX9_pass_1 : decode cX9_pass 1 = .ok (.iload_n 1, 1) := by decide +kernel
theorem dX9_pass_2 : decode cX9_pass 2 = .ok (.invokevirtual 155, 3) := by decide +kernel
theorem dX9_pass_5 : decode cX9_pass 5 = .ok (.ifCond .eq 6, 3) := by decide +kernel
theorem dX9_pass_8 : decode cX9_pass 8 = .ok (.ldc 136, 2) := by decide +kernel
theorem dX9_pass_10 : decode cX9_pass 10 = .ok (.ireturn, 1) := by decide +kernel
theorem dX9_pass_11 : decode cX9_pass 11 = .ok (.iload_n 2, 1) := by decide +kernel
theorem dX9_pass_12 : decode cX9_pass 12 = .ok (.ifCond .lt 8, 3) := by decide +kernel
theorem dX9_pass_15 : decode cX9_pass 15 = .ok (.iload_n 2, 1) := by decide +kernel
theorem dX9_pass_16 : decode cX9_pass 16 = .ok (.iconst 5, 1) := by decide +kernel
theorem dX9_pass_17 : decode cX9_pass 17 = .ok (.if_icmp .le 6, 3) := by decide +kernel
theorem dX9_pass_20 : decode cX9_pass 20 = .ok (.ldc 73, 2) := by decide +kernel
theorem dX9_pass_22 : decode cX9_pass 22 = .ok (.ireturn, 1) := by decide +kernel
theorem dX9_pass_23 : decode cX9_pass 23 = .ok (.aload_n 0, 1) := by decide +kernel
theorem dX9_pass_24 : decode cX9_pass 24 = .ok (.getfield 35, 3) := by decide +kernel
theorem dX9_pass_27 : decode cX9_pass 27 = .ok (.aload_n 0, 1) := by decide +kernel
theorem dX9_pass_28 : decode cX9_pass 28 = .ok (.getfield 26, 3) := by decide +kernel
theorem dX9_pass_31 : decode cX9_pass 31 = .ok (.invokevirtual 113, 3) := by decide +kernel
theorem dX9_pass_34 : decode cX9_pass 34 = .ok (.aload_n 0, 1) := by decide +kernel
theorem dX9_pass_35 : decode cX9_pass 35 = .ok (.getfield 35, 3) := by decide +kernel
theorem dX9_pass_38 : decode cX9_pass 38 = .ok (.getfield 194, 3) := by decide +kernel
theorem dX9_pass_41 : decode cX9_pass 41 = .ok (.iload_n 1, 1) := by decide +kernel
theorem dX9_pass_42 : decode cX9_pass 42 = .ok (.aaload, 1) := by decide +kernel
theorem dX9_pass_43 : decode cX9_pass 43 = .ok (.astore_n 3, 1) := by decide +kernel
theorem dX9_pass_44 : decode cX9_pass 44 = .ok (.iload_n 2, 1) := by decide +kernel
theorem dX9_pass_45 : decode cX9_pass 45 = .ok (.tableswitch 60 0 4 #[35, 40, 45, 50, 55], 35) := by decide +kernel
theorem dX9_pass_80 : decode cX9_pass 80 = .ok (.aload_n 3, 1) := by decide +kernel
theorem dX9_pass_81 : decode cX9_pass 81 = .ok (.getfield 198, 3) := by decide +kernel
theorem dX9_pass_84 : decode cX9_pass 84 = .ok (.ireturn, 1) := by decide +kernel
theorem dX9_pass_85 : decode cX9_pass 85 = .ok (.aload_n 3, 1) := by decide +kernel
theorem dX9_pass_86 : decode cX9_pass 86 = .ok (.getfield 203, 3) := by decide +kernel
theorem dX9_pass_89 : decode cX9_pass 89 = .ok (.ireturn, 1) := by decide +kernel
theorem dX9_pass_90 : decode cX9_pass 90 = .ok (.aload_n 3, 1) := by decide +kernel
theorem dX9_pass_91 : decode cX9_pass 91 = .ok (.getfield 206, 3) := by decide +kernel
theorem dX9_pass_94 : decode cX9_pass 94 = .ok (.ireturn, 1) := by decide +kernel
theorem dX9_pass_95 : decode cX9_pass 95 = .ok (.aload_n 3, 1) := by decide +kernel
theorem dX9_pass_96 : decode cX9_pass 96 = .ok (.getfield 208, 3) := by decide +kernel
theorem dX9_pass_99 : decode cX9_pass 99 = .ok (.ireturn, 1) := by decide +kernel
theorem dX9_pass_100 : decode cX9_pass 100 = .ok (.aload_n 3, 1) := by decide +kernel
theorem dX9_pass_101 : decode cX9_pass 101 = .ok (.getfield 211, 3) := by decide +kernel
theorem dX9_pass_104 : decode cX9_pass 104 = .ok (.ireturn, 1) := by decide +kernel
theorem dX9_pass_105 : decode cX9_pass 105 = .ok (.aload_n 3, 1) := by decide +kernel
theorem dX9_pass_106 : decode cX9_pass 106 = .ok (.getfield 214, 3) := by decide +kernel
theorem dX9_pass_109 : decode cX9_pass 109 = .ok (.ireturn, 1) := by decide +kernel
theorem dX9_leafAt_0 : decode cX9_leafAt 0 = .ok (.iload_n 1, 1) := by decide +kernel
theorem dX9_leafAt_1 : decode cX9_leafAt 1 = .ok (.invokestatic 132, 3) := by decide +kernel
theorem dX9_leafAt_4 : decode cX9_leafAt 4 = .ok (.ifCond .eq 6, 3) := by decide +kernel
theorem dX9_leafAt_7 : decode cX9_leafAt 7 = .ok (.ldc 136, 2) := by decide +kernel
theorem dX9_leafAt_9 : decode cX9_leafAt 9 = .ok (.ireturn, 1) := by decide +kernel
theorem dX9_leafAt_10 : decode cX9_leafAt 10 = .ok (.iload_n 2, 1) := by decide +kernel
theorem dX9_leafAt_11 : decode cX9_leafAt 11 = .ok (.ifCond .lt 10, 3) := by decide +kernel
theorem dX9_leafAt_14 : decode cX9_leafAt 14 = .ok (.iload_n 2, 1) := by decide +kernel
theorem dX9_leafAt_15 : decode cX9_leafAt 15 = .ok (.sipush 9999, 3) := by decide +kernel
theorem dX9_leafAt_18 : decode cX9_leafAt 18 = .ok (.if_icmp .le 6, 3) := by decide +kernel
theorem dX9_leafAt_21 : decode cX9_leafAt 21 = .ok (.ldc 73, 2) := by decide +kernel
theorem dX9_leafAt_23 : decode cX9_leafAt 23 = .ok (.ireturn, 1) := by decide +kernel
theorem dX9_leafAt_24 : decode cX9_leafAt 24 = .ok (.aload_n 0, 1) := by decide +kernel
theorem dX9_leafAt_25 : decode cX9_leafAt 25 = .ok (.getfield 35, 3) := by decide +kernel
theorem dX9_leafAt_28 : decode cX9_leafAt 28 = .ok (.aload_n 0, 1) := by decide +kernel
theorem dX9_leafAt_29 : decode cX9_leafAt 29 = .ok (.getfield 26, 3) := by decide +kernel
theorem dX9_leafAt_32 : decode cX9_leafAt 32 = .ok (.invokevirtual 113, 3) := by decide +kernel
theorem dX9_leafAt_35 : decode cX9_leafAt 35 = .ok (.aload_n 0, 1) := by decide +kernel
theorem dX9_leafAt_36 : decode cX9_leafAt 36 = .ok (.getfield 35, 3) := by decide +kernel
theorem dX9_leafAt_39 : decode cX9_leafAt 39 = .ok (.getfield 143, 3) := by decide +kernel
theorem dX9_leafAt_42 : decode cX9_leafAt 42 = .ok (.iload_n 1, 1) := by decide +kernel
theorem dX9_leafAt_43 : decode cX9_leafAt 43 = .ok (.aaload, 1) := by decide +kernel
theorem dX9_leafAt_44 : decode cX9_leafAt 44 = .ok (.iload_n 2, 1) := by decide +kernel
theorem dX9_leafAt_45 : decode cX9_leafAt 45 = .ok (.invokevirtual 217, 3) := by decide +kernel
theorem dX9_leafAt_48 : decode cX9_leafAt 48 = .ok (.ireturn, 1) := by decide +kernel
theorem dX9_all_0 : decode cX9_all 0 = .ok (.iload_n 1, 1) := by decide +kernel
theorem dX9_all_1 : decode cX9_all 1 = .ok (.invokestatic 220, 3) := by decide +kernel
theorem dX9_all_4 : decode cX9_all 4 = .ok (.ifCond .eq 8, 3) := by decide +kernel
theorem dX9_all_7 : decode cX9_all 7 = .ok (.ldc 73, 2) := by decide +kernel
theorem dX9_all_9 : decode cX9_all 9 = .ok (.goto 11, 3) := by decide +kernel
theorem dX9_all_12 : decode cX9_all 12 = .ok (.aload_n 0, 1) := by decide +kernel
theorem dX9_all_13 : decode cX9_all 13 = .ok (.getfield 44, 3) := by decide +kernel
theorem dX9_all_16 : decode cX9_all 16 = .ok (.iload_n 1, 1) := by decide +kernel
theorem dX9_all_17 : decode cX9_all 17 = .ok (.invokevirtual 223, 3) := by decide +kernel
theorem dX9_all_20 : decode cX9_all 20 = .ok (.ireturn, 1) := by decide +kernel
theorem dX9_best_0 : decode cX9_best 0 = .ok (.iload_n 1, 1) := by decide +kernel
theorem dX9_best_1 : decode cX9_best 1 = .ok (.iconst (-1), 1) := by decide +kernel
theorem dX9_best_2 : decode cX9_best 2 = .ok (.if_icmp .eq 14, 3) := by decide +kernel
theorem dX9_best_5 : decode cX9_best 5 = .ok (.aload_n 0, 1) := by decide +kernel
theorem dX9_best_6 : decode cX9_best 6 = .ok (.iload_n 1, 1) := by decide +kernel
theorem dX9_best_7 : decode cX9_best 7 = .ok (.invokevirtual 155, 3) := by decide +kernel
theorem dX9_best_10 : decode cX9_best 10 = .ok (.ifCond .eq 6, 3) := by decide +kernel
theorem dX9_best_13 : decode cX9_best 13 = .ok (.ldc 136, 2) := by decide +kernel
theorem dX9_best_15 : decode cX9_best 15 = .ok (.ireturn, 1) := by decide +kernel
theorem dX9_best_16 : decode cX9_best 16 = .ok (.aload_n 0, 1) := by decide +kernel
theorem dX9_best_17 : decode cX9_best 17 = .ok (.getfield 44, 3) := by decide +kernel
theorem dX9_best_20 : decode cX9_best 20 = .ok (.iload_n 1, 1) := by decide +kernel
theorem dX9_best_21 : decode cX9_best 21 = .ok (.invokevirtual 226, 3) := by decide +kernel
theorem dX9_best_24 : decode cX9_best 24 = .ok (.ireturn, 1) := by decide +kernel
theorem dX9_bestKick_0 : decode cX9_bestKick 0 = .ok (.aload_n 0, 1) := by decide +kernel
theorem dX9_bestKick_1 : decode cX9_bestKick 1 = .ok (.iload_n 1, 1) := by decide +kernel
theorem dX9_bestKick_2 : decode cX9_bestKick 2 = .ok (.invokevirtual 155, 3) := by decide +kernel
theorem dX9_bestKick_5 : decode cX9_bestKick 5 = .ok (.ifCond .eq 6, 3) := by decide +kernel
theorem dX9_bestKick_8 : decode cX9_bestKick 8 = .ok (.ldc 136, 2) := by decide +kernel
theorem dX9_bestKick_10 : decode cX9_bestKick 10 = .ok (.ireturn, 1) := by decide +kernel
theorem dX9_bestKick_11 : decode cX9_bestKick 11 = .ok (.iload_n 2, 1) := by decide +kernel
theorem dX9_bestKick_12 : decode cX9_bestKick 12 = .ok (.ifCond .lt 8, 3) := by decide +kernel
theorem dX9_bestKick_15 : decode cX9_bestKick 15 = .ok (.iload_n 2, 1) := by decide +kernel
theorem dX9_bestKick_16 : decode cX9_bestKick 16 = .ok (.iconst 1, 1) := by decide +kernel
theorem dX9_bestKick_17 : decode cX9_bestKick 17 = .ok (.if_icmp .le 6, 3) := by decide +kernel
theorem dX9_bestKick_20 : decode cX9_bestKick 20 = .ok (.ldc 73, 2) := by decide +kernel
theorem dX9_bestKick_22 : decode cX9_bestKick 22 = .ok (.ireturn, 1) := by decide +kernel
theorem dX9_bestKick_23 : decode cX9_bestKick 23 = .ok (.aload_n 0, 1) := by decide +kernel
theorem dX9_bestKick_24 : decode cX9_bestKick 24 = .ok (.getfield 44, 3) := by decide +kernel
theorem dX9_bestKick_27 : decode cX9_bestKick 27 = .ok (.iload_n 1, 1) := by decide +kernel
theorem dX9_bestKick_28 : decode cX9_bestKick 28 = .ok (.invokevirtual 229, 3) := by decide +kernel
theorem dX9_bestKick_31 : decode cX9_bestKick 31 = .ok (.iload_n 2, 1) := by decide +kernel
theorem dX9_bestKick_32 : decode cX9_bestKick 32 = .ok (.ifCond .ne 13, 3) := by decide +kernel
theorem dX9_bestKick_35 : decode cX9_bestKick 35 = .ok (.aload_n 0, 1) := by decide +kernel
theorem dX9_bestKick_36 : decode cX9_bestKick 36 = .ok (.getfield 44, 3) := by decide +kernel
theorem dX9_bestKick_39 : decode cX9_bestKick 39 = .ok (.getfield 233, 3) := by decide +kernel
theorem dX9_bestKick_42 : decode cX9_bestKick 42 = .ok (.goto 10, 3) := by decide +kernel
theorem dX9_bestKick_45 : decode cX9_bestKick 45 = .ok (.aload_n 0, 1) := by decide +kernel
theorem dX9_bestKick_46 : decode cX9_bestKick 46 = .ok (.getfield 44, 3) := by decide +kernel
theorem dX9_bestKick_49 : decode cX9_bestKick 49 = .ok (.getfield 236, 3) := by decide +kernel
theorem dX9_bestKick_52 : decode cX9_bestKick 52 = .ok (.ireturn, 1) := by decide +kernel
theorem dX9_change_0 : decode cX9_change 0 = .ok (.iload_n 1, 1) := by decide +kernel
theorem dX9_change_1 : decode cX9_change 1 = .ok (.invokestatic 220, 3) := by decide +kernel
theorem dX9_change_4 : decode cX9_change 4 = .ok (.ifCond .ne 19, 3) := by decide +kernel
theorem dX9_change_7 : decode cX9_change 7 = .ok (.iload_n 2, 1) := by decide +kernel
theorem dX9_change_8 : decode cX9_change 8 = .ok (.invokestatic 220, 3) := by decide +kernel
theorem dX9_change_11 : decode cX9_change 11 = .ok (.ifCond .ne 12, 3) := by decide +kernel
theorem dX9_change_14 : decode cX9_change 14 = .ok (.iload_n 3, 1) := by decide +kernel
theorem dX9_change_15 : decode cX9_change 15 = .ok (.ifCond .lt 8, 3) := by decide +kernel
theorem dX9_change_18 : decode cX9_change 18 = .ok (.iload_n 3, 1) := by decide +kernel
theorem dX9_change_19 : decode cX9_change 19 = .ok (.iconst 1, 1) := by decide +kernel
theorem dX9_change_20 : decode cX9_change 20 = .ok (.if_icmp .le 6, 3) := by decide +kernel
theorem dX9_change_23 : decode cX9_change 23 = .ok (.ldc 73, 2) := by decide +kernel
theorem dX9_change_25 : decode cX9_change 25 = .ok (.ireturn, 1) := by decide +kernel
theorem dX9_change_26 : decode cX9_change 26 = .ok (.aload_n 0, 1) := by decide +kernel
theorem dX9_change_27 : decode cX9_change 27 = .ok (.getfield 44, 3) := by decide +kernel
theorem dX9_change_30 : decode cX9_change 30 = .ok (.iload_n 1, 1) := by decide +kernel
theorem dX9_change_31 : decode cX9_change 31 = .ok (.iload_n 2, 1) := by decide +kernel
theorem dX9_change_32 : decode cX9_change 32 = .ok (.invokevirtual 239, 3) := by decide +kernel
theorem dX9_change_35 : decode cX9_change 35 = .ok (.iload_n 3, 1) := by decide +kernel
theorem dX9_change_36 : decode cX9_change 36 = .ok (.ifCond .ne 13, 3) := by decide +kernel
theorem dX9_change_39 : decode cX9_change 39 = .ok (.aload_n 0, 1) := by decide +kernel
theorem dX9_change_40 : decode cX9_change 40 = .ok (.getfield 44, 3) := by decide +kernel
theorem dX9_change_43 : decode cX9_change 43 = .ok (.getfield 233, 3) := by decide +kernel
theorem dX9_change_46 : decode cX9_change 46 = .ok (.goto 10, 3) := by decide +kernel
theorem dX9_change_49 : decode cX9_change 49 = .ok (.aload_n 0, 1) := by decide +kernel
theorem dX9_change_50 : decode cX9_change 50 = .ok (.getfield 44, 3) := by decide +kernel
theorem dX9_change_53 : decode cX9_change 53 = .ok (.getfield 236, 3) := by decide +kernel
theorem dX9_change_56 : decode cX9_change 56 = .ok (.ireturn, 1) := by decide +kernel
theorem dX9_worth_0 : decode cX9_worth 0 = .ok (.iload_n 1, 1) := by decide +kernel
theorem dX9_worth_1 : decode cX9_worth 1 = .ok (.ifCond .lt 19, 3) := by decide +kernel
theorem dX9_worth_4 : decode cX9_worth 4 = .ok (.iload_n 1, 1) := by decide +kernel
theorem dX9_worth_5 : decode cX9_worth 5 = .ok (.iconst 1, 1) := by decide +kernel
theorem dX9_worth_6 : decode cX9_worth 6 = .ok (.if_icmp .gt 14, 3) := by decide +kernel
theorem dX9_worth_9 : decode cX9_worth 9 = .ok (.iload_n 2, 1) := by decide +kernel
theorem dX9_worth_10 : decode cX9_worth 10 = .ok (.ifCond .lt 10, 3) := by decide +kernel
theorem dX9_worth_13 : decode cX9_worth 13 = .ok (.iload_n 2, 1) := by decide +kernel
theorem dX9_worth_14 : decode cX9_worth 14 = .ok (.sipush 999, 3) := by decide +kernel
theorem dX9_worth_17 : decode cX9_worth 17 = .ok (.if_icmp .le 6, 3) := by decide +kernel
theorem dX9_worth_20 : decode cX9_worth 20 = .ok (.ldc 73, 2) := by decide +kernel
theorem dX9_worth_22 : decode cX9_worth 22 = .ok (.ireturn, 1) := by decide +kernel
theorem dX9_worth_23 : decode cX9_worth 23 = .ok (.iload_n 2, 1) := by decide +kernel
theorem dX9_worth_24 : decode cX9_worth 24 = .ok (.iload_n 1, 1) := by decide +kernel
theorem dX9_worth_25 : decode cX9_worth 25 = .ok (.ifCond .ne 13, 3) := by decide +kernel
theorem dX9_worth_28 : decode cX9_worth 28 = .ok (.aload_n 0, 1) := by decide +kernel
theorem dX9_worth_29 : decode cX9_worth 29 = .ok (.getfield 44, 3) := by decide +kernel
theorem dX9_worth_32 : decode cX9_worth 32 = .ok (.invokevirtual 243, 3) := by decide +kernel
theorem dX9_worth_35 : decode cX9_worth 35 = .ok (.goto 10, 3) := by decide +kernel
theorem dX9_worth_38 : decode cX9_worth 38 = .ok (.aload_n 0, 1) := by decide +kernel
theorem dX9_worth_39 : decode cX9_worth 39 = .ok (.getfield 44, 3) := by decide +kernel
theorem dX9_worth_42 : decode cX9_worth 42 = .ok (.invokevirtual 246, 3) := by decide +kernel
theorem dX9_worth_45 : decode cX9_worth 45 = .ok (.imul, 1) := by decide +kernel
theorem dX9_worth_46 : decode cX9_worth 46 = .ok (.ireturn, 1) := by decide +kernel
theorem dX9_apart_0 : decode cX9_apart 0 = .ok (.iload_n 1, 1) := by decide +kernel
theorem dX9_apart_1 : decode cX9_apart 1 = .ok (.invokestatic 249, 3) := by decide +kernel
theorem dX9_apart_4 : decode cX9_apart 4 = .ok (.ifCond .ne 13, 3) := by decide +kernel
theorem dX9_apart_7 : decode cX9_apart 7 = .ok (.iload_n 2, 1) := by decide +kernel
theorem dX9_apart_8 : decode cX9_apart 8 = .ok (.ifCond .lt 9, 3) := by decide +kernel
theorem dX9_apart_11 : decode cX9_apart 11 = .ok (.iload_n 2, 1) := by decide +kernel
theorem dX9_apart_12 : decode cX9_apart 12 = .ok (.bipush 50, 2) := by decide +kernel
theorem dX9_apart_14 : decode cX9_apart 14 = .ok (.if_icmp .le 6, 3) := by decide +kernel
theorem dX9_apart_17 : decode cX9_apart 17 = .ok (.ldc 73, 2) := by decide +kernel
theorem dX9_apart_19 : decode cX9_apart 19 = .ok (.ireturn, 1) := by decide +kernel
theorem dX9_apart_20 : decode cX9_apart 20 = .ok (.aload_n 0, 1) := by decide +kernel
theorem dX9_apart_21 : decode cX9_apart 21 = .ok (.getfield 44, 3) := by decide +kernel
theorem dX9_apart_24 : decode cX9_apart 24 = .ok (.iload_n 1, 1) := by decide +kernel
theorem dX9_apart_25 : decode cX9_apart 25 = .ok (.iload_n 2, 1) := by decide +kernel
theorem dX9_apart_26 : decode cX9_apart 26 = .ok (.invokevirtual 252, 3) := by decide +kernel
theorem dX9_apart_29 : decode cX9_apart 29 = .ok (.ireturn, 1) := by decide +kernel
theorem dX9_order_0 : decode cX9_order 0 = .ok (.iload_n 1, 1) := by decide +kernel
theorem dX9_order_1 : decode cX9_order 1 = .ok (.invokestatic 249, 3) := by decide +kernel
theorem dX9_order_4 : decode cX9_order 4 = .ok (.ifCond .eq 6, 3) := by decide +kernel
theorem dX9_order_7 : decode cX9_order 7 = .ok (.ldc 73, 2) := by decide +kernel
theorem dX9_order_9 : decode cX9_order 9 = .ok (.ireturn, 1) := by decide +kernel
theorem dX9_order_10 : decode cX9_order 10 = .ok (.aload_n 0, 1) := by decide +kernel
theorem dX9_order_11 : decode cX9_order 11 = .ok (.getfield 44, 3) := by decide +kernel
theorem dX9_order_14 : decode cX9_order 14 = .ok (.iload_n 1, 1) := by decide +kernel
theorem dX9_order_15 : decode cX9_order 15 = .ok (.iload_n 2, 1) := by decide +kernel
theorem dX9_order_16 : decode cX9_order 16 = .ok (.invokevirtual 256, 3) := by decide +kernel
theorem dX9_order_19 : decode cX9_order 19 = .ok (.ireturn, 1) := by decide +kernel
theorem dX9_rests_0 : decode cX9_rests 0 = .ok (.aload_n 0, 1) := by decide +kernel
theorem dX9_rests_1 : decode cX9_rests 1 = .ok (.iload_n 1, 1) := by decide +kernel
theorem dX9_rests_2 : decode cX9_rests 2 = .ok (.invokevirtual 155, 3) := by decide +kernel
theorem dX9_rests_5 : decode cX9_rests 5 = .ok (.ifCond .ne 16, 3) := by decide +kernel
theorem dX9_rests_8 : decode cX9_rests 8 = .ok (.aload_n 0, 1) := by decide +kernel
theorem dX9_rests_9 : decode cX9_rests 9 = .ok (.iload_n 2, 1) := by decide +kernel
theorem dX9_rests_10 : decode cX9_rests 10 = .ok (.invokevirtual 155, 3) := by decide +kernel
theorem dX9_rests_13 : decode cX9_rests 13 = .ok (.ifCond .ne 8, 3) := by decide +kernel
theorem dX9_rests_16 : decode cX9_rests 16 = .ok (.iload_n 1, 1) := by decide +kernel
theorem dX9_rests_17 : decode cX9_rests 17 = .ok (.iload_n 2, 1) := by decide +kernel
theorem dX9_rests_18 : decode cX9_rests 18 = .ok (.if_icmp .ne 6, 3) := by decide +kernel
theorem dX9_rests_21 : decode cX9_rests 21 = .ok (.ldc 136, 2) := by decide +kernel
theorem dX9_rests_23 : decode cX9_rests 23 = .ok (.ireturn, 1) := by decide +kernel
theorem dX9_rests_24 : decode cX9_rests 24 = .ok (.aload_n 0, 1) := by decide +kernel
theorem dX9_rests_25 : decode cX9_rests 25 = .ok (.getfield 19, 3) := by decide +kernel
theorem dX9_rests_28 : decode cX9_rests 28 = .ok (.getfield 158, 3) := by decide +kernel
theorem dX9_rests_31 : decode cX9_rests 31 = .ok (.iload_n 1, 1) := by decide +kernel
theorem dX9_rests_32 : decode cX9_rests 32 = .ok (.iaload, 1) := by decide +kernel
theorem dX9_rests_33 : decode cX9_rests 33 = .ok (.aload_n 0, 1) := by decide +kernel
theorem dX9_rests_34 : decode cX9_rests 34 = .ok (.getfield 19, 3) := by decide +kernel
theorem dX9_rests_37 : decode cX9_rests 37 = .ok (.getfield 158, 3) := by decide +kernel
theorem dX9_rests_40 : decode cX9_rests 40 = .ok (.iload_n 2, 1) := by decide +kernel
theorem dX9_rests_41 : decode cX9_rests 41 = .ok (.iaload, 1) := by decide +kernel
theorem dX9_rests_42 : decode cX9_rests 42 = .ok (.if_icmp .ne 6, 3) := by decide +kernel
theorem dX9_rests_45 : decode cX9_rests 45 = .ok (.ldc 182, 2) := by decide +kernel
theorem dX9_rests_47 : decode cX9_rests 47 = .ok (.ireturn, 1) := by decide +kernel
theorem dX9_rests_48 : decode cX9_rests 48 = .ok (.aload_n 0, 1) := by decide +kernel
theorem dX9_rests_49 : decode cX9_rests 49 = .ok (.getfield 44, 3) := by decide +kernel
theorem dX9_rests_52 : decode cX9_rests 52 = .ok (.iload_n 1, 1) := by decide +kernel
theorem dX9_rests_53 : decode cX9_rests 53 = .ok (.iload_n 2, 1) := by decide +kernel
theorem dX9_rests_54 : decode cX9_rests 54 = .ok (.invokevirtual 259, 3) := by decide +kernel
theorem dX9_rests_57 : decode cX9_rests 57 = .ok (.ireturn, 1) := by decide +kernel
theorem dX9_stack_0 : decode cX9_stack 0 = .ok (.iload_n 1, 1) := by decide +kernel
theorem dX9_stack_1 : decode cX9_stack 1 = .ok (.ifCond .lt 9, 3) := by decide +kernel
theorem dX9_stack_4 : decode cX9_stack 4 = .ok (.iload_n 1, 1) := by decide +kernel
theorem dX9_stack_5 : decode cX9_stack 5 = .ok (.bipush 100, 2) := by decide +kernel
theorem dX9_stack_7 : decode cX9_stack 7 = .ok (.if_icmp .le 6, 3) := by decide +kernel
theorem dX9_stack_10 : decode cX9_stack 10 = .ok (.ldc 73, 2) := by decide +kernel
theorem dX9_stack_12 : decode cX9_stack 12 = .ok (.ireturn, 1) := by decide +kernel
theorem dX9_stack_13 : decode cX9_stack 13 = .ok (.iconst 1, 1) := by decide +kernel
theorem dX9_stack_14 : decode cX9_stack 14 = .ok (.istore_n 2, 1) := by decide +kernel
theorem dX9_stack_15 : decode cX9_stack 15 = .ok (.iconst 2, 1) := by decide +kernel
theorem dX9_stack_16 : decode cX9_stack 16 = .ok (.istore_n 3, 1) := by decide +kernel
theorem dX9_stack_17 : decode cX9_stack 17 = .ok (.iload_n 3, 1) := by decide +kernel
theorem dX9_stack_18 : decode cX9_stack 18 = .ok (.bipush 9, 2) := by decide +kernel
theorem dX9_stack_20 : decode cX9_stack 20 = .ok (.if_icmp .gt 24, 3) := by decide +kernel
theorem dX9_stack_23 : decode cX9_stack 23 = .ok (.iload_n 3, 1) := by decide +kernel
theorem dX9_stack_24 : decode cX9_stack 24 = .ok (.iload_n 1, 1) := by decide +kernel
theorem dX9_stack_25 : decode cX9_stack 25 = .ok (.invokestatic 262, 3) := by decide +kernel
theorem dX9_stack_28 : decode cX9_stack 28 = .ok (.iload_n 2, 1) := by decide +kernel
theorem dX9_stack_29 : decode cX9_stack 29 = .ok (.iload_n 1, 1) := by decide +kernel
theorem dX9_stack_30 : decode cX9_stack 30 = .ok (.invokestatic 262, 3) := by decide +kernel
theorem dX9_stack_33 : decode cX9_stack 33 = .ok (.if_icmp .le 5, 3) := by decide +kernel
theorem dX9_stack_36 : decode cX9_stack 36 = .ok (.iload_n 3, 1) := by decide +kernel
theorem dX9_stack_37 : decode cX9_stack 37 = .ok (.istore_n 2, 1) := by decide +kernel
theorem dX9_stack_38 : decode cX9_stack 38 = .ok (.iinc 3 1, 3) := by decide +kernel
theorem dX9_stack_41 : decode cX9_stack 41 = .ok (.goto (-24), 3) := by decide +kernel
theorem dX9_stack_44 : decode cX9_stack 44 = .ok (.iload_n 2, 1) := by decide +kernel
theorem dX9_stack_45 : decode cX9_stack 45 = .ok (.ireturn, 1) := by decide +kernel
theorem dX9_carried_0 : decode cX9_carried 0 = .ok (.iload_n 0, 1) := by decide +kernel
theorem dX9_carried_1 : decode cX9_carried 1 = .ok (.iconst 0, 1) := by decide +kernel
theorem dX9_carried_2 : decode cX9_carried 2 = .ok (.bipush 100, 2) := by decide +kernel
theorem dX9_carried_4 : decode cX9_carried 4 = .ok (.iload_n 1, 1) := by decide +kernel
theorem dX9_carried_5 : decode cX9_carried 5 = .ok (.iload_n 0, 1) := by decide +kernel
theorem dX9_carried_6 : decode cX9_carried 6 = .ok (.imul, 1) := by decide +kernel
theorem dX9_carried_7 : decode cX9_carried 7 = .ok (.isub, 1) := by decide +kernel
theorem dX9_carried_8 : decode cX9_carried 8 = .ok (.invokestatic 265, 3) := by decide +kernel
theorem dX9_carried_11 : decode cX9_carried 11 = .ok (.imul, 1) := by decide +kernel
theorem dX9_carried_12 : decode cX9_carried 12 = .ok (.ireturn, 1) := by decide +kernel
theorem dX9_until_0 : decode cX9_until 0 = .ok (.iload_n 1, 1) := by decide +kernel
theorem dX9_until_1 : decode cX9_until 1 = .ok (.ifCond .lt 20, 3) := by decide +kernel
theorem dX9_until_4 : decode cX9_until 4 = .ok (.iload_n 1, 1) := by decide +kernel
theorem dX9_until_5 : decode cX9_until 5 = .ok (.sipush 1000, 3) := by decide +kernel
theorem dX9_until_8 : decode cX9_until 8 = .ok (.if_icmp .gt 13, 3) := by decide +kernel
theorem dX9_until_11 : decode cX9_until 11 = .ok (.iload_n 2, 1) := by decide +kernel
theorem dX9_until_12 : decode cX9_until 12 = .ok (.ifCond .lt 9, 3) := by decide +kernel
theorem dX9_until_15 : decode cX9_until 15 = .ok (.iload_n 2, 1) := by decide +kernel
theorem dX9_until_16 : decode cX9_until 16 = .ok (.bipush 100, 2) := by decide +kernel
theorem dX9_until_18 : decode cX9_until 18 = .ok (.if_icmp .le 6, 3) := by decide +kernel
theorem dX9_until_21 : decode cX9_until 21 = .ok (.ldc 73, 2) := by decide +kernel
theorem dX9_until_23 : decode cX9_until 23 = .ok (.ireturn, 1) := by decide +kernel
theorem dX9_until_24 : decode cX9_until 24 = .ok (.ldc2_w 270, 3) := by decide +kernel
theorem dX9_until_27 : decode cX9_until 27 = .ok (.lstore_n 3, 1) := by decide +kernel
theorem dX9_until_28 : decode cX9_until 28 = .ok (.iload_n 2, 1) := by decide +kernel
theorem dX9_until_29 : decode cX9_until 29 = .ok (.i2l, 1) := by decide +kernel
theorem dX9_until_30 : decode cX9_until 30 = .ok (.ldc2_w 272, 3) := by decide +kernel
theorem dX9_until_33 : decode cX9_until 33 = .ok (.lmul, 1) := by decide +kernel
theorem dX9_until_34 : decode cX9_until 34 = .ok (.lstore 5, 2) := by decide +kernel
theorem dX9_until_36 : decode cX9_until 36 = .ok (.iconst 0, 1) := by decide +kernel
theorem dX9_until_37 : decode cX9_until 37 = .ok (.istore 7, 2) := by decide +kernel
theorem dX9_until_39 : decode cX9_until 39 = .ok (.iload 7, 2) := by decide +kernel
theorem dX9_until_41 : decode cX9_until 41 = .ok (.sipush 9999, 3) := by decide +kernel
theorem dX9_until_44 : decode cX9_until 44 = .ok (.if_icmp .gt 32, 3) := by decide +kernel
theorem dX9_until_47 : decode cX9_until 47 = .ok (.lload_n 3, 1) := by decide +kernel
theorem dX9_until_48 : decode cX9_until 48 = .ok (.lload 5, 2) := by decide +kernel
theorem dX9_until_50 : decode cX9_until 50 = .ok (.lcmp, 1) := by decide +kernel
theorem dX9_until_51 : decode cX9_until 51 = .ok (.ifCond .gt 6, 3) := by decide +kernel
theorem dX9_until_54 : decode cX9_until 54 = .ok (.iload 7, 2) := by decide +kernel
theorem dX9_until_56 : decode cX9_until 56 = .ok (.ireturn, 1) := by decide +kernel
theorem dX9_until_57 : decode cX9_until 57 = .ok (.lload_n 3, 1) := by decide +kernel
theorem dX9_until_58 : decode cX9_until 58 = .ok (.sipush 1000, 3) := by decide +kernel
theorem dX9_until_61 : decode cX9_until 61 = .ok (.iload_n 1, 1) := by decide +kernel
theorem dX9_until_62 : decode cX9_until 62 = .ok (.isub, 1) := by decide +kernel
theorem dX9_until_63 : decode cX9_until 63 = .ok (.i2l, 1) := by decide +kernel
theorem dX9_until_64 : decode cX9_until 64 = .ok (.lmul, 1) := by decide +kernel
theorem dX9_until_65 : decode cX9_until 65 = .ok (.ldc2_w 274, 3) := by decide +kernel
theorem dX9_until_68 : decode cX9_until 68 = .ok (.ldiv, 1) := by decide +kernel
theorem dX9_until_69 : decode cX9_until 69 = .ok (.lstore_n 3, 1) := by decide +kernel
theorem dX9_until_70 : decode cX9_until 70 = .ok (.iinc 7 1, 3) := by decide +kernel
theorem dX9_until_73 : decode cX9_until 73 = .ok (.goto (-34), 3) := by decide +kernel
theorem dX9_until_76 : decode cX9_until 76 = .ok (.iconst (-1), 1) := by decide +kernel
theorem dX9_until_77 : decode cX9_until 77 = .ok (.ireturn, 1) := by decide +kernel
theorem dX9_unheard_0 : decode cX9_unheard 0 = .ok (.iload_n 1, 1) := by decide +kernel
theorem dX9_unheard_1 : decode cX9_unheard 1 = .ok (.ifCond .lt 28, 3) := by decide +kernel
theorem dX9_unheard_4 : decode cX9_unheard 4 = .ok (.iload_n 1, 1) := by decide +kernel
theorem dX9_unheard_5 : decode cX9_unheard 5 = .ok (.bipush 100, 2) := by decide +kernel
theorem dX9_unheard_7 : decode cX9_unheard 7 = .ok (.if_icmp .gt 22, 3) := by decide +kernel
theorem dX9_unheard_10 : decode cX9_unheard 10 = .ok (.iload_n 2, 1) := by decide +kernel
theorem dX9_unheard_11 : decode cX9_unheard 11 = .ok (.ifCond .lt 18, 3) := by decide +kernel
theorem dX9_unheard_14 : decode cX9_unheard 14 = .ok (.iload_n 2, 1) := by decide +kernel
theorem dX9_unheard_15 : decode cX9_unheard 15 = .ok (.bipush 100, 2) := by decide +kernel
theorem dX9_unheard_17 : decode cX9_unheard 17 = .ok (.if_icmp .gt 12, 3) := by decide +kernel
theorem dX9_unheard_20 : decode cX9_unheard 20 = .ok (.iload_n 3, 1) := by decide +kernel
theorem dX9_unheard_21 : decode cX9_unheard 21 = .ok (.ifCond .lt 8, 3) := by decide +kernel
theorem dX9_unheard_24 : decode cX9_unheard 24 = .ok (.iload_n 3, 1) := by decide +kernel
theorem dX9_unheard_25 : decode cX9_unheard 25 = .ok (.iconst 1, 1) := by decide +kernel
theorem dX9_unheard_26 : decode cX9_unheard 26 = .ok (.if_icmp .le 6, 3) := by decide +kernel
theorem dX9_unheard_29 : decode cX9_unheard 29 = .ok (.ldc 73, 2) := by decide +kernel
theorem dX9_unheard_31 : decode cX9_unheard 31 = .ok (.ireturn, 1) := by decide +kernel
theorem dX9_unheard_32 : decode cX9_unheard 32 = .ok (.bipush 100, 2) := by decide +kernel
theorem dX9_unheard_34 : decode cX9_unheard 34 = .ok (.iload_n 1, 1) := by decide +kernel
theorem dX9_unheard_35 : decode cX9_unheard 35 = .ok (.imul, 1) := by decide +kernel
theorem dX9_unheard_36 : decode cX9_unheard 36 = .ok (.istore 4, 2) := by decide +kernel
theorem dX9_unheard_38 : decode cX9_unheard 38 = .ok (.iload 4, 2) := by decide +kernel
theorem dX9_unheard_40 : decode cX9_unheard 40 = .ok (.bipush 100, 2) := by decide +kernel
theorem dX9_unheard_42 : decode cX9_unheard 42 = .ok (.iload_n 1, 1) := by decide +kernel
theorem dX9_unheard_43 : decode cX9_unheard 43 = .ok (.isub, 1) := by decide +kernel
theorem dX9_unheard_44 : decode cX9_unheard 44 = .ok (.iload_n 2, 1) := by decide +kernel
theorem dX9_unheard_45 : decode cX9_unheard 45 = .ok (.imul, 1) := by decide +kernel
theorem dX9_unheard_46 : decode cX9_unheard 46 = .ok (.iadd, 1) := by decide +kernel
theorem dX9_unheard_47 : decode cX9_unheard 47 = .ok (.istore 5, 2) := by decide +kernel
theorem dX9_unheard_49 : decode cX9_unheard 49 = .ok (.iload 5, 2) := by decide +kernel
theorem dX9_unheard_51 : decode cX9_unheard 51 = .ok (.iload 4, 2) := by decide +kernel
theorem dX9_unheard_53 : decode cX9_unheard 53 = .ok (.invokestatic 276, 3) := by decide +kernel
theorem dX9_unheard_56 : decode cX9_unheard 56 = .ok (.istore 6, 2) := by decide +kernel
theorem dX9_unheard_58 : decode cX9_unheard 58 = .ok (.iload 6, 2) := by decide +kernel
theorem dX9_unheard_60 : decode cX9_unheard 60 = .ok (.ifCond .ne 6, 3) := by decide +kernel
theorem dX9_unheard_63 : decode cX9_unheard 63 = .ok (.ldc 182, 2) := by decide +kernel
theorem dX9_unheard_65 : decode cX9_unheard 65 = .ok (.ireturn, 1) := by decide +kernel
theorem dX9_unheard_66 : decode cX9_unheard 66 = .ok (.iload_n 3, 1) := by decide +kernel
theorem dX9_unheard_67 : decode cX9_unheard 67 = .ok (.ifCond .ne 8, 3) := by decide +kernel
theorem dX9_unheard_70 : decode cX9_unheard 70 = .ok (.iload 4, 2) := by decide +kernel
theorem dX9_unheard_72 : decode cX9_unheard 72 = .ok (.goto 5, 3) := by decide +kernel
theorem dX9_unheard_75 : decode cX9_unheard 75 = .ok (.iload 5, 2) := by decide +kernel
theorem dX9_unheard_77 : decode cX9_unheard 77 = .ok (.iload 6, 2) := by decide +kernel
theorem dX9_unheard_79 : decode cX9_unheard 79 = .ok (.idiv, 1) := by decide +kernel
theorem dX9_unheard_80 : decode cX9_unheard 80 = .ok (.ireturn, 1) := by decide +kernel
theorem dX9_commonDivisor_0 : decode cX9_commonDivisor 0 = .ok (.iload_n 0, 1) := by decide +kernel
theorem dX9_commonDivisor_1 : decode cX9_commonDivisor 1 = .ok (.istore_n 2, 1) := by decide +kernel
theorem dX9_commonDivisor_2 : decode cX9_commonDivisor 2 = .ok (.iload_n 1, 1) := by decide +kernel
theorem dX9_commonDivisor_3 : decode cX9_commonDivisor 3 = .ok (.istore_n 3, 1) := by decide +kernel
theorem dX9_commonDivisor_4 : decode cX9_commonDivisor 4 = .ok (.iconst 0, 1) := by decide +kernel
theorem dX9_commonDivisor_5 : decode cX9_commonDivisor 5 = .ok (.istore 4, 2) := by decide +kernel
theorem dX9_commonDivisor_7 : decode cX9_commonDivisor 7 = .ok (.iload 4, 2) := by decide +kernel
theorem dX9_commonDivisor_9 : decode cX9_commonDivisor 9 = .ok (.bipush 100, 2) := by decide +kernel
theorem dX9_commonDivisor_11 : decode cX9_commonDivisor 11 = .ok (.if_icmp .ge 23, 3) := by decide +kernel
theorem dX9_commonDivisor_14 : decode cX9_commonDivisor 14 = .ok (.iload_n 3, 1) := by decide +kernel
theorem dX9_commonDivisor_15 : decode cX9_commonDivisor 15 = .ok (.ifCond .eq 19, 3) := by decide +kernel
theorem dX9_commonDivisor_18 : decode cX9_commonDivisor 18 = .ok (.iload_n 2, 1) := by decide +kernel
theorem dX9_commonDivisor_19 : decode cX9_commonDivisor 19 = .ok (.iload_n 3, 1) := by decide +kernel
theorem dX9_commonDivisor_20 : decode cX9_commonDivisor 20 = .ok (.irem, 1) := by decide +kernel
theorem dX9_commonDivisor_21 : decode cX9_commonDivisor 21 = .ok (.istore 5, 2) := by decide +kernel
theorem dX9_commonDivisor_23 : decode cX9_commonDivisor 23 = .ok (.iload_n 3, 1) := by decide +kernel
theorem dX9_commonDivisor_24 : decode cX9_commonDivisor 24 = .ok (.istore_n 2, 1) := by decide +kernel
theorem dX9_commonDivisor_25 : decode cX9_commonDivisor 25 = .ok (.iload 5, 2) := by decide +kernel
theorem dX9_commonDivisor_27 : decode cX9_commonDivisor 27 = .ok (.istore_n 3, 1) := by decide +kernel
theorem dX9_commonDivisor_28 : decode cX9_commonDivisor 28 = .ok (.iinc 4 1, 3) := by decide +kernel
theorem dX9_commonDivisor_31 : decode cX9_commonDivisor 31 = .ok (.goto (-24), 3) := by decide +kernel
theorem dX9_commonDivisor_34 : decode cX9_commonDivisor 34 = .ok (.iload_n 2, 1) := by decide +kernel
theorem dX9_commonDivisor_35 : decode cX9_commonDivisor 35 = .ok (.ireturn, 1) := by decide +kernel
theorem dX9_learns_0 : decode cX9_learns 0 = .ok (.aload_n 0, 1) := by decide +kernel
theorem dX9_learns_1 : decode cX9_learns 1 = .ok (.iload_n 1, 1) := by decide +kernel
theorem dX9_learns_2 : decode cX9_learns 2 = .ok (.invokevirtual 155, 3) := by decide +kernel
theorem dX9_learns_5 : decode cX9_learns 5 = .ok (.ifCond .eq 6, 3) := by decide +kernel
theorem dX9_learns_8 : decode cX9_learns 8 = .ok (.ldc 136, 2) := by decide +kernel
theorem dX9_learns_10 : decode cX9_learns 10 = .ok (.ireturn, 1) := by decide +kernel
theorem dX9_learns_11 : decode cX9_learns 11 = .ok (.iload_n 2, 1) := by decide +kernel
theorem dX9_learns_12 : decode cX9_learns 12 = .ok (.iconst 1, 1) := by decide +kernel
theorem dX9_learns_13 : decode cX9_learns 13 = .ok (.if_icmp .lt 9, 3) := by decide +kernel
theorem dX9_learns_16 : decode cX9_learns 16 = .ok (.iload_n 2, 1) := by decide +kernel
theorem dX9_learns_17 : decode cX9_learns 17 = .ok (.bipush 9, 2) := by decide +kernel
theorem dX9_learns_19 : decode cX9_learns 19 = .ok (.if_icmp .le 6, 3) := by decide +kernel
theorem dX9_learns_22 : decode cX9_learns 22 = .ok (.ldc 73, 2) := by decide +kernel
theorem dX9_learns_24 : decode cX9_learns 24 = .ok (.ireturn, 1) := by decide +kernel
theorem dX9_learns_25 : decode cX9_learns 25 = .ok (.aload_n 0, 1) := by decide +kernel
theorem dX9_learns_26 : decode cX9_learns 26 = .ok (.getfield 44, 3) := by decide +kernel
theorem dX9_learns_29 : decode cX9_learns 29 = .ok (.iload_n 1, 1) := by decide +kernel
theorem dX9_learns_30 : decode cX9_learns 30 = .ok (.invokevirtual 279, 3) := by decide +kernel
theorem dX9_learns_33 : decode cX9_learns 33 = .ok (.istore_n 3, 1) := by decide +kernel
theorem dX9_learns_34 : decode cX9_learns 34 = .ok (.iload_n 3, 1) := by decide +kernel
theorem dX9_learns_35 : decode cX9_learns 35 = .ok (.bipush 6, 2) := by decide +kernel
theorem dX9_learns_37 : decode cX9_learns 37 = .ok (.if_icmp .ne 9, 3) := by decide +kernel
theorem dX9_learns_40 : decode cX9_learns 40 = .ok (.iload_n 2, 1) := by decide +kernel
theorem dX9_learns_41 : decode cX9_learns 41 = .ok (.iconst 1, 1) := by decide +kernel
theorem dX9_learns_42 : decode cX9_learns 42 = .ok (.iadd, 1) := by decide +kernel
theorem dX9_learns_43 : decode cX9_learns 43 = .ok (.iconst 2, 1) := by decide +kernel
theorem dX9_learns_44 : decode cX9_learns 44 = .ok (.idiv, 1) := by decide +kernel
theorem dX9_learns_45 : decode cX9_learns 45 = .ok (.ireturn, 1) := by decide +kernel
theorem dX9_learns_46 : decode cX9_learns 46 = .ok (.iload_n 3, 1) := by decide +kernel
theorem dX9_learns_47 : decode cX9_learns 47 = .ok (.iconst 5, 1) := by decide +kernel
theorem dX9_learns_48 : decode cX9_learns 48 = .ok (.if_icmp .ne 7, 3) := by decide +kernel
theorem dX9_learns_51 : decode cX9_learns 51 = .ok (.iload_n 2, 1) := by decide +kernel
theorem dX9_learns_52 : decode cX9_learns 52 = .ok (.goto 4, 3) := by decide +kernel
theorem dX9_learns_55 : decode cX9_learns 55 = .ok (.iconst (-1), 1) := by decide +kernel
theorem dX9_learns_56 : decode cX9_learns 56 = .ok (.ireturn, 1) := by decide +kernel
theorem dX9_write_0 : decode cX9_write 0 = .ok (.aload_n 0, 1) := by decide +kernel
theorem dX9_write_1 : decode cX9_write 1 = .ok (.iload_n 1, 1) := by decide +kernel
theorem dX9_write_2 : decode cX9_write 2 = .ok (.invokevirtual 155, 3) := by decide +kernel
theorem dX9_write_5 : decode cX9_write 5 = .ok (.ifCond .eq 6, 3) := by decide +kernel
theorem dX9_write_8 : decode cX9_write 8 = .ok (.ldc 136, 2) := by decide +kernel
theorem dX9_write_10 : decode cX9_write 10 = .ok (.ireturn, 1) := by decide +kernel
theorem dX9_write_11 : decode cX9_write 11 = .ok (.iload_n 2, 1) := by decide +kernel
theorem dX9_write_12 : decode cX9_write 12 = .ok (.ifCond .lt 9, 3) := by decide +kernel
theorem dX9_write_15 : decode cX9_write 15 = .ok (.iload_n 2, 1) := by decide +kernel
theorem dX9_write_16 : decode cX9_write 16 = .ok (.bipush 6, 2) := by decide +kernel
theorem dX9_write_18 : decode cX9_write 18 = .ok (.if_icmp .le 6, 3) := by decide +kernel
theorem dX9_write_21 : decode cX9_write 21 = .ok (.ldc 73, 2) := by decide +kernel
theorem dX9_write_23 : decode cX9_write 23 = .ok (.ireturn, 1) := by decide +kernel
theorem dX9_write_24 : decode cX9_write 24 = .ok (.aload_n 0, 1) := by decide +kernel
theorem dX9_write_25 : decode cX9_write 25 = .ok (.getfield 61, 3) := by decide +kernel
theorem dX9_write_28 : decode cX9_write 28 = .ok (.bipush 20, 2) := by decide +kernel
theorem dX9_write_30 : decode cX9_write 30 = .ok (.if_icmp .lt 6, 3) := by decide +kernel
theorem dX9_write_33 : decode cX9_write 33 = .ok (.ldc 77, 2) := by decide +kernel
theorem dX9_write_35 : decode cX9_write 35 = .ok (.ireturn, 1) := by decide +kernel
theorem dX9_write_36 : decode cX9_write 36 = .ok (.aload_n 0, 1) := by decide +kernel
theorem dX9_write_37 : decode cX9_write 37 = .ok (.getfield 54, 3) := by decide +kernel
theorem dX9_write_40 : decode cX9_write 40 = .ok (.aload_n 0, 1) := by decide +kernel
theorem dX9_write_41 : decode cX9_write 41 = .ok (.getfield 61, 3) := by decide +kernel
theorem dX9_write_44 : decode cX9_write 44 = .ok (.iload_n 1, 1) := by decide +kernel
theorem dX9_write_45 : decode cX9_write 45 = .ok (.iastore, 1) := by decide +kernel
theorem dX9_write_46 : decode cX9_write 46 = .ok (.aload_n 0, 1) := by decide +kernel
theorem dX9_write_47 : decode cX9_write 47 = .ok (.getfield 58, 3) := by decide +kernel
theorem dX9_write_50 : decode cX9_write 50 = .ok (.aload_n 0, 1) := by decide +kernel
theorem dX9_write_51 : decode cX9_write 51 = .ok (.getfield 61, 3) := by decide +kernel
theorem dX9_write_54 : decode cX9_write 54 = .ok (.iload_n 2, 1) := by decide +kernel
theorem dX9_write_55 : decode cX9_write 55 = .ok (.iastore, 1) := by decide +kernel
theorem dX9_write_56 : decode cX9_write 56 = .ok (.aload_n 0, 1) := by decide +kernel
theorem dX9_write_57 : decode cX9_write 57 = .ok (.dup, 1) := by decide +kernel
theorem dX9_write_58 : decode cX9_write 58 = .ok (.getfield 61, 3) := by decide +kernel
theorem dX9_write_61 : decode cX9_write 61 = .ok (.iconst 1, 1) := by decide +kernel
theorem dX9_write_62 : decode cX9_write 62 = .ok (.iadd, 1) := by decide +kernel
theorem dX9_write_63 : decode cX9_write 63 = .ok (.putfield 61, 3) := by decide +kernel
theorem dX9_write_66 : decode cX9_write 66 = .ok (.aload_n 0, 1) := by decide +kernel
theorem dX9_write_67 : decode cX9_write 67 = .ok (.getfield 61, 3) := by decide +kernel
theorem dX9_write_70 : decode cX9_write 70 = .ok (.ireturn, 1) := by decide +kernel
theorem dX9_tear_0 : decode cX9_tear 0 = .ok (.aload_n 0, 1) := by decide +kernel
theorem dX9_tear_1 : decode cX9_tear 1 = .ok (.getfield 61, 3) := by decide +kernel
theorem dX9_tear_4 : decode cX9_tear 4 = .ok (.istore_n 1, 1) := by decide +kernel
theorem dX9_tear_5 : decode cX9_tear 5 = .ok (.aload_n 0, 1) := by decide +kernel
theorem dX9_tear_6 : decode cX9_tear 6 = .ok (.iconst 0, 1) := by decide +kernel
theorem dX9_tear_7 : decode cX9_tear 7 = .ok (.putfield 61, 3) := by decide +kernel
theorem dX9_tear_10 : decode cX9_tear 10 = .ok (.iload_n 1, 1) := by decide +kernel
theorem dX9_tear_11 : decode cX9_tear 11 = .ok (.ireturn, 1) := by decide +kernel
theorem dX9_judge_0 : decode cX9_judge 0 = .ok (.aload_n 0, 1) := by decide +kernel
theorem dX9_judge_1 : decode cX9_judge 1 = .ok (.getfield 35, 3) := by decide +kernel
theorem dX9_judge_4 : decode cX9_judge 4 = .ok (.aload_n 0, 1) := by decide +kernel
theorem dX9_judge_5 : decode cX9_judge 5 = .ok (.getfield 26, 3) := by decide +kernel
theorem dX9_judge_8 : decode cX9_judge 8 = .ok (.invokevirtual 113, 3) := by decide +kernel
theorem dX9_judge_11 : decode cX9_judge 11 = .ok (.iconst 0, 1) := by decide +kernel
theorem dX9_judge_12 : decode cX9_judge 12 = .ok (.istore_n 1, 1) := by decide +kernel
theorem dX9_judge_13 : decode cX9_judge 13 = .ok (.iload_n 1, 1) := by decide +kernel
theorem dX9_judge_14 : decode cX9_judge 14 = .ok (.aload_n 0, 1) := by decide +kernel
theorem dX9_judge_15 : decode cX9_judge 15 = .ok (.getfield 61, 3) := by decide +kernel
theorem dX9_judge_18 : decode cX9_judge 18 = .ok (.if_icmp .ge 37, 3) := by decide +kernel
theorem dX9_judge_21 : decode cX9_judge 21 = .ok (.aload_n 0, 1) := by decide +kernel
theorem dX9_judge_22 : decode cX9_judge 22 = .ok (.getfield 35, 3) := by decide +kernel
theorem dX9_judge_25 : decode cX9_judge 25 = .ok (.getfield 194, 3) := by decide +kernel
theorem dX9_judge_28 : decode cX9_judge 28 = .ok (.aload_n 0, 1) := by decide +kernel
theorem dX9_judge_29 : decode cX9_judge 29 = .ok (.getfield 54, 3) := by decide +kernel
theorem dX9_judge_32 : decode cX9_judge 32 = .ok (.iload_n 1, 1) := by decide +kernel
theorem dX9_judge_33 : decode cX9_judge 33 = .ok (.iaload, 1) := by decide +kernel
theorem dX9_judge_34 : decode cX9_judge 34 = .ok (.aaload, 1) := by decide +kernel
theorem dX9_judge_35 : decode cX9_judge 35 = .ok (.getfield 198, 3) := by decide +kernel
theorem dX9_judge_38 : decode cX9_judge 38 = .ok (.aload_n 0, 1) := by decide +kernel
theorem dX9_judge_39 : decode cX9_judge 39 = .ok (.getfield 58, 3) := by decide +kernel
theorem dX9_judge_42 : decode cX9_judge 42 = .ok (.iload_n 1, 1) := by decide +kernel
theorem dX9_judge_43 : decode cX9_judge 43 = .ok (.iaload, 1) := by decide +kernel
theorem dX9_judge_44 : decode cX9_judge 44 = .ok (.if_icmp .eq 5, 3) := by decide +kernel
theorem dX9_judge_47 : decode cX9_judge 47 = .ok (.iload_n 1, 1) := by decide +kernel
theorem dX9_judge_48 : decode cX9_judge 48 = .ok (.ireturn, 1) := by decide +kernel
theorem dX9_judge_49 : decode cX9_judge 49 = .ok (.iinc 1 1, 3) := by decide +kernel
theorem dX9_judge_52 : decode cX9_judge 52 = .ok (.goto (-39), 3) := by decide +kernel
theorem dX9_judge_55 : decode cX9_judge 55 = .ok (.iconst (-1), 1) := by decide +kernel
theorem dX9_judge_56 : decode cX9_judge 56 = .ok (.ireturn, 1) := by decide +kernel
theorem dX9_seed_0 : decode cX9_seed 0 = .ok (.iload_n 1, 1) := by decide +kernel
theorem dX9_seed_1 : decode cX9_seed 1 = .ok (.ifCond .ge 6, 3) := by decide +kernel
theorem dX9_seed_4 : decode cX9_seed 4 = .ok (.ldc 73, 2) := by decide +kernel
theorem dX9_seed_6 : decode cX9_seed 6 = .ok (.ireturn, 1) := by decide +kernel
theorem dX9_seed_7 : decode cX9_seed 7 = .ok (.aload_n 0, 1) := by decide +kernel
theorem dX9_seed_8 : decode cX9_seed 8 = .ok (.getfield 65, 3) := by decide +kernel
theorem dX9_seed_11 : decode cX9_seed 11 = .ok (.l2i, 1) := by decide +kernel
theorem dX9_seed_12 : decode cX9_seed 12 = .ok (.istore_n 2, 1) := by decide +kernel
theorem dX9_seed_13 : decode cX9_seed 13 = .ok (.aload_n 0, 1) := by decide +kernel
theorem dX9_seed_14 : decode cX9_seed 14 = .ok (.iload_n 1, 1) := by decide +kernel
theorem dX9_seed_15 : decode cX9_seed 15 = .ok (.i2l, 1) := by decide +kernel
theorem dX9_seed_16 : decode cX9_seed 16 = .ok (.putfield 65, 3) := by decide +kernel
theorem dX9_seed_19 : decode cX9_seed 19 = .ok (.iload_n 2, 1) := by decide +kernel
theorem dX9_seed_20 : decode cX9_seed 20 = .ok (.ireturn, 1) := by decide +kernel
theorem dX9_keep_0 : decode cX9_keep 0 = .ok (.iload_n 1, 1) := by decide +kernel
theorem dX9_keep_1 : decode cX9_keep 1 = .ok (.invokestatic 282, 3) := by decide +kernel
theorem dX9_keep_4 : decode cX9_keep 4 = .ok (.ifCond .eq 6, 3) := by decide +kernel
theorem dX9_keep_7 : decode cX9_keep 7 = .ok (.ldc 136, 2) := by decide +kernel
theorem dX9_keep_9 : decode cX9_keep 9 = .ok (.ireturn, 1) := by decide +kernel
theorem dX9_keep_10 : decode cX9_keep 10 = .ok (.aload_n 0, 1) := by decide +kernel
theorem dX9_keep_11 : decode cX9_keep 11 = .ok (.getfield 50, 3) := by decide +kernel
theorem dX9_keep_14 : decode cX9_keep 14 = .ok (.iload_n 1, 1) := by decide +kernel
theorem dX9_keep_15 : decode cX9_keep 15 = .ok (.aaload, 1) := by decide +kernel
theorem dX9_keep_16 : decode cX9_keep 16 = .ok (.getfield 285, 3) := by decide +kernel
theorem dX9_keep_19 : decode cX9_keep 19 = .ok (.aload_n 0, 1) := by decide +kernel
theorem dX9_keep_20 : decode cX9_keep 20 = .ok (.getfield 26, 3) := by decide +kernel
theorem dX9_keep_23 : decode cX9_keep 23 = .ok (.invokevirtual 94, 3) := by decide +kernel
theorem dX9_keep_26 : decode cX9_keep 26 = .ok (.aload_n 0, 1) := by decide +kernel
theorem dX9_keep_27 : decode cX9_keep 27 = .ok (.getfield 50, 3) := by decide +kernel
theorem dX9_keep_30 : decode cX9_keep 30 = .ok (.iload_n 1, 1) := by decide +kernel
theorem dX9_keep_31 : decode cX9_keep 31 = .ok (.aaload, 1) := by decide +kernel
theorem dX9_keep_32 : decode cX9_keep 32 = .ok (.aload_n 0, 1) := by decide +kernel
theorem dX9_keep_33 : decode cX9_keep 33 = .ok (.getfield 65, 3) := by decide +kernel
theorem dX9_keep_36 : decode cX9_keep 36 = .ok (.putfield 286, 3) := by decide +kernel
theorem dX9_keep_39 : decode cX9_keep 39 = .ok (.aload_n 0, 1) := by decide +kernel
theorem dX9_keep_40 : decode cX9_keep 40 = .ok (.getfield 50, 3) := by decide +kernel
theorem dX9_keep_43 : decode cX9_keep 43 = .ok (.iload_n 1, 1) := by decide +kernel
theorem dX9_keep_44 : decode cX9_keep 44 = .ok (.aaload, 1) := by decide +kernel
theorem dX9_keep_45 : decode cX9_keep 45 = .ok (.iconst 1, 1) := by decide +kernel
theorem dX9_keep_46 : decode cX9_keep 46 = .ok (.putfield 97, 3) := by decide +kernel
theorem dX9_keep_49 : decode cX9_keep 49 = .ok (.iconst 1, 1) := by decide +kernel
theorem dX9_keep_50 : decode cX9_keep 50 = .ok (.ireturn, 1) := by decide +kernel
theorem dX9_goBack_0 : decode cX9_goBack 0 = .ok (.iload_n 1, 1) := by decide +kernel
theorem dX9_goBack_1 : decode cX9_goBack 1 = .ok (.invokestatic 282, 3) := by decide +kernel
theorem dX9_goBack_4 : decode cX9_goBack 4 = .ok (.ifCond .eq 6, 3) := by decide +kernel
theorem dX9_goBack_7 : decode cX9_goBack 7 = .ok (.ldc 136, 2) := by decide +kernel
theorem dX9_goBack_9 : decode cX9_goBack 9 = .ok (.ireturn, 1) := by decide +kernel
theorem dX9_goBack_10 : decode cX9_goBack 10 = .ok (.aload_n 0, 1) := by decide +kernel
theorem dX9_goBack_11 : decode cX9_goBack 11 = .ok (.getfield 50, 3) := by decide +kernel
theorem dX9_goBack_14 : decode cX9_goBack 14 = .ok (.iload_n 1, 1) := by decide +kernel
theorem dX9_goBack_15 : decode cX9_goBack 15 = .ok (.aaload, 1) := by decide +kernel
theorem dX9_goBack_16 : decode cX9_goBack 16 = .ok (.getfield 97, 3) := by decide +kernel
theorem dX9_goBack_19 : decode cX9_goBack 19 = .ok (.ifCond .ne 6, 3) := by decide +kernel
theorem dX9_goBack_22 : decode cX9_goBack 22 = .ok (.ldc 182, 2) := by decide +kernel
theorem dX9_goBack_24 : decode cX9_goBack 24 = .ok (.ireturn, 1) := by decide +kernel
theorem dX9_goBack_25 : decode cX9_goBack 25 = .ok (.aload_n 0, 1) := by decide +kernel
theorem dX9_goBack_26 : decode cX9_goBack 26 = .ok (.getfield 26, 3) := by decide +kernel
theorem dX9_goBack_29 : decode cX9_goBack 29 = .ok (.aload_n 0, 1) := by decide +kernel
theorem dX9_goBack_30 : decode cX9_goBack 30 = .ok (.getfield 50, 3) := by decide +kernel
theorem dX9_goBack_33 : decode cX9_goBack 33 = .ok (.iload_n 1, 1) := by decide +kernel
theorem dX9_goBack_34 : decode cX9_goBack 34 = .ok (.aaload, 1) := by decide +kernel
theorem dX9_goBack_35 : decode cX9_goBack 35 = .ok (.getfield 285, 3) := by decide +kernel
theorem dX9_goBack_38 : decode cX9_goBack 38 = .ok (.invokevirtual 94, 3) := by decide +kernel
theorem dX9_goBack_41 : decode cX9_goBack 41 = .ok (.aload_n 0, 1) := by decide +kernel
theorem dX9_goBack_42 : decode cX9_goBack 42 = .ok (.aload_n 0, 1) := by decide +kernel
theorem dX9_goBack_43 : decode cX9_goBack 43 = .ok (.getfield 50, 3) := by decide +kernel
theorem dX9_goBack_46 : decode cX9_goBack 46 = .ok (.iload_n 1, 1) := by decide +kernel
theorem dX9_goBack_47 : decode cX9_goBack 47 = .ok (.aaload, 1) := by decide +kernel
theorem dX9_goBack_48 : decode cX9_goBack 48 = .ok (.getfield 286, 3) := by decide +kernel
theorem dX9_goBack_51 : decode cX9_goBack 51 = .ok (.putfield 65, 3) := by decide +kernel
theorem dX9_goBack_54 : decode cX9_goBack 54 = .ok (.iconst 1, 1) := by decide +kernel
theorem dX9_goBack_55 : decode cX9_goBack 55 = .ok (.ireturn, 1) := by decide +kernel
theorem dX9_noWaiter_0 : decode cX9_noWaiter 0 = .ok (.iload_n 1, 1) := by decide +kernel
theorem dX9_noWaiter_1 : decode cX9_noWaiter 1 = .ok (.ifCond .lt 14, 3) := by decide +kernel
theorem dX9_noWaiter_4 : decode cX9_noWaiter 4 = .ok (.iload_n 1, 1) := by decide +kernel
theorem dX9_noWaiter_5 : decode cX9_noWaiter 5 = .ok (.aload_n 0, 1) := by decide +kernel
theorem dX9_noWaiter_6 : decode cX9_noWaiter 6 = .ok (.getfield 19, 3) := by decide +kernel
theorem dX9_noWaiter_9 : decode cX9_noWaiter 9 = .ok (.getfield 101, 3) := by decide +kernel
theorem dX9_noWaiter_12 : decode cX9_noWaiter 12 = .ok (.if_icmp .lt 7, 3) := by decide +kernel
theorem dX9_noWaiter_15 : decode cX9_noWaiter 15 = .ok (.iconst 1, 1) := by decide +kernel
theorem dX9_noWaiter_16 : decode cX9_noWaiter 16 = .ok (.goto 4, 3) := by decide +kernel
theorem dX9_noWaiter_19 : decode cX9_noWaiter 19 = .ok (.iconst 0, 1) := by decide +kernel
theorem dX9_noWaiter_20 : decode cX9_noWaiter 20 = .ok (.ireturn, 1) := by decide +kernel
theorem dX9_noLeaf_0 : decode cX9_noLeaf 0 = .ok (.iload_n 0, 1) := by decide +kernel
theorem dX9_noLeaf_1 : decode cX9_noLeaf 1 = .ok (.ifCond .lt 8, 3) := by decide +kernel
theorem dX9_noLeaf_4 : decode cX9_noLeaf 4 = .ok (.iload_n 0, 1) := by decide +kernel
theorem dX9_noLeaf_5 : decode cX9_noLeaf 5 = .ok (.iconst 2, 1) := by decide +kernel
theorem dX9_noLeaf_6 : decode cX9_noLeaf 6 = .ok (.if_icmp .lt 7, 3) := by decide +kernel
theorem dX9_noLeaf_9 : decode cX9_noLeaf 9 = .ok (.iconst 1, 1) := by decide +kernel
theorem dX9_noLeaf_10 : decode cX9_noLeaf 10 = .ok (.goto 4, 3) := by decide +kernel
theorem dX9_noLeaf_13 : decode cX9_noLeaf 13 = .ok (.iconst 0, 1) := by decide +kernel
theorem dX9_noLeaf_14 : decode cX9_noLeaf 14 = .ok (.ireturn, 1) := by decide +kernel
theorem dX9_noSide_0 : decode cX9_noSide 0 = .ok (.iload_n 0, 1) := by decide +kernel
theorem dX9_noSide_1 : decode cX9_noSide 1 = .ok (.ifCond .lt 8, 3) := by decide +kernel
theorem dX9_noSide_4 : decode cX9_noSide 4 = .ok (.iload_n 0, 1) := by decide +kernel
theorem dX9_noSide_5 : decode cX9_noSide 5 = .ok (.iconst 2, 1) := by decide +kernel
theorem dX9_noSide_6 : decode cX9_noSide 6 = .ok (.if_icmp .lt 7, 3) := by decide +kernel
theorem dX9_noSide_9 : decode cX9_noSide 9 = .ok (.iconst 1, 1) := by decide +kernel
theorem dX9_noSide_10 : decode cX9_noSide 10 = .ok (.goto 4, 3) := by decide +kernel
theorem dX9_noSide_13 : decode cX9_noSide 13 = .ok (.iconst 0, 1) := by decide +kernel
theorem dX9_noSide_14 : decode cX9_noSide 14 = .ok (.ireturn, 1) := by decide +kernel
theorem dX9_noRule_0 : decode cX9_noRule 0 = .ok (.iload_n 0, 1) := by decide +kernel
theorem dX9_noRule_1 : decode cX9_noRule 1 = .ok (.ifCond .lt 8, 3) := by decide +kernel
theorem dX9_noRule_4 : decode cX9_noRule 4 = .ok (.iload_n 0, 1) := by decide +kernel
theorem dX9_noRule_5 : decode cX9_noRule 5 = .ok (.iconst 3, 1) := by decide +kernel
theorem dX9_noRule_6 : decode cX9_noRule 6 = .ok (.if_icmp .lt 7, 3) := by decide +kernel
theorem dX9_noRule_9 : decode cX9_noRule 9 = .ok (.iconst 1, 1) := by decide +kernel
theorem dX9_noRule_10 : decode cX9_noRule 10 = .ok (.goto 4, 3) := by decide +kernel
theorem dX9_noRule_13 : decode cX9_noRule 13 = .ok (.iconst 0, 1) := by decide +kernel
theorem dX9_noRule_14 : decode cX9_noRule 14 = .ok (.ireturn, 1) := by decide +kernel
theorem dX9_noImage_0 : decode cX9_noImage 0 = .ok (.iload_n 0, 1) := by decide +kernel
theorem dX9_noImage_1 : decode cX9_noImage 1 = .ok (.ifCond .lt 8, 3) := by decide +kernel
theorem dX9_noImage_4 : decode cX9_noImage 4 = .ok (.iload_n 0, 1) := by decide +kernel
theorem dX9_noImage_5 : decode cX9_noImage 5 = .ok (.iconst 2, 1) := by decide +kernel
theorem dX9_noImage_6 : decode cX9_noImage 6 = .ok (.if_icmp .lt 7, 3) := by decide +kernel
theorem dX9_noImage_9 : decode cX9_noImage 9 = .ok (.iconst 1, 1) := by decide +kernel
theorem dX9_noImage_10 : decode cX9_noImage 10 = .ok (.goto 4, 3) := by decide +kernel
theorem dX9_noImage_13 : decode cX9_noImage 13 = .ok (.iconst 0, 1) := by decide +kernel
theorem dX9_noImage_14 : decode cX9_noImage 14 = .ok (.ireturn, 1) := by decide +kernel
theorem dJ9_max_7cf53_0 : decode cJ9_max_7cf53 0 = .ok (.iload_n 0, 1) := by decide +kernel
theorem dJ9_max_7cf53_1 : decode cJ9_max_7cf53 1 = .ok (.iload_n 1, 1) := by decide +kernel
theorem dJ9_max_7cf53_2 : decode cJ9_max_7cf53 2 = .ok (.if_icmp .lt 7, 3) := by decide +kernel
theorem dJ9_max_7cf53_5 : decode cJ9_max_7cf53 5 = .ok (.iload_n 0, 1) := by decide +kernel
theorem dJ9_max_7cf53_6 : decode cJ9_max_7cf53 6 = .ok (.goto 4, 3) := by decide +kernel
theorem dJ9_max_7cf53_9 : decode cJ9_max_7cf53 9 = .ok (.iload_n 1, 1) := by decide +kernel
theorem dJ9_max_7cf53_10 : decode cJ9_max_7cf53 10 = .ok (.ireturn, 1) := by decide +kernel
theorem dJ9_min_7cf53_0 : decode cJ9_min_7cf53 0 = .ok (.iload_n 0, 1) := by decide +kernel
theorem dJ9_min_7cf53_1 : decode cJ9_min_7cf53 1 = .ok (.iload_n 1, 1) := by decide +kernel
theorem dJ9_min_7cf53_2 : decode cJ9_min_7cf53 2 = .ok (.if_icmp .gt 7, 3) := by decide +kernel
theorem dJ9_min_7cf53_5 : decode cJ9_min_7cf53 5 = .ok (.iload_n 0, 1) := by decide +kernel
theorem dJ9_min_7cf53_6 : decode cJ9_min_7cf53 6 = .ok (.goto 4, 3) := by decide +kernel
theorem dJ9_min_7cf53_9 : decode cJ9_min_7cf53 9 = .ok (.iload_n 1, 1) := by decide +kernel
theorem dJ9_min_7cf53_10 : decode cJ9_min_7cf53 10 = .ok (.ireturn, 1) := by decide +kernel
theorem dJ7_fill_53178_0 : decode cJ7_fill_53178 0 = .ok (.iconst 0, 1) := by decide +kernel
theorem dJ7_fill_53178_1 : decode cJ7_fill_53178 1 = .ok (.istore_n 2, 1) := by decide +kernel
theorem dJ7_fill_53178_2 : decode cJ7_fill_53178 2 = .ok (.aload_n 0, 1) := by decide +kernel
theorem dJ7_fill_53178_3 : decode cJ7_fill_53178 3 = .ok (.arraylength, 1) := by decide +kernel
theorem dJ7_fill_53178_4 : decode cJ7_fill_53178 4 = .ok (.istore_n 3, 1) := by decide +kernel
theorem dJ7_fill_53178_5 : decode cJ7_fill_53178 5 = .ok (.iload_n 2, 1) := by decide +kernel
theorem dJ7_fill_53178_6 : decode cJ7_fill_53178 6 = .ok (.iload_n 3, 1) := by decide +kernel
theorem dJ7_fill_53178_7 : decode cJ7_fill_53178 7 = .ok (.if_icmp .ge 13, 3) := by decide +kernel
theorem dJ7_fill_53178_10 : decode cJ7_fill_53178 10 = .ok (.aload_n 0, 1) := by decide +kernel
theorem dJ7_fill_53178_11 : decode cJ7_fill_53178 11 = .ok (.iload_n 2, 1) := by decide +kernel
theorem dJ7_fill_53178_12 : decode cJ7_fill_53178 12 = .ok (.iload_n 1, 1) := by decide +kernel
theorem dJ7_fill_53178_13 : decode cJ7_fill_53178 13 = .ok (.iastore, 1) := by decide +kernel
theorem dJ7_fill_53178_14 : decode cJ7_fill_53178 14 = .ok (.iinc 2 1, 3) := by decide +kernel
theorem dJ7_fill_53178_17 : decode cJ7_fill_53178 17 = .ok (.goto (-12), 3) := by decide +kernel
theorem dJ7_fill_53178_20 : decode cJ7_fill_53178 20 = .ok (.return_, 1) := by decide +kernel
end
section
theorem dX10_init_0 : decode cX10_init 0 = .ok (.aload_n 0, 1) := by decide +kernel
theorem dX10_init_1 : decode cX10_init 1 = .ok (.invokespecial 1, 3) := by decide +kernel
theorem dX10_init_4 : decode cX10_init 4 = .ok (.aload_n 0, 1) := by decide +kernel
theorem dX10_init_5 : decode cX10_init 5 = .ok (.sipush 250, 3) := by decide +kernel
theorem dX10_init_8 : decode cX10_init 8 = .ok (.newarray .int, 2) := by decide +kernel
theorem dX10_init_10 : decode cX10_init 10 = .ok (.putfield 7, 3) := by decide +kernel
theorem dX10_init_13 : decode cX10_init 13 = .ok (.aload_n 0, 1) := by decide +kernel
theorem dX10_init_14 : decode cX10_init 14 = .ok (.iconst (-1), 1) := by decide +kernel
theorem dX10_init_15 : decode cX10_init 15 = .ok (.putfield 13, 3) := by decide +kernel
theorem dX10_init_18 : decode cX10_init 18 = .ok (.aload_n 0, 1) := by decide +kernel
theorem dX10_init_19 : decode cX10_init 19 = .ok (.bipush 42, 2) := by decide +kernel
theorem dX10_init_21 : decode cX10_init 21 = .ok (.newarray .int, 2) := by decide +kernel
theorem dX10_init_23 : decode cX10_init 23 = .ok (.putfield 17, 3) := by decide +kernel
theorem dX10_init_26 : decode cX10_init 26 = .ok (.aload_n 0, 1) := by decide +kernel
theorem dX10_init_27 : decode cX10_init 27 = .ok (.iconst 4, 1) := by decide +kernel
theorem dX10_init_28 : decode cX10_init 28 = .ok (.newarray .int, 2) := by decide +kernel
theorem dX10_init_30 : decode cX10_init 30 = .ok (.putfield 20, 3) := by decide +kernel
theorem dX10_init_33 : decode cX10_init 33 = .ok (.aload_n 0, 1) := by decide +kernel
theorem dX10_init_34 : decode cX10_init 34 = .ok (.iconst 4, 1) := by decide +kernel
theorem dX10_init_35 : decode cX10_init 35 = .ok (.newarray .int, 2) := by decide +kernel
theorem dX10_init_37 : decode cX10_init 37 = .ok (.putfield 23, 3) := by decide +kernel
theorem dX10_init_40 : decode cX10_init 40 = .ok (.aload_n 0, 1) := by decide +kernel
theorem dX10_init_41 : decode cX10_init 41 = .ok (.bipush 6, 2) := by decide +kernel
theorem dX10_init_43 : decode cX10_init 43 = .ok (.newarray .int, 2) := by decide +kernel
theorem dX10_init_45 : decode cX10_init 45 = .ok (.putfield 26, 3) := by decide +kernel
theorem dX10_init_48 : decode cX10_init 48 = .ok (.aload_n 0, 1) := by decide +kernel
theorem dX10_init_49 : decode cX10_init 49 = .ok (.bipush 6, 2) := by decide +kernel
theorem dX10_init_51 : decode cX10_init 51 = .ok (.newarray .int, 2) := by decide +kernel
theorem dX10_init_53 : decode cX10_init 53 = .ok (.putfield 29, 3) := by decide +kernel
theorem dX10_init_56 : decode cX10_init 56 = .ok (.aload_n 0, 1) := by decide +kernel
theorem dX10_init_57 : decode cX10_init 57 = .ok (.bipush 6, 2) := by decide +kernel
theorem dX10_init_59 : decode cX10_init 59 = .ok (.newarray .int, 2) := by decide +kernel
theorem dX10_init_61 : decode cX10_init 61 = .ok (.putfield 32, 3) := by decide +kernel
theorem dX10_init_64 : decode cX10_init 64 = .ok (.aload_n 0, 1) := by decide +kernel
theorem dX10_init_65 : decode cX10_init 65 = .ok (.bipush 6, 2) := by decide +kernel
theorem dX10_init_67 : decode cX10_init 67 = .ok (.newarray .int, 2) := by decide +kernel
theorem dX10_init_69 : decode cX10_init 69 = .ok (.putfield 35, 3) := by decide +kernel
theorem dX10_init_72 : decode cX10_init 72 = .ok (.aload_n 0, 1) := by decide +kernel
theorem dX10_init_73 : decode cX10_init 73 = .ok (.bipush 21, 2) := by decide +kernel
theorem dX10_init_75 : decode cX10_init 75 = .ok (.newarray .int, 2) := by decide +kernel
theorem dX10_init_77 : decode cX10_init 77 = .ok (.putfield 38, 3) := by decide +kernel
theorem dX10_init_80 : decode cX10_init 80 = .ok (.aload_n 0, 1) := by decide +kernel
theorem dX10_init_81 : decode cX10_init 81 = .ok (.bipush 42, 2) := by decide +kernel
theorem dX10_init_83 : decode cX10_init 83 = .ok (.newarray .int, 2) := by decide +kernel
theorem dX10_init_85 : decode cX10_init 85 = .ok (.putfield 41, 3) := by decide +kernel
theorem dX10_init_88 : decode cX10_init 88 = .ok (.aload_n 0, 1) := by decide +kernel
theorem dX10_init_89 : decode cX10_init 89 = .ok (.iconst 2, 1) := by decide +kernel
theorem dX10_init_90 : decode cX10_init 90 = .ok (.newarray .boolean, 2) := by decide +kernel
theorem dX10_init_92 : decode cX10_init 92 = .ok (.putfield 44, 3) := by decide +kernel
theorem dX10_init_95 : decode cX10_init 95 = .ok (.aload_n 0, 1) := by decide +kernel
theorem dX10_init_96 : decode cX10_init 96 = .ok (.bipush 6, 2) := by decide +kernel
theorem dX10_init_98 : decode cX10_init 98 = .ok (.newarray .int, 2) := by decide +kernel
theorem dX10_init_100 : decode cX10_init 100 = .ok (.putfield 48, 3) := by decide +kernel
theorem dX10_init_103 : decode cX10_init 103 = .ok (.aload_n 0, 1) := by decide +kernel
theorem dX10_init_104 : decode cX10_init 104 = .ok (.bipush 6, 2) := by decide +kernel
theorem dX10_init_106 : decode cX10_init 106 = .ok (.newarray .int, 2) := by decide +kernel
theorem dX10_init_108 : decode cX10_init 108 = .ok (.putfield 51, 3) := by decide +kernel
theorem dX10_init_111 : decode cX10_init 111 = .ok (.aload_n 0, 1) := by decide +kernel
theorem dX10_init_112 : decode cX10_init 112 = .ok (.bipush 6, 2) := by decide +kernel
theorem dX10_init_114 : decode cX10_init 114 = .ok (.newarray .int, 2) := by decide +kernel
theorem dX10_init_116 : decode cX10_init 116 = .ok (.putfield 54, 3) := by decide +kernel
theorem dX10_init_119 : decode cX10_init 119 = .ok (.aload_n 0, 1) := by decide +kernel
theorem dX10_init_120 : decode cX10_init 120 = .ok (.bipush 6, 2) := by decide +kernel
theorem dX10_init_122 : decode cX10_init 122 = .ok (.newarray .int, 2) := by decide +kernel
theorem dX10_init_124 : decode cX10_init 124 = .ok (.putfield 57, 3) := by decide +kernel
theorem dX10_init_127 : decode cX10_init 127 = .ok (.aload_n 0, 1) := by decide +kernel
theorem dX10_init_128 : decode cX10_init 128 = .ok (.bipush 6, 2) := by decide +kernel
theorem dX10_init_130 : decode cX10_init 130 = .ok (.newarray .int, 2) := by decide +kernel
theorem dX10_init_132 : decode cX10_init 132 = .ok (.putfield 60, 3) := by decide +kernel
theorem dX10_init_135 : decode cX10_init 135 = .ok (.aload_n 0, 1) := by decide +kernel
theorem dX10_init_136 : decode cX10_init 136 = .ok (.bipush 6, 2) := by decide +kernel
theorem dX10_init_138 : decode cX10_init 138 = .ok (.newarray .boolean, 2) := by decide +kernel
theorem dX10_init_140 : decode cX10_init 140 = .ok (.putfield 63, 3) := by decide +kernel
theorem dX10_init_143 : decode cX10_init 143 = .ok (.aload_n 0, 1) := by decide +kernel
theorem dX10_init_144 : decode cX10_init 144 = .ok (.iconst 4, 1) := by decide +kernel
theorem dX10_init_145 : decode cX10_init 145 = .ok (.newarray .int, 2) := by decide +kernel
theorem dX10_init_147 : decode cX10_init 147 = .ok (.putfield 66, 3) := by decide +kernel
theorem dX10_init_150 : decode cX10_init 150 = .ok (.aload_n 0, 1) := by decide +kernel
theorem dX10_init_151 : decode cX10_init 151 = .ok (.iconst 4, 1) := by decide +kernel
theorem dX10_init_152 : decode cX10_init 152 = .ok (.newarray .int, 2) := by decide +kernel
theorem dX10_init_154 : decode cX10_init 154 = .ok (.putfield 69, 3) := by decide +kernel
theorem dX10_init_157 : decode cX10_init 157 = .ok (.aload_n 0, 1) := by decide +kernel
theorem dX10_init_158 : decode cX10_init 158 = .ok (.iconst 2, 1) := by decide +kernel
theorem dX10_init_159 : decode cX10_init 159 = .ok (.newarray .int, 2) := by decide +kernel
theorem dX10_init_161 : decode cX10_init 161 = .ok (.putfield 72, 3) := by decide +kernel
theorem dX10_init_164 : decode cX10_init 164 = .ok (.aload_n 0, 1) := by decide +kernel
theorem dX10_init_165 : decode cX10_init 165 = .ok (.iconst 2, 1) := by decide +kernel
theorem dX10_init_166 : decode cX10_init 166 = .ok (.newarray .int, 2) := by decide +kernel
theorem dX10_init_168 : decode cX10_init 168 = .ok (.putfield 75, 3) := by decide +kernel
theorem dX10_init_171 : decode cX10_init 171 = .ok (.aload_n 0, 1) := by decide +kernel
theorem dX10_init_172 : decode cX10_init 172 = .ok (.iconst 2, 1) := by decide +kernel
theorem dX10_init_173 : decode cX10_init 173 = .ok (.newarray .int, 2) := by decide +kernel
theorem dX10_init_175 : decode cX10_init 175 = .ok (.putfield 78, 3) := by decide +kernel
theorem dX10_init_178 : decode cX10_init 178 = .ok (.aload_n 0, 1) := by decide +kernel
theorem dX10_init_179 : decode cX10_init 179 = .ok (.iconst 2, 1) := by decide +kernel
theorem dX10_init_180 : decode cX10_init 180 = .ok (.newarray .int, 2) := by decide +kernel
theorem dX10_init_182 : decode cX10_init 182 = .ok (.putfield 81, 3) := by decide +kernel
theorem dX10_init_185 : decode cX10_init 185 = .ok (.aload_n 0, 1) := by decide +kernel
theorem dX10_init_186 : decode cX10_init 186 = .ok (.iconst 4, 1) := by decide +kernel
theorem dX10_init_187 : decode cX10_init 187 = .ok (.newarray .int, 2) := by decide +kernel
theorem dX10_init_189 : decode cX10_init 189 = .ok (.putfield 84, 3) := by decide +kernel
theorem dX10_init_192 : decode cX10_init 192 = .ok (.aload_n 0, 1) := by decide +kernel
theorem dX10_init_193 : decode cX10_init 193 = .ok (.bipush 21, 2) := by decide +kernel
theorem dX10_init_195 : decode cX10_init 195 = .ok (.newarray .int, 2) := by decide +kernel
theorem dX10_init_197 : decode cX10_init 197 = .ok (.putfield 87, 3) := by decide +kernel
theorem dX10_init_200 : decode cX10_init 200 = .ok (.aload_n 0, 1) := by decide +kernel
theorem dX10_init_201 : decode cX10_init 201 = .ok (.bipush 6, 2) := by decide +kernel
theorem dX10_init_203 : decode cX10_init 203 = .ok (.newarray .int, 2) := by decide +kernel
theorem dX10_init_205 : decode cX10_init 205 = .ok (.putfield 90, 3) := by decide +kernel
theorem dX10_init_208 : decode cX10_init 208 = .ok (.aload_n 0, 1) := by decide +kernel
theorem dX10_init_209 : decode cX10_init 209 = .ok (.bipush 6, 2) := by decide +kernel
theorem dX10_init_211 : decode cX10_init 211 = .ok (.newarray .int, 2) := by decide +kernel
theorem dX10_init_213 : decode cX10_init 213 = .ok (.putfield 93, 3) := by decide +kernel
theorem dX10_init_216 : decode cX10_init 216 = .ok (.aload_n 0, 1) := by decide +kernel
theorem dX10_init_217 : decode cX10_init 217 = .ok (.bipush 6, 2) := by decide +kernel
theorem dX10_init_219 : decode cX10_init 219 = .ok (.newarray .int, 2) := by decide +kernel
theorem dX10_init_221 : decode cX10_init 221 = .ok (.putfield 96, 3) := by decide +kernel
theorem dX10_init_224 : decode cX10_init 224 = .ok (.aload_n 0, 1) := by decide +kernel
theorem dX10_init_225 : decode cX10_init 225 = .ok (.bipush 6, 2) := by decide +kernel
theorem dX10_init_227 : decode cX10_init 227 = .ok (.newarray .int, 2) := by decide +kernel
theorem dX10_init_229 : decode cX10_init 229 = .ok (.putfield 99, 3) := by decide +kernel
theorem dX10_init_232 : decode cX10_init 232 = .ok (.aload_n 0, 1) := by decide +kernel
theorem dX10_init_233 : decode cX10_init 233 = .ok (.bipush 40, 2) := by decide +kernel
theorem dX10_init_235 : decode cX10_init 235 = .ok (.newarray .int, 2) := by decide +kernel
theorem dX10_init_237 : decode cX10_init 237 = .ok (.putfield 102, 3) := by decide +kernel
theorem dX10_init_240 : decode cX10_init 240 = .ok (.aload_n 0, 1) := by decide +kernel
theorem dX10_init_241 : decode cX10_init 241 = .ok (.getfield 23, 3) := by decide +kernel
theorem dX10_init_244 : decode cX10_init 244 = .ok (.iconst 0, 1) := by decide +kernel
theorem dX10_init_245 : decode cX10_init 245 = .ok (.iconst 2, 1) := by decide +kernel
theorem dX10_init_246 : decode cX10_init 246 = .ok (.iastore, 1) := by decide +kernel
theorem dX10_init_247 : decode cX10_init 247 = .ok (.aload_n 0, 1) := by decide +kernel
theorem dX10_init_248 : decode cX10_init 248 = .ok (.getfield 23, 3) := by decide +kernel
theorem dX10_init_251 : decode cX10_init 251 = .ok (.iconst 1, 1) := by decide +kernel
theorem dX10_init_252 : decode cX10_init 252 = .ok (.iconst 3, 1) := by decide +kernel
theorem dX10_init_253 : decode cX10_init 253 = .ok (.iastore, 1) := by decide +kernel
theorem dX10_init_254 : decode cX10_init 254 = .ok (.aload_n 0, 1) := by decide +kernel
theorem dX10_init_255 : decode cX10_init 255 = .ok (.getfield 23, 3) := by decide +kernel
theorem dX10_init_258 : decode cX10_init 258 = .ok (.iconst 2, 1) := by decide +kernel
theorem dX10_init_259 : decode cX10_init 259 = .ok (.iconst 2, 1) := by decide +kernel
theorem dX10_init_260 : decode cX10_init 260 = .ok (.iastore, 1) := by decide +kernel
theorem dX10_init_261 : decode cX10_init 261 = .ok (.aload_n 0, 1) := by decide +kernel
theorem dX10_init_262 : decode cX10_init 262 = .ok (.getfield 23, 3) := by decide +kernel
theorem dX10_init_265 : decode cX10_init 265 = .ok (.iconst 3, 1) := by decide +kernel
theorem dX10_init_266 : decode cX10_init 266 = .ok (.iconst 3, 1) := by decide +kernel
theorem dX10_init_267 : decode cX10_init 267 = .ok (.iastore, 1) := by decide +kernel
theorem dX10_init_268 : decode cX10_init 268 = .ok (.aload_n 0, 1) := by decide +kernel
theorem dX10_init_269 : decode cX10_init 269 = .ok (.getfield 38, 3) := by decide +kernel
theorem dX10_init_272 : decode cX10_init 272 = .ok (.bipush 19, 2) := by decide +kernel
theorem dX10_init_274 : decode cX10_init 274 = .ok (.bipush 9, 2) := by decide +kernel
theorem dX10_init_276 : decode cX10_init 276 = .ok (.iastore, 1) := by decide +kernel
theorem dX10_init_277 : decode cX10_init 277 = .ok (.return_, 1) := by decide +kernel
theorem dX10_in_0 : decode cX10_in 0 = .ok (.iload_n 0, 1) := by decide +kernel
theorem dX10_in_1 : decode cX10_in 1 = .ok (.iload_n 1, 1) := by decide +kernel
theorem dX10_in_2 : decode cX10_in 2 = .ok (.if_icmp .lt 12, 3) := by decide +kernel
theorem dX10_in_5 : decode cX10_in 5 = .ok (.iload_n 0, 1) := by decide +kernel
theorem dX10_in_6 : decode cX10_in 6 = .ok (.iload_n 2, 1) := by decide +kernel
theorem dX10_in_7 : decode cX10_in 7 = .ok (.if_icmp .gt 7, 3) := by decide +kernel
theorem dX10_in_10 : decode cX10_in 10 = .ok (.iconst 1, 1) := by decide +kernel
theorem dX10_in_11 : decode cX10_in 11 = .ok (.goto 4, 3) := by decide +kernel
theorem dX10_in_14 : decode cX10_in 14 = .ok (.iconst 0, 1) := by decide +kernel
theorem dX10_in_15 : decode cX10_in 15 = .ok (.ireturn, 1) := by decide +kernel
theorem dX10_isOne_0 : decode cX10_isOne 0 = .ok (.iload_n 1, 1) := by decide +kernel
theorem dX10_isOne_1 : decode cX10_isOne 1 = .ok (.iconst 0, 1) := by decide +kernel
theorem dX10_isOne_2 : decode cX10_isOne 2 = .ok (.aload_n 0, 1) := by decide +kernel
theorem dX10_isOne_3 : decode cX10_isOne 3 = .ok (.getfield 105, 3) := by decide +kernel
theorem dX10_isOne_6 : decode cX10_isOne 6 = .ok (.iconst 1, 1) := by decide +kernel
theorem dX10_isOne_7 : decode cX10_isOne 7 = .ok (.isub, 1) := by decide +kernel
theorem dX10_isOne_8 : decode cX10_isOne 8 = .ok (.invokestatic 108, 3) := by decide +kernel
theorem dX10_isOne_11 : decode cX10_isOne 11 = .ok (.ireturn, 1) := by decide +kernel
theorem dX10_feed_0 : decode cX10_feed 0 = .ok (.iload_n 1, 1) := by decide +kernel
theorem dX10_feed_1 : decode cX10_feed 1 = .ok (.iconst 0, 1) := by decide +kernel
theorem dX10_feed_2 : decode cX10_feed 2 = .ok (.sipush 255, 3) := by decide +kernel
theorem dX10_feed_5 : decode cX10_feed 5 = .ok (.invokestatic 108, 3) := by decide +kernel
theorem dX10_feed_8 : decode cX10_feed 8 = .ok (.ifCond .ne 6, 3) := by decide +kernel
theorem dX10_feed_11 : decode cX10_feed 11 = .ok (.ldc 112, 2) := by decide +kernel
theorem dX10_feed_13 : decode cX10_feed 13 = .ok (.ireturn, 1) := by decide +kernel
theorem dX10_feed_14 : decode cX10_feed 14 = .ok (.aload_n 0, 1) := by decide +kernel
theorem dX10_feed_15 : decode cX10_feed 15 = .ok (.getfield 113, 3) := by decide +kernel
theorem dX10_feed_18 : decode cX10_feed 18 = .ok (.sipush 250, 3) := by decide +kernel
theorem dX10_feed_21 : decode cX10_feed 21 = .ok (.if_icmp .ne 6, 3) := by decide +kernel
theorem dX10_feed_24 : decode cX10_feed 24 = .ok (.ldc 116, 2) := by decide +kernel
theorem dX10_feed_26 : decode cX10_feed 26 = .ok (.ireturn, 1) := by decide +kernel
theorem dX10_feed_27 : decode cX10_feed 27 = .ok (.aload_n 0, 1) := by decide +kernel
theorem dX10_feed_28 : decode cX10_feed 28 = .ok (.getfield 7, 3) := by decide +kernel
theorem dX10_feed_31 : decode cX10_feed 31 = .ok (.aload_n 0, 1) := by decide +kernel
theorem dX10_feed_32 : decode cX10_feed 32 = .ok (.getfield 113, 3) := by decide +kernel
theorem dX10_feed_35 : decode cX10_feed 35 = .ok (.iload_n 1, 1) := by decide +kernel
theorem dX10_feed_36 : decode cX10_feed 36 = .ok (.iastore, 1) := by decide +kernel
theorem dX10_feed_37 : decode cX10_feed 37 = .ok (.aload_n 0, 1) := by decide +kernel
theorem dX10_feed_38 : decode cX10_feed 38 = .ok (.dup, 1) := by decide +kernel
theorem dX10_feed_39 : decode cX10_feed 39 = .ok (.getfield 113, 3) := by decide +kernel
theorem dX10_feed_42 : decode cX10_feed 42 = .ok (.iconst 1, 1) := by decide +kernel
theorem dX10_feed_43 : decode cX10_feed 43 = .ok (.iadd, 1) := by decide +kernel
theorem dX10_feed_44 : decode cX10_feed 44 = .ok (.putfield 113, 3) := by decide +kernel
theorem dX10_feed_47 : decode cX10_feed 47 = .ok (.aload_n 0, 1) := by decide +kernel
theorem dX10_feed_48 : decode cX10_feed 48 = .ok (.getfield 113, 3) := by decide +kernel
theorem dX10_feed_51 : decode cX10_feed 51 = .ok (.ireturn, 1) := by decide +kernel
theorem dX10_nextToken_0 : decode cX10_nextToken 0 = .ok (.aload_n 0, 1) := by decide +kernel
theorem dX10_nextToken_1 : decode cX10_nextToken 1 = .ok (.getfield 117, 3) := by decide +kernel
theorem dX10_nextToken_4 : decode cX10_nextToken 4 = .ok (.aload_n 0, 1) := by decide +kernel
theorem dX10_nextToken_5 : decode cX10_nextToken 5 = .ok (.getfield 113, 3) := by decide +kernel
theorem dX10_nextToken_8 : decode cX10_nextToken 8 = .ok (.if_icmp .ge 30, 3) := by decide +kernel
theorem dX10_nextToken_11 : decode cX10_nextToken 11 = .ok (.aload_n 0, 1) := by decide +kernel
theorem dX10_nextToken_12 : decode cX10_nextToken 12 = .ok (.getfield 7, 3) := by decide +kernel
theorem dX10_nextToken_15 : decode cX10_nextToken 15 = .ok (.aload_n 0, 1) := by decide +kernel
theorem dX10_nextToken_16 : decode cX10_nextToken 16 = .ok (.getfield 117, 3) := by decide +kernel
theorem dX10_nextToken_19 : decode cX10_nextToken 19 = .ok (.iaload, 1) := by decide +kernel
theorem dX10_nextToken_20 : decode cX10_nextToken 20 = .ok (.bipush 32, 2) := by decide +kernel
theorem dX10_nextToken_22 : decode cX10_nextToken 22 = .ok (.if_icmp .ne 16, 3) := by decide +kernel
theorem dX10_nextToken_25 : decode cX10_nextToken 25 = .ok (.aload_n 0, 1) := by decide +kernel
theorem dX10_nextToken_26 : decode cX10_nextToken 26 = .ok (.dup, 1) := by decide +kernel
theorem dX10_nextToken_27 : decode cX10_nextToken 27 = .ok (.getfield 117, 3) := by decide +kernel
theorem dX10_nextToken_30 : decode cX10_nextToken 30 = .ok (.iconst 1, 1) := by decide +kernel
theorem dX10_nextToken_31 : decode cX10_nextToken 31 = .ok (.iadd, 1) := by decide +kernel
theorem dX10_nextToken_32 : decode cX10_nextToken 32 = .ok (.putfield 117, 3) := by decide +kernel
theorem dX10_nextToken_35 : decode cX10_nextToken 35 = .ok (.goto (-35), 3) := by decide +kernel
theorem dX10_nextToken_38 : decode cX10_nextToken 38 = .ok (.aload_n 0, 1) := by decide +kernel
theorem dX10_nextToken_39 : decode cX10_nextToken 39 = .ok (.aload_n 0, 1) := by decide +kernel
theorem dX10_nextToken_40 : decode cX10_nextToken 40 = .ok (.getfield 117, 3) := by decide +kernel
theorem dX10_nextToken_43 : decode cX10_nextToken 43 = .ok (.putfield 120, 3) := by decide +kernel
theorem dX10_nextToken_46 : decode cX10_nextToken 46 = .ok (.aload_n 0, 1) := by decide +kernel
theorem dX10_nextToken_47 : decode cX10_nextToken 47 = .ok (.iconst 0, 1) := by decide +kernel
theorem dX10_nextToken_48 : decode cX10_nextToken 48 = .ok (.putfield 123, 3) := by decide +kernel
theorem dX10_nextToken_51 : decode cX10_nextToken 51 = .ok (.aload_n 0, 1) := by decide +kernel
theorem dX10_nextToken_52 : decode cX10_nextToken 52 = .ok (.getfield 117, 3) := by decide +kernel
theorem dX10_nextToken_55 : decode cX10_nextToken 55 = .ok (.aload_n 0, 1) := by decide +kernel
theorem dX10_nextToken_56 : decode cX10_nextToken 56 = .ok (.getfield 113, 3) := by decide +kernel
theorem dX10_nextToken_59 : decode cX10_nextToken 59 = .ok (.if_icmp .ne 12, 3) := by decide +kernel
theorem dX10_nextToken_62 : decode cX10_nextToken 62 = .ok (.aload_n 0, 1) := by decide +kernel
theorem dX10_nextToken_63 : decode cX10_nextToken 63 = .ok (.bipush (-2), 2) := by decide +kernel
theorem dX10_nextToken_65 : decode cX10_nextToken 65 = .ok (.putfield 126, 3) := by decide +kernel
theorem dX10_nextToken_68 : decode cX10_nextToken 68 = .ok (.goto 158, 3) := by decide +kernel
theorem dX10_nextToken_71 : decode cX10_nextToken 71 = .ok (.aload_n 0, 1) := by decide +kernel
theorem dX10_nextToken_72 : decode cX10_nextToken 72 = .ok (.getfield 7, 3) := by decide +kernel
theorem dX10_nextToken_75 : decode cX10_nextToken 75 = .ok (.aload_n 0, 1) := by decide +kernel
theorem dX10_nextToken_76 : decode cX10_nextToken 76 = .ok (.getfield 117, 3) := by decide +kernel
theorem dX10_nextToken_79 : decode cX10_nextToken 79 = .ok (.iaload, 1) := by decide +kernel
theorem dX10_nextToken_80 : decode cX10_nextToken 80 = .ok (.bipush 48, 2) := by decide +kernel
theorem dX10_nextToken_82 : decode cX10_nextToken 82 = .ok (.bipush 57, 2) := by decide +kernel
theorem dX10_nextToken_84 : decode cX10_nextToken 84 = .ok (.invokestatic 108, 3) := by decide +kernel
theorem dX10_nextToken_87 : decode cX10_nextToken 87 = .ok (.ifCond .eq 116, 3) := by decide +kernel
theorem dX10_nextToken_90 : decode cX10_nextToken 90 = .ok (.aload_n 0, 1) := by decide +kernel
theorem dX10_nextToken_91 : decode cX10_nextToken 91 = .ok (.getfield 117, 3) := by decide +kernel
theorem dX10_nextToken_94 : decode cX10_nextToken 94 = .ok (.aload_n 0, 1) := by decide +kernel
theorem dX10_nextToken_95 : decode cX10_nextToken 95 = .ok (.getfield 113, 3) := by decide +kernel
theorem dX10_nextToken_98 : decode cX10_nextToken 98 = .ok (.if_icmp .ge 79, 3) := by decide +kernel
theorem dX10_nextToken_101 : decode cX10_nextToken 101 = .ok (.aload_n 0, 1) := by decide +kernel
theorem dX10_nextToken_102 : decode cX10_nextToken 102 = .ok (.getfield 7, 3) := by decide +kernel
theorem dX10_nextToken_105 : decode cX10_nextToken 105 = .ok (.aload_n 0, 1) := by decide +kernel
theorem dX10_nextToken_106 : decode cX10_nextToken 106 = .ok (.getfield 117, 3) := by decide +kernel
theorem dX10_nextToken_109 : decode cX10_nextToken 109 = .ok (.iaload, 1) := by decide +kernel
theorem dX10_nextToken_110 : decode cX10_nextToken 110 = .ok (.bipush 48, 2) := by decide +kernel
theorem dX10_nextToken_112 : decode cX10_nextToken 112 = .ok (.bipush 57, 2) := by decide +kernel
theorem dX10_nextToken_114 : decode cX10_nextToken 114 = .ok (.invokestatic 108, 3) := by decide +kernel
theorem dX10_nextToken_117 : decode cX10_nextToken 117 = .ok (.ifCond .eq 60, 3) := by decide +kernel
theorem dX10_nextToken_120 : decode cX10_nextToken 120 = .ok (.aload_n 0, 1) := by decide +kernel
theorem dX10_nextToken_121 : decode cX10_nextToken 121 = .ok (.aload_n 0, 1) := by decide +kernel
theorem dX10_nextToken_122 : decode cX10_nextToken 122 = .ok (.getfield 117, 3) := by decide +kernel
theorem dX10_nextToken_125 : decode cX10_nextToken 125 = .ok (.aload_n 0, 1) := by decide +kernel
theorem dX10_nextToken_126 : decode cX10_nextToken 126 = .ok (.getfield 120, 3) := by decide +kernel
theorem dX10_nextToken_129 : decode cX10_nextToken 129 = .ok (.isub, 1) := by decide +kernel
theorem dX10_nextToken_130 : decode cX10_nextToken 130 = .ok (.iconst 3, 1) := by decide +kernel
theorem dX10_nextToken_131 : decode cX10_nextToken 131 = .ok (.if_icmp .ge 26, 3) := by decide +kernel
theorem dX10_nextToken_134 : decode cX10_nextToken 134 = .ok (.bipush 10, 2) := by decide +kernel
theorem dX10_nextToken_136 : decode cX10_nextToken 136 = .ok (.aload_n 0, 1) := by decide +kernel
theorem dX10_nextToken_137 : decode cX10_nextToken 137 = .ok (.getfield 123, 3) := by decide +kernel
theorem dX10_nextToken_140 : decode cX10_nextToken 140 = .ok (.imul, 1) := by decide +kernel
theorem dX10_nextToken_141 : decode cX10_nextToken 141 = .ok (.aload_n 0, 1) := by decide +kernel
theorem dX10_nextToken_142 : decode cX10_nextToken 142 = .ok (.getfield 7, 3) := by decide +kernel
theorem dX10_nextToken_145 : decode cX10_nextToken 145 = .ok (.aload_n 0, 1) := by decide +kernel
theorem dX10_nextToken_146 : decode cX10_nextToken 146 = .ok (.getfield 117, 3) := by decide +kernel
theorem dX10_nextToken_149 : decode cX10_nextToken 149 = .ok (.iaload, 1) := by decide +kernel
theorem dX10_nextToken_150 : decode cX10_nextToken 150 = .ok (.iadd, 1) := by decide +kernel
theorem dX10_nextToken_151 : decode cX10_nextToken 151 = .ok (.bipush 48, 2) := by decide +kernel
theorem dX10_nextToken_153 : decode cX10_nextToken 153 = .ok (.isub, 1) := by decide +kernel
theorem dX10_nextToken_154 : decode cX10_nextToken 154 = .ok (.goto 7, 3) := by decide +kernel
theorem dX10_nextToken_157 : decode cX10_nextToken 157 = .ok (.aload_n 0, 1) := by decide +kernel
theorem dX10_nextToken_158 : decode cX10_nextToken 158 = .ok (.getfield 123, 3) := by decide +kernel
theorem dX10_nextToken_161 : decode cX10_nextToken 161 = .ok (.putfield 123, 3) := by decide +kernel
theorem dX10_nextToken_164 : decode cX10_nextToken 164 = .ok (.aload_n 0, 1) := by decide +kernel
theorem dX10_nextToken_165 : decode cX10_nextToken 165 = .ok (.dup, 1) := by decide +kernel
theorem dX10_nextToken_166 : decode cX10_nextToken 166 = .ok (.getfield 117, 3) := by decide +kernel
theorem dX10_nextToken_169 : decode cX10_nextToken 169 = .ok (.iconst 1, 1) := by decide +kernel
theorem dX10_nextToken_170 : decode cX10_nextToken 170 = .ok (.iadd, 1) := by decide +kernel
theorem dX10_nextToken_171 : decode cX10_nextToken 171 = .ok (.putfield 117, 3) := by decide +kernel
theorem dX10_nextToken_174 : decode cX10_nextToken 174 = .ok (.goto (-84), 3) := by decide +kernel
theorem dX10_nextToken_177 : decode cX10_nextToken 177 = .ok (.aload_n 0, 1) := by decide +kernel
theorem dX10_nextToken_178 : decode cX10_nextToken 178 = .ok (.aload_n 0, 1) := by decide +kernel
theorem dX10_nextToken_179 : decode cX10_nextToken 179 = .ok (.getfield 117, 3) := by decide +kernel
theorem dX10_nextToken_182 : decode cX10_nextToken 182 = .ok (.aload_n 0, 1) := by decide +kernel
theorem dX10_nextToken_183 : decode cX10_nextToken 183 = .ok (.getfield 120, 3) := by decide +kernel
theorem dX10_nextToken_186 : decode cX10_nextToken 186 = .ok (.isub, 1) := by decide +kernel
theorem dX10_nextToken_187 : decode cX10_nextToken 187 = .ok (.iconst 3, 1) := by decide +kernel
theorem dX10_nextToken_188 : decode cX10_nextToken 188 = .ok (.if_icmp .le 8, 3) := by decide +kernel
theorem dX10_nextToken_191 : decode cX10_nextToken 191 = .ok (.bipush (-3), 2) := by decide +kernel
theorem dX10_nextToken_193 : decode cX10_nextToken 193 = .ok (.goto 4, 3) := by decide +kernel
theorem dX10_nextToken_196 : decode cX10_nextToken 196 = .ok (.iconst (-1), 1) := by decide +kernel
theorem dX10_nextToken_197 : decode cX10_nextToken 197 = .ok (.putfield 126, 3) := by decide +kernel
theorem dX10_nextToken_200 : decode cX10_nextToken 200 = .ok (.goto 26, 3) := by decide +kernel
theorem dX10_nextToken_203 : decode cX10_nextToken 203 = .ok (.aload_n 0, 1) := by decide +kernel
theorem dX10_nextToken_204 : decode cX10_nextToken 204 = .ok (.aload_n 0, 1) := by decide +kernel
theorem dX10_nextToken_205 : decode cX10_nextToken 205 = .ok (.getfield 7, 3) := by decide +kernel
theorem dX10_nextToken_208 : decode cX10_nextToken 208 = .ok (.aload_n 0, 1) := by decide +kernel
theorem dX10_nextToken_209 : decode cX10_nextToken 209 = .ok (.getfield 117, 3) := by decide +kernel
theorem dX10_nextToken_212 : decode cX10_nextToken 212 = .ok (.iaload, 1) := by decide +kernel
theorem dX10_nextToken_213 : decode cX10_nextToken 213 = .ok (.putfield 126, 3) := by decide +kernel
theorem dX10_nextToken_216 : decode cX10_nextToken 216 = .ok (.aload_n 0, 1) := by decide +kernel
theorem dX10_nextToken_217 : decode cX10_nextToken 217 = .ok (.dup, 1) := by decide +kernel
theorem dX10_nextToken_218 : decode cX10_nextToken 218 = .ok (.getfield 117, 3) := by decide +kernel
theorem dX10_nextToken_221 : decode cX10_nextToken 221 = .ok (.iconst 1, 1) := by decide +kernel
theorem dX10_nextToken_222 : decode cX10_nextToken 222 = .ok (.iadd, 1) := by decide +kernel
theorem dX10_nextToken_223 : decode cX10_nextToken 223 = .ok (.putfield 117, 3) := by decide +kernel
theorem dX10_nextToken_226 : decode cX10_nextToken 226 = .ok (.return_, 1) := by decide +kernel
theorem dX10_fails_0 : decode cX10_fails 0 = .ok (.aload_n 0, 1) := by decide +kernel
theorem dX10_fails_1 : decode cX10_fails 1 = .ok (.iload_n 1, 1) := by decide +kernel
theorem dX10_fails_2 : decode cX10_fails 2 = .ok (.putfield 129, 3) := by decide +kernel
theorem dX10_fails_5 : decode cX10_fails 5 = .ok (.aload_n 0, 1) := by decide +kernel
theorem dX10_fails_6 : decode cX10_fails 6 = .ok (.aload_n 0, 1) := by decide +kernel
theorem dX10_fails_7 : decode cX10_fails 7 = .ok (.getfield 120, 3) := by decide +kernel
theorem dX10_fails_10 : decode cX10_fails 10 = .ok (.putfield 13, 3) := by decide +kernel
theorem dX10_fails_13 : decode cX10_fails 13 = .ok (.iconst 0, 1) := by decide +kernel
theorem dX10_fails_14 : decode cX10_fails 14 = .ok (.ireturn, 1) := by decide +kernel
theorem dX10_isNumber_0 : decode cX10_isNumber 0 = .ok (.aload_n 0, 1) := by decide +kernel
theorem dX10_isNumber_1 : decode cX10_isNumber 1 = .ok (.invokevirtual 132, 3) := by decide +kernel
theorem dX10_isNumber_4 : decode cX10_isNumber 4 = .ok (.aload_n 0, 1) := by decide +kernel
theorem dX10_isNumber_5 : decode cX10_isNumber 5 = .ok (.getfield 126, 3) := by decide +kernel
theorem dX10_isNumber_8 : decode cX10_isNumber 8 = .ok (.iconst (-1), 1) := by decide +kernel
theorem dX10_isNumber_9 : decode cX10_isNumber 9 = .ok (.if_icmp .eq 18, 3) := by decide +kernel
theorem dX10_isNumber_12 : decode cX10_isNumber 12 = .ok (.aload_n 0, 1) := by decide +kernel
theorem dX10_isNumber_13 : decode cX10_isNumber 13 = .ok (.getfield 126, 3) := by decide +kernel
theorem dX10_isNumber_16 : decode cX10_isNumber 16 = .ok (.bipush (-3), 2) := by decide +kernel
theorem dX10_isNumber_18 : decode cX10_isNumber 18 = .ok (.if_icmp .eq 9, 3) := by decide +kernel
theorem dX10_isNumber_21 : decode cX10_isNumber 21 = .ok (.aload_n 0, 1) := by decide +kernel
theorem dX10_isNumber_22 : decode cX10_isNumber 22 = .ok (.iconst 1, 1) := by decide +kernel
theorem dX10_isNumber_23 : decode cX10_isNumber 23 = .ok (.invokevirtual 135, 3) := by decide +kernel
theorem dX10_isNumber_26 : decode cX10_isNumber 26 = .ok (.ireturn, 1) := by decide +kernel
theorem dX10_isNumber_27 : decode cX10_isNumber 27 = .ok (.aload_n 0, 1) := by decide +kernel
theorem dX10_isNumber_28 : decode cX10_isNumber 28 = .ok (.getfield 126, 3) := by decide +kernel
theorem dX10_isNumber_31 : decode cX10_isNumber 31 = .ok (.iconst (-1), 1) := by decide +kernel
theorem dX10_isNumber_32 : decode cX10_isNumber 32 = .ok (.if_icmp .ne 15, 3) := by decide +kernel
theorem dX10_isNumber_35 : decode cX10_isNumber 35 = .ok (.aload_n 0, 1) := by decide +kernel
theorem dX10_isNumber_36 : decode cX10_isNumber 36 = .ok (.getfield 123, 3) := by decide +kernel
theorem dX10_isNumber_39 : decode cX10_isNumber 39 = .ok (.iload_n 1, 1) := by decide +kernel
theorem dX10_isNumber_40 : decode cX10_isNumber 40 = .ok (.iload_n 2, 1) := by decide +kernel
theorem dX10_isNumber_41 : decode cX10_isNumber 41 = .ok (.invokestatic 108, 3) := by decide +kernel
theorem dX10_isNumber_44 : decode cX10_isNumber 44 = .ok (.ifCond .ne 11, 3) := by decide +kernel
theorem dX10_isNumber_47 : decode cX10_isNumber 47 = .ok (.aload_n 0, 1) := by decide +kernel
theorem dX10_isNumber_48 : decode cX10_isNumber 48 = .ok (.iconst 2, 1) := by decide +kernel
theorem dX10_isNumber_49 : decode cX10_isNumber 49 = .ok (.invokevirtual 135, 3) := by decide +kernel
theorem dX10_isNumber_52 : decode cX10_isNumber 52 = .ok (.ifCond .eq 7, 3) := by decide +kernel
theorem dX10_isNumber_55 : decode cX10_isNumber 55 = .ok (.iconst 1, 1) := by decide +kernel
theorem dX10_isNumber_56 : decode cX10_isNumber 56 = .ok (.goto 4, 3) := by decide +kernel
theorem dX10_isNumber_59 : decode cX10_isNumber 59 = .ok (.iconst 0, 1) := by decide +kernel
theorem dX10_isNumber_60 : decode cX10_isNumber 60 = .ok (.ireturn, 1) := by decide +kernel
theorem dX10_isEnd_0 : decode cX10_isEnd 0 = .ok (.aload_n 0, 1) := by decide +kernel
theorem dX10_isEnd_1 : decode cX10_isEnd 1 = .ok (.invokevirtual 132, 3) := by decide +kernel
theorem dX10_isEnd_4 : decode cX10_isEnd 4 = .ok (.aload_n 0, 1) := by decide +kernel
theorem dX10_isEnd_5 : decode cX10_isEnd 5 = .ok (.getfield 126, 3) := by decide +kernel
theorem dX10_isEnd_8 : decode cX10_isEnd 8 = .ok (.bipush 59, 2) := by decide +kernel
theorem dX10_isEnd_10 : decode cX10_isEnd 10 = .ok (.if_icmp .eq 11, 3) := by decide +kernel
theorem dX10_isEnd_13 : decode cX10_isEnd 13 = .ok (.aload_n 0, 1) := by decide +kernel
theorem dX10_isEnd_14 : decode cX10_isEnd 14 = .ok (.iconst 1, 1) := by decide +kernel
theorem dX10_isEnd_15 : decode cX10_isEnd 15 = .ok (.invokevirtual 135, 3) := by decide +kernel
theorem dX10_isEnd_18 : decode cX10_isEnd 18 = .ok (.ifCond .eq 7, 3) := by decide +kernel
theorem dX10_isEnd_21 : decode cX10_isEnd 21 = .ok (.iconst 1, 1) := by decide +kernel
theorem dX10_isEnd_22 : decode cX10_isEnd 22 = .ok (.goto 4, 3) := by decide +kernel
theorem dX10_isEnd_25 : decode cX10_isEnd 25 = .ok (.iconst 0, 1) := by decide +kernel
theorem dX10_isEnd_26 : decode cX10_isEnd 26 = .ok (.ireturn, 1) := by decide +kernel
theorem dX10_isLeafLine_0 : decode cX10_isLeafLine 0 = .ok (.aload_n 0, 1) := by decide +kernel
theorem dX10_isLeafLine_1 : decode cX10_isLeafLine 1 = .ok (.iconst 0, 1) := by decide +kernel
theorem dX10_isLeafLine_2 : decode cX10_isLeafLine 2 = .ok (.iconst 1, 1) := by decide +kernel
theorem dX10_isLeafLine_3 : decode cX10_isLeafLine 3 = .ok (.invokevirtual 139, 3) := by decide +kernel
theorem dX10_isLeafLine_6 : decode cX10_isLeafLine 6 = .ok (.ifCond .ne 5, 3) := by decide +kernel
theorem dX10_isLeafLine_9 : decode cX10_isLeafLine 9 = .ok (.iconst 0, 1) := by decide +kernel
theorem dX10_isLeafLine_10 : decode cX10_isLeafLine 10 = .ok (.ireturn, 1) := by decide +kernel
theorem dX10_isLeafLine_11 : decode cX10_isLeafLine 11 = .ok (.aload_n 0, 1) := by decide +kernel
theorem dX10_isLeafLine_12 : decode cX10_isLeafLine 12 = .ok (.getfield 123, 3) := by decide +kernel
theorem dX10_isLeafLine_15 : decode cX10_isLeafLine 15 = .ok (.istore_n 1, 1) := by decide +kernel
theorem dX10_isLeafLine_16 : decode cX10_isLeafLine 16 = .ok (.aload_n 0, 1) := by decide +kernel
theorem dX10_isLeafLine_17 : decode cX10_isLeafLine 17 = .ok (.getfield 143, 3) := by decide +kernel
theorem dX10_isLeafLine_20 : decode cX10_isLeafLine 20 = .ok (.iload_n 1, 1) := by decide +kernel
theorem dX10_isLeafLine_21 : decode cX10_isLeafLine 21 = .ok (.ishr, 1) := by decide +kernel
theorem dX10_isLeafLine_22 : decode cX10_isLeafLine 22 = .ok (.iconst 1, 1) := by decide +kernel
theorem dX10_isLeafLine_23 : decode cX10_isLeafLine 23 = .ok (.iand, 1) := by decide +kernel
theorem dX10_isLeafLine_24 : decode cX10_isLeafLine 24 = .ok (.iconst 1, 1) := by decide +kernel
theorem dX10_isLeafLine_25 : decode cX10_isLeafLine 25 = .ok (.if_icmp .ne 9, 3) := by decide +kernel
theorem dX10_isLeafLine_28 : decode cX10_isLeafLine 28 = .ok (.aload_n 0, 1) := by decide +kernel
theorem dX10_isLeafLine_29 : decode cX10_isLeafLine 29 = .ok (.iconst 4, 1) := by decide +kernel
theorem dX10_isLeafLine_30 : decode cX10_isLeafLine 30 = .ok (.invokevirtual 135, 3) := by decide +kernel
theorem dX10_isLeafLine_33 : decode cX10_isLeafLine 33 = .ok (.ireturn, 1) := by decide +kernel
theorem dX10_isLeafLine_34 : decode cX10_isLeafLine 34 = .ok (.aload_n 0, 1) := by decide +kernel
theorem dX10_isLeafLine_35 : decode cX10_isLeafLine 35 = .ok (.aload_n 0, 1) := by decide +kernel
theorem dX10_isLeafLine_36 : decode cX10_isLeafLine 36 = .ok (.getfield 143, 3) := by decide +kernel
theorem dX10_isLeafLine_39 : decode cX10_isLeafLine 39 = .ok (.iconst 1, 1) := by decide +kernel
theorem dX10_isLeafLine_40 : decode cX10_isLeafLine 40 = .ok (.iload_n 1, 1) := by decide +kernel
theorem dX10_isLeafLine_41 : decode cX10_isLeafLine 41 = .ok (.ishl, 1) := by decide +kernel
theorem dX10_isLeafLine_42 : decode cX10_isLeafLine 42 = .ok (.ior, 1) := by decide +kernel
theorem dX10_isLeafLine_43 : decode cX10_isLeafLine 43 = .ok (.putfield 143, 3) := by decide +kernel
theorem dX10_isLeafLine_46 : decode cX10_isLeafLine 46 = .ok (.aload_n 0, 1) := by decide +kernel
theorem dX10_isLeafLine_47 : decode cX10_isLeafLine 47 = .ok (.iconst 1, 1) := by decide +kernel
theorem dX10_isLeafLine_48 : decode cX10_isLeafLine 48 = .ok (.bipush 9, 2) := by decide +kernel
theorem dX10_isLeafLine_50 : decode cX10_isLeafLine 50 = .ok (.invokevirtual 139, 3) := by decide +kernel
theorem dX10_isLeafLine_53 : decode cX10_isLeafLine 53 = .ok (.ifCond .ne 5, 3) := by decide +kernel
theorem dX10_isLeafLine_56 : decode cX10_isLeafLine 56 = .ok (.iconst 0, 1) := by decide +kernel
theorem dX10_isLeafLine_57 : decode cX10_isLeafLine 57 = .ok (.ireturn, 1) := by decide +kernel
theorem dX10_isLeafLine_58 : decode cX10_isLeafLine 58 = .ok (.aload_n 0, 1) := by decide +kernel
theorem dX10_isLeafLine_59 : decode cX10_isLeafLine 59 = .ok (.getfield 20, 3) := by decide +kernel
theorem dX10_isLeafLine_62 : decode cX10_isLeafLine 62 = .ok (.iconst 2, 1) := by decide +kernel
theorem dX10_isLeafLine_63 : decode cX10_isLeafLine 63 = .ok (.iload_n 1, 1) := by decide +kernel
theorem dX10_isLeafLine_64 : decode cX10_isLeafLine 64 = .ok (.imul, 1) := by decide +kernel
theorem dX10_isLeafLine_65 : decode cX10_isLeafLine 65 = .ok (.aload_n 0, 1) := by decide +kernel
theorem dX10_isLeafLine_66 : decode cX10_isLeafLine 66 = .ok (.getfield 123, 3) := by decide +kernel
theorem dX10_isLeafLine_69 : decode cX10_isLeafLine 69 = .ok (.iastore, 1) := by decide +kernel
theorem dX10_isLeafLine_70 : decode cX10_isLeafLine 70 = .ok (.aload_n 0, 1) := by decide +kernel
theorem dX10_isLeafLine_71 : decode cX10_isLeafLine 71 = .ok (.iconst 0, 1) := by decide +kernel
theorem dX10_isLeafLine_72 : decode cX10_isLeafLine 72 = .ok (.bipush 9, 2) := by decide +kernel
theorem dX10_isLeafLine_74 : decode cX10_isLeafLine 74 = .ok (.invokevirtual 139, 3) := by decide +kernel
theorem dX10_isLeafLine_77 : decode cX10_isLeafLine 77 = .ok (.ifCond .ne 5, 3) := by decide +kernel
theorem dX10_isLeafLine_80 : decode cX10_isLeafLine 80 = .ok (.iconst 0, 1) := by decide +kernel
theorem dX10_isLeafLine_81 : decode cX10_isLeafLine 81 = .ok (.ireturn, 1) := by decide +kernel
theorem dX10_isLeafLine_82 : decode cX10_isLeafLine 82 = .ok (.aload_n 0, 1) := by decide +kernel
theorem dX10_isLeafLine_83 : decode cX10_isLeafLine 83 = .ok (.getfield 20, 3) := by decide +kernel
theorem dX10_isLeafLine_86 : decode cX10_isLeafLine 86 = .ok (.iconst 2, 1) := by decide +kernel
theorem dX10_isLeafLine_87 : decode cX10_isLeafLine 87 = .ok (.iload_n 1, 1) := by decide +kernel
theorem dX10_isLeafLine_88 : decode cX10_isLeafLine 88 = .ok (.imul, 1) := by decide +kernel
theorem dX10_isLeafLine_89 : decode cX10_isLeafLine 89 = .ok (.iconst 1, 1) := by decide +kernel
theorem dX10_isLeafLine_90 : decode cX10_isLeafLine 90 = .ok (.iadd, 1) := by decide +kernel
theorem dX10_isLeafLine_91 : decode cX10_isLeafLine 91 = .ok (.aload_n 0, 1) := by decide +kernel
theorem dX10_isLeafLine_92 : decode cX10_isLeafLine 92 = .ok (.getfield 123, 3) := by decide +kernel
theorem dX10_isLeafLine_95 : decode cX10_isLeafLine 95 = .ok (.iastore, 1) := by decide +kernel
theorem dX10_isLeafLine_96 : decode cX10_isLeafLine 96 = .ok (.iconst 1, 1) := by decide +kernel
theorem dX10_isLeafLine_97 : decode cX10_isLeafLine 97 = .ok (.ireturn, 1) := by decide +kernel
theorem dX10_isWaiterLine_0 : decode cX10_isWaiterLine 0 = .ok (.aload_n 0, 1) := by decide +kernel
theorem dX10_isWaiterLine_1 : decode cX10_isWaiterLine 1 = .ok (.getfield 146, 3) := by decide +kernel
theorem dX10_isWaiterLine_4 : decode cX10_isWaiterLine 4 = .ok (.bipush 6, 2) := by decide +kernel
theorem dX10_isWaiterLine_6 : decode cX10_isWaiterLine 6 = .ok (.if_icmp .ne 9, 3) := by decide +kernel
theorem dX10_isWaiterLine_9 : decode cX10_isWaiterLine 9 = .ok (.aload_n 0, 1) := by decide +kernel
theorem dX10_isWaiterLine_10 : decode cX10_isWaiterLine 10 = .ok (.iconst 3, 1) := by decide +kernel
theorem dX10_isWaiterLine_11 : decode cX10_isWaiterLine 11 = .ok (.invokevirtual 135, 3) := by decide +kernel
theorem dX10_isWaiterLine_14 : decode cX10_isWaiterLine 14 = .ok (.ireturn, 1) := by decide +kernel
theorem dX10_isWaiterLine_15 : decode cX10_isWaiterLine 15 = .ok (.bipush 7, 2) := by decide +kernel
theorem dX10_isWaiterLine_17 : decode cX10_isWaiterLine 17 = .ok (.aload_n 0, 1) := by decide +kernel
theorem dX10_isWaiterLine_18 : decode cX10_isWaiterLine 18 = .ok (.getfield 146, 3) := by decide +kernel
theorem dX10_isWaiterLine_21 : decode cX10_isWaiterLine 21 = .ok (.imul, 1) := by decide +kernel
theorem dX10_isWaiterLine_22 : decode cX10_isWaiterLine 22 = .ok (.istore_n 1, 1) := by decide +kernel
theorem dX10_isWaiterLine_23 : decode cX10_isWaiterLine 23 = .ok (.aload_n 0, 1) := by decide +kernel
theorem dX10_isWaiterLine_24 : decode cX10_isWaiterLine 24 = .ok (.dup, 1) := by decide +kernel
theorem dX10_isWaiterLine_25 : decode cX10_isWaiterLine 25 = .ok (.getfield 146, 3) := by decide +kernel
theorem dX10_isWaiterLine_28 : decode cX10_isWaiterLine 28 = .ok (.iconst 1, 1) := by decide +kernel
theorem dX10_isWaiterLine_29 : decode cX10_isWaiterLine 29 = .ok (.iadd, 1) := by decide +kernel
theorem dX10_isWaiterLine_30 : decode cX10_isWaiterLine 30 = .ok (.putfield 146, 3) := by decide +kernel
theorem dX10_isWaiterLine_33 : decode cX10_isWaiterLine 33 = .ok (.iconst 0, 1) := by decide +kernel
theorem dX10_isWaiterLine_34 : decode cX10_isWaiterLine 34 = .ok (.istore_n 2, 1) := by decide +kernel
theorem dX10_isWaiterLine_35 : decode cX10_isWaiterLine 35 = .ok (.iload_n 2, 1) := by decide +kernel
theorem dX10_isWaiterLine_36 : decode cX10_isWaiterLine 36 = .ok (.bipush 7, 2) := by decide +kernel
theorem dX10_isWaiterLine_38 : decode cX10_isWaiterLine 38 = .ok (.if_icmp .ge 107, 3) := by decide +kernel
theorem dX10_isWaiterLine_41 : decode cX10_isWaiterLine 41 = .ok (.iload_n 2, 1) := by decide +kernel
theorem dX10_isWaiterLine_42 : decode cX10_isWaiterLine 42 = .ok (.iconst 2, 1) := by decide +kernel
theorem dX10_isWaiterLine_43 : decode cX10_isWaiterLine 43 = .ok (.if_icmp .eq 8, 3) := by decide +kernel
theorem dX10_isWaiterLine_46 : decode cX10_isWaiterLine 46 = .ok (.iload_n 2, 1) := by decide +kernel
theorem dX10_isWaiterLine_47 : decode cX10_isWaiterLine 47 = .ok (.iconst 4, 1) := by decide +kernel
theorem dX10_isWaiterLine_48 : decode cX10_isWaiterLine 48 = .ok (.if_icmp .ne 7, 3) := by decide +kernel
theorem dX10_isWaiterLine_51 : decode cX10_isWaiterLine 51 = .ok (.iconst 1, 1) := by decide +kernel
theorem dX10_isWaiterLine_52 : decode cX10_isWaiterLine 52 = .ok (.goto 4, 3) := by decide +kernel
theorem dX10_isWaiterLine_55 : decode cX10_isWaiterLine 55 = .ok (.iconst 0, 1) := by decide +kernel
theorem dX10_isWaiterLine_56 : decode cX10_isWaiterLine 56 = .ok (.istore_n 3, 1) := by decide +kernel
theorem dX10_isWaiterLine_57 : decode cX10_isWaiterLine 57 = .ok (.iload_n 2, 1) := by decide +kernel
theorem dX10_isWaiterLine_58 : decode cX10_isWaiterLine 58 = .ok (.ifCond .eq 9, 3) := by decide +kernel
theorem dX10_isWaiterLine_61 : decode cX10_isWaiterLine 61 = .ok (.iload_n 2, 1) := by decide +kernel
theorem dX10_isWaiterLine_62 : decode cX10_isWaiterLine 62 = .ok (.bipush 6, 2) := by decide +kernel
theorem dX10_isWaiterLine_64 : decode cX10_isWaiterLine 64 = .ok (.if_icmp .ne 7, 3) := by decide +kernel
theorem dX10_isWaiterLine_67 : decode cX10_isWaiterLine 67 = .ok (.iconst 1, 1) := by decide +kernel
theorem dX10_isWaiterLine_68 : decode cX10_isWaiterLine 68 = .ok (.goto 45, 3) := by decide +kernel
theorem dX10_isWaiterLine_71 : decode cX10_isWaiterLine 71 = .ok (.iload_n 2, 1) := by decide +kernel
theorem dX10_isWaiterLine_72 : decode cX10_isWaiterLine 72 = .ok (.iconst 1, 1) := by decide +kernel
theorem dX10_isWaiterLine_73 : decode cX10_isWaiterLine 73 = .ok (.if_icmp .ne 9, 3) := by decide +kernel
theorem dX10_isWaiterLine_76 : decode cX10_isWaiterLine 76 = .ok (.sipush 999, 3) := by decide +kernel
theorem dX10_isWaiterLine_79 : decode cX10_isWaiterLine 79 = .ok (.goto 34, 3) := by decide +kernel
theorem dX10_isWaiterLine_82 : decode cX10_isWaiterLine 82 = .ok (.iload_n 2, 1) := by decide +kernel
theorem dX10_isWaiterLine_83 : decode cX10_isWaiterLine 83 = .ok (.iconst 2, 1) := by decide +kernel
theorem dX10_isWaiterLine_84 : decode cX10_isWaiterLine 84 = .ok (.if_icmp .ne 8, 3) := by decide +kernel
theorem dX10_isWaiterLine_87 : decode cX10_isWaiterLine 87 = .ok (.bipush 30, 2) := by decide +kernel
theorem dX10_isWaiterLine_89 : decode cX10_isWaiterLine 89 = .ok (.goto 24, 3) := by decide +kernel
theorem dX10_isWaiterLine_92 : decode cX10_isWaiterLine 92 = .ok (.iload_n 2, 1) := by decide +kernel
theorem dX10_isWaiterLine_93 : decode cX10_isWaiterLine 93 = .ok (.iconst 3, 1) := by decide +kernel
theorem dX10_isWaiterLine_94 : decode cX10_isWaiterLine 94 = .ok (.if_icmp .ne 8, 3) := by decide +kernel
theorem dX10_isWaiterLine_97 : decode cX10_isWaiterLine 97 = .ok (.bipush 99, 2) := by decide +kernel
theorem dX10_isWaiterLine_99 : decode cX10_isWaiterLine 99 = .ok (.goto 14, 3) := by decide +kernel
theorem dX10_isWaiterLine_102 : decode cX10_isWaiterLine 102 = .ok (.iload_n 2, 1) := by decide +kernel
theorem dX10_isWaiterLine_103 : decode cX10_isWaiterLine 103 = .ok (.iconst 4, 1) := by decide +kernel
theorem dX10_isWaiterLine_104 : decode cX10_isWaiterLine 104 = .ok (.if_icmp .ne 8, 3) := by decide +kernel
theorem dX10_isWaiterLine_107 : decode cX10_isWaiterLine 107 = .ok (.bipush 9, 2) := by decide +kernel
theorem dX10_isWaiterLine_109 : decode cX10_isWaiterLine 109 = .ok (.goto 4, 3) := by decide +kernel
theorem dX10_isWaiterLine_112 : decode cX10_isWaiterLine 112 = .ok (.iconst 2, 1) := by decide +kernel
theorem dX10_isWaiterLine_113 : decode cX10_isWaiterLine 113 = .ok (.istore 4, 2) := by decide +kernel
theorem dX10_isWaiterLine_115 : decode cX10_isWaiterLine 115 = .ok (.aload_n 0, 1) := by decide +kernel
theorem dX10_isWaiterLine_116 : decode cX10_isWaiterLine 116 = .ok (.iload_n 3, 1) := by decide +kernel
theorem dX10_isWaiterLine_117 : decode cX10_isWaiterLine 117 = .ok (.iload 4, 2) := by decide +kernel
theorem dX10_isWaiterLine_119 : decode cX10_isWaiterLine 119 = .ok (.invokevirtual 139, 3) := by decide +kernel
theorem dX10_isWaiterLine_122 : decode cX10_isWaiterLine 122 = .ok (.ifCond .ne 5, 3) := by decide +kernel
theorem dX10_isWaiterLine_125 : decode cX10_isWaiterLine 125 = .ok (.iconst 0, 1) := by decide +kernel
theorem dX10_isWaiterLine_126 : decode cX10_isWaiterLine 126 = .ok (.ireturn, 1) := by decide +kernel
theorem dX10_isWaiterLine_127 : decode cX10_isWaiterLine 127 = .ok (.aload_n 0, 1) := by decide +kernel
theorem dX10_isWaiterLine_128 : decode cX10_isWaiterLine 128 = .ok (.getfield 17, 3) := by decide +kernel
theorem dX10_isWaiterLine_131 : decode cX10_isWaiterLine 131 = .ok (.iload_n 1, 1) := by decide +kernel
theorem dX10_isWaiterLine_132 : decode cX10_isWaiterLine 132 = .ok (.iload_n 2, 1) := by decide +kernel
theorem dX10_isWaiterLine_133 : decode cX10_isWaiterLine 133 = .ok (.iadd, 1) := by decide +kernel
theorem dX10_isWaiterLine_134 : decode cX10_isWaiterLine 134 = .ok (.aload_n 0, 1) := by decide +kernel
theorem dX10_isWaiterLine_135 : decode cX10_isWaiterLine 135 = .ok (.getfield 123, 3) := by decide +kernel
theorem dX10_isWaiterLine_138 : decode cX10_isWaiterLine 138 = .ok (.iastore, 1) := by decide +kernel
theorem dX10_isWaiterLine_139 : decode cX10_isWaiterLine 139 = .ok (.iinc 2 1, 3) := by decide +kernel
theorem dX10_isWaiterLine_142 : decode cX10_isWaiterLine 142 = .ok (.goto (-107), 3) := by decide +kernel
theorem dX10_isWaiterLine_145 : decode cX10_isWaiterLine 145 = .ok (.iconst 1, 1) := by decide +kernel
theorem dX10_isWaiterLine_146 : decode cX10_isWaiterLine 146 = .ok (.ireturn, 1) := by decide +kernel
theorem dX10_isGlassLine_0 : decode cX10_isGlassLine 0 = .ok (.aload_n 0, 1) := by decide +kernel
theorem dX10_isGlassLine_1 : decode cX10_isGlassLine 1 = .ok (.getfield 149, 3) := by decide +kernel
theorem dX10_isGlassLine_4 : decode cX10_isGlassLine 4 = .ok (.ifCond .eq 9, 3) := by decide +kernel
theorem dX10_isGlassLine_7 : decode cX10_isGlassLine 7 = .ok (.aload_n 0, 1) := by decide +kernel
theorem dX10_isGlassLine_8 : decode cX10_isGlassLine 8 = .ok (.iconst 3, 1) := by decide +kernel
theorem dX10_isGlassLine_9 : decode cX10_isGlassLine 9 = .ok (.invokevirtual 135, 3) := by decide +kernel
theorem dX10_isGlassLine_12 : decode cX10_isGlassLine 12 = .ok (.ireturn, 1) := by decide +kernel
theorem dX10_isGlassLine_13 : decode cX10_isGlassLine 13 = .ok (.aload_n 0, 1) := by decide +kernel
theorem dX10_isGlassLine_14 : decode cX10_isGlassLine 14 = .ok (.iconst 1, 1) := by decide +kernel
theorem dX10_isGlassLine_15 : decode cX10_isGlassLine 15 = .ok (.putfield 149, 3) := by decide +kernel
theorem dX10_isGlassLine_18 : decode cX10_isGlassLine 18 = .ok (.aload_n 0, 1) := by decide +kernel
theorem dX10_isGlassLine_19 : decode cX10_isGlassLine 19 = .ok (.iconst 0, 1) := by decide +kernel
theorem dX10_isGlassLine_20 : decode cX10_isGlassLine 20 = .ok (.iconst 1, 1) := by decide +kernel
theorem dX10_isGlassLine_21 : decode cX10_isGlassLine 21 = .ok (.invokevirtual 139, 3) := by decide +kernel
theorem dX10_isGlassLine_24 : decode cX10_isGlassLine 24 = .ok (.ifCond .ne 5, 3) := by decide +kernel
theorem dX10_isGlassLine_27 : decode cX10_isGlassLine 27 = .ok (.iconst 0, 1) := by decide +kernel
theorem dX10_isGlassLine_28 : decode cX10_isGlassLine 28 = .ok (.ireturn, 1) := by decide +kernel
theorem dX10_isGlassLine_29 : decode cX10_isGlassLine 29 = .ok (.aload_n 0, 1) := by decide +kernel
theorem dX10_isGlassLine_30 : decode cX10_isGlassLine 30 = .ok (.aload_n 0, 1) := by decide +kernel
theorem dX10_isGlassLine_31 : decode cX10_isGlassLine 31 = .ok (.getfield 123, 3) := by decide +kernel
theorem dX10_isGlassLine_34 : decode cX10_isGlassLine 34 = .ok (.putfield 153, 3) := by decide +kernel
theorem dX10_isGlassLine_37 : decode cX10_isGlassLine 37 = .ok (.iconst 1, 1) := by decide +kernel
theorem dX10_isGlassLine_38 : decode cX10_isGlassLine 38 = .ok (.ireturn, 1) := by decide +kernel
theorem dX10_isNoiseLine_0 : decode cX10_isNoiseLine 0 = .ok (.aload_n 0, 1) := by decide +kernel
theorem dX10_isNoiseLine_1 : decode cX10_isNoiseLine 1 = .ok (.getfield 156, 3) := by decide +kernel
theorem dX10_isNoiseLine_4 : decode cX10_isNoiseLine 4 = .ok (.ifCond .eq 9, 3) := by decide +kernel
theorem dX10_isNoiseLine_7 : decode cX10_isNoiseLine 7 = .ok (.aload_n 0, 1) := by decide +kernel
theorem dX10_isNoiseLine_8 : decode cX10_isNoiseLine 8 = .ok (.iconst 3, 1) := by decide +kernel
theorem dX10_isNoiseLine_9 : decode cX10_isNoiseLine 9 = .ok (.invokevirtual 135, 3) := by decide +kernel
theorem dX10_isNoiseLine_12 : decode cX10_isNoiseLine 12 = .ok (.ireturn, 1) := by decide +kernel
theorem dX10_isNoiseLine_13 : decode cX10_isNoiseLine 13 = .ok (.aload_n 0, 1) := by decide +kernel
theorem dX10_isNoiseLine_14 : decode cX10_isNoiseLine 14 = .ok (.iconst 1, 1) := by decide +kernel
theorem dX10_isNoiseLine_15 : decode cX10_isNoiseLine 15 = .ok (.putfield 156, 3) := by decide +kernel
theorem dX10_isNoiseLine_18 : decode cX10_isNoiseLine 18 = .ok (.aload_n 0, 1) := by decide +kernel
theorem dX10_isNoiseLine_19 : decode cX10_isNoiseLine 19 = .ok (.iconst 0, 1) := by decide +kernel
theorem dX10_isNoiseLine_20 : decode cX10_isNoiseLine 20 = .ok (.bipush 9, 2) := by decide +kernel
theorem dX10_isNoiseLine_22 : decode cX10_isNoiseLine 22 = .ok (.invokevirtual 139, 3) := by decide +kernel
theorem dX10_isNoiseLine_25 : decode cX10_isNoiseLine 25 = .ok (.ifCond .ne 5, 3) := by decide +kernel
theorem dX10_isNoiseLine_28 : decode cX10_isNoiseLine 28 = .ok (.iconst 0, 1) := by decide +kernel
theorem dX10_isNoiseLine_29 : decode cX10_isNoiseLine 29 = .ok (.ireturn, 1) := by decide +kernel
theorem dX10_isNoiseLine_30 : decode cX10_isNoiseLine 30 = .ok (.aload_n 0, 1) := by decide +kernel
theorem dX10_isNoiseLine_31 : decode cX10_isNoiseLine 31 = .ok (.aload_n 0, 1) := by decide +kernel
theorem dX10_isNoiseLine_32 : decode cX10_isNoiseLine 32 = .ok (.getfield 123, 3) := by decide +kernel
theorem dX10_isNoiseLine_35 : decode cX10_isNoiseLine 35 = .ok (.putfield 159, 3) := by decide +kernel
theorem dX10_isNoiseLine_38 : decode cX10_isNoiseLine 38 = .ok (.iconst 1, 1) := by decide +kernel
theorem dX10_isNoiseLine_39 : decode cX10_isNoiseLine 39 = .ok (.ireturn, 1) := by decide +kernel
theorem dX10_isRead_0 : decode cX10_isRead 0 = .ok (.aload_n 0, 1) := by decide +kernel
theorem dX10_isRead_1 : decode cX10_isRead 1 = .ok (.iconst 0, 1) := by decide +kernel
theorem dX10_isRead_2 : decode cX10_isRead 2 = .ok (.putfield 117, 3) := by decide +kernel
theorem dX10_isRead_5 : decode cX10_isRead 5 = .ok (.aload_n 0, 1) := by decide +kernel
theorem dX10_isRead_6 : decode cX10_isRead 6 = .ok (.iconst 0, 1) := by decide +kernel
theorem dX10_isRead_7 : decode cX10_isRead 7 = .ok (.putfield 146, 3) := by decide +kernel
theorem dX10_isRead_10 : decode cX10_isRead 10 = .ok (.aload_n 0, 1) := by decide +kernel
theorem dX10_isRead_11 : decode cX10_isRead 11 = .ok (.iconst 0, 1) := by decide +kernel
theorem dX10_isRead_12 : decode cX10_isRead 12 = .ok (.putfield 143, 3) := by decide +kernel
theorem dX10_isRead_15 : decode cX10_isRead 15 = .ok (.aload_n 0, 1) := by decide +kernel
theorem dX10_isRead_16 : decode cX10_isRead 16 = .ok (.iconst 0, 1) := by decide +kernel
theorem dX10_isRead_17 : decode cX10_isRead 17 = .ok (.putfield 153, 3) := by decide +kernel
theorem dX10_isRead_20 : decode cX10_isRead 20 = .ok (.aload_n 0, 1) := by decide +kernel
theorem dX10_isRead_21 : decode cX10_isRead 21 = .ok (.bipush 9, 2) := by decide +kernel
theorem dX10_isRead_23 : decode cX10_isRead 23 = .ok (.putfield 159, 3) := by decide +kernel
theorem dX10_isRead_26 : decode cX10_isRead 26 = .ok (.aload_n 0, 1) := by decide +kernel
theorem dX10_isRead_27 : decode cX10_isRead 27 = .ok (.iconst 0, 1) := by decide +kernel
theorem dX10_isRead_28 : decode cX10_isRead 28 = .ok (.putfield 149, 3) := by decide +kernel
theorem dX10_isRead_31 : decode cX10_isRead 31 = .ok (.aload_n 0, 1) := by decide +kernel
theorem dX10_isRead_32 : decode cX10_isRead 32 = .ok (.iconst 0, 1) := by decide +kernel
theorem dX10_isRead_33 : decode cX10_isRead 33 = .ok (.putfield 156, 3) := by decide +kernel
theorem dX10_isRead_36 : decode cX10_isRead 36 = .ok (.iconst 0, 1) := by decide +kernel
theorem dX10_isRead_37 : decode cX10_isRead 37 = .ok (.istore_n 1, 1) := by decide +kernel
theorem dX10_isRead_38 : decode cX10_isRead 38 = .ok (.iload_n 1, 1) := by decide +kernel
theorem dX10_isRead_39 : decode cX10_isRead 39 = .ok (.iconst 2, 1) := by decide +kernel
theorem dX10_isRead_40 : decode cX10_isRead 40 = .ok (.if_icmp .ge 29, 3) := by decide +kernel
theorem dX10_isRead_43 : decode cX10_isRead 43 = .ok (.aload_n 0, 1) := by decide +kernel
theorem dX10_isRead_44 : decode cX10_isRead 44 = .ok (.getfield 20, 3) := by decide +kernel
theorem dX10_isRead_47 : decode cX10_isRead 47 = .ok (.iconst 2, 1) := by decide +kernel
theorem dX10_isRead_48 : decode cX10_isRead 48 = .ok (.iload_n 1, 1) := by decide +kernel
theorem dX10_isRead_49 : decode cX10_isRead 49 = .ok (.imul, 1) := by decide +kernel
theorem dX10_isRead_50 : decode cX10_isRead 50 = .ok (.iconst 2, 1) := by decide +kernel
theorem dX10_isRead_51 : decode cX10_isRead 51 = .ok (.iastore, 1) := by decide +kernel
theorem dX10_isRead_52 : decode cX10_isRead 52 = .ok (.aload_n 0, 1) := by decide +kernel
theorem dX10_isRead_53 : decode cX10_isRead 53 = .ok (.getfield 20, 3) := by decide +kernel
theorem dX10_isRead_56 : decode cX10_isRead 56 = .ok (.iconst 2, 1) := by decide +kernel
theorem dX10_isRead_57 : decode cX10_isRead 57 = .ok (.iload_n 1, 1) := by decide +kernel
theorem dX10_isRead_58 : decode cX10_isRead 58 = .ok (.imul, 1) := by decide +kernel
theorem dX10_isRead_59 : decode cX10_isRead 59 = .ok (.iconst 1, 1) := by decide +kernel
theorem dX10_isRead_60 : decode cX10_isRead 60 = .ok (.iadd, 1) := by decide +kernel
theorem dX10_isRead_61 : decode cX10_isRead 61 = .ok (.iconst 3, 1) := by decide +kernel
theorem dX10_isRead_62 : decode cX10_isRead 62 = .ok (.iastore, 1) := by decide +kernel
theorem dX10_isRead_63 : decode cX10_isRead 63 = .ok (.iinc 1 1, 3) := by decide +kernel
theorem dX10_isRead_66 : decode cX10_isRead 66 = .ok (.goto (-28), 3) := by decide +kernel
theorem dX10_isRead_69 : decode cX10_isRead 69 = .ok (.iconst 1, 1) := by decide +kernel
theorem dX10_isRead_70 : decode cX10_isRead 70 = .ok (.istore_n 1, 1) := by decide +kernel
theorem dX10_isRead_71 : decode cX10_isRead 71 = .ok (.iload_n 1, 1) := by decide +kernel
theorem dX10_isRead_72 : decode cX10_isRead 72 = .ok (.ifCond .eq 166, 3) := by decide +kernel
theorem dX10_isRead_75 : decode cX10_isRead 75 = .ok (.aload_n 0, 1) := by decide +kernel
theorem dX10_isRead_76 : decode cX10_isRead 76 = .ok (.invokevirtual 132, 3) := by decide +kernel
theorem dX10_isRead_79 : decode cX10_isRead 79 = .ok (.aload_n 0, 1) := by decide +kernel
theorem dX10_isRead_80 : decode cX10_isRead 80 = .ok (.getfield 126, 3) := by decide +kernel
theorem dX10_isRead_83 : decode cX10_isRead 83 = .ok (.lookupswitch 146 #[(-2, 49), (103, 100), (108, 54), (110, 123), (119, 77)], 49) := by decide +kernel
theorem dX10_isRead_132 : decode cX10_isRead 132 = .ok (.iconst 0, 1) := by decide +kernel
theorem dX10_isRead_133 : decode cX10_isRead 133 = .ok (.istore_n 1, 1) := by decide +kernel
theorem dX10_isRead_134 : decode cX10_isRead 134 = .ok (.goto (-63), 3) := by decide +kernel
theorem dX10_isRead_137 : decode cX10_isRead 137 = .ok (.aload_n 0, 1) := by decide +kernel
theorem dX10_isRead_138 : decode cX10_isRead 138 = .ok (.invokevirtual 162, 3) := by decide +kernel
theorem dX10_isRead_141 : decode cX10_isRead 141 = .ok (.ifCond .eq 14, 3) := by decide +kernel
theorem dX10_isRead_144 : decode cX10_isRead 144 = .ok (.aload_n 0, 1) := by decide +kernel
theorem dX10_isRead_145 : decode cX10_isRead 145 = .ok (.invokevirtual 166, 3) := by decide +kernel
theorem dX10_isRead_148 : decode cX10_isRead 148 = .ok (.ifCond .eq 7, 3) := by decide +kernel
theorem dX10_isRead_151 : decode cX10_isRead 151 = .ok (.iconst 1, 1) := by decide +kernel
theorem dX10_isRead_152 : decode cX10_isRead 152 = .ok (.goto 4, 3) := by decide +kernel
theorem dX10_isRead_155 : decode cX10_isRead 155 = .ok (.iconst 0, 1) := by decide +kernel
theorem dX10_isRead_156 : decode cX10_isRead 156 = .ok (.istore_n 1, 1) := by decide +kernel
theorem dX10_isRead_157 : decode cX10_isRead 157 = .ok (.goto (-86), 3) := by decide +kernel
theorem dX10_isRead_160 : decode cX10_isRead 160 = .ok (.aload_n 0, 1) := by decide +kernel
theorem dX10_isRead_161 : decode cX10_isRead 161 = .ok (.invokevirtual 169, 3) := by decide +kernel
theorem dX10_isRead_164 : decode cX10_isRead 164 = .ok (.ifCond .eq 14, 3) := by decide +kernel
theorem dX10_isRead_167 : decode cX10_isRead 167 = .ok (.aload_n 0, 1) := by decide +kernel
theorem dX10_isRead_168 : decode cX10_isRead 168 = .ok (.invokevirtual 166, 3) := by decide +kernel
theorem dX10_isRead_171 : decode cX10_isRead 171 = .ok (.ifCond .eq 7, 3) := by decide +kernel
theorem dX10_isRead_174 : decode cX10_isRead 174 = .ok (.iconst 1, 1) := by decide +kernel
theorem dX10_isRead_175 : decode cX10_isRead 175 = .ok (.goto 4, 3) := by decide +kernel
theorem dX10_isRead_178 : decode cX10_isRead 178 = .ok (.iconst 0, 1) := by decide +kernel
theorem dX10_isRead_179 : decode cX10_isRead 179 = .ok (.istore_n 1, 1) := by decide +kernel
theorem dX10_isRead_180 : decode cX10_isRead 180 = .ok (.goto (-109), 3) := by decide +kernel
theorem dX10_isRead_183 : decode cX10_isRead 183 = .ok (.aload_n 0, 1) := by decide +kernel
theorem dX10_isRead_184 : decode cX10_isRead 184 = .ok (.invokevirtual 172, 3) := by decide +kernel
theorem dX10_isRead_187 : decode cX10_isRead 187 = .ok (.ifCond .eq 14, 3) := by decide +kernel
theorem dX10_isRead_190 : decode cX10_isRead 190 = .ok (.aload_n 0, 1) := by decide +kernel
theorem dX10_isRead_191 : decode cX10_isRead 191 = .ok (.invokevirtual 166, 3) := by decide +kernel
theorem dX10_isRead_194 : decode cX10_isRead 194 = .ok (.ifCond .eq 7, 3) := by decide +kernel
theorem dX10_isRead_197 : decode cX10_isRead 197 = .ok (.iconst 1, 1) := by decide +kernel
theorem dX10_isRead_198 : decode cX10_isRead 198 = .ok (.goto 4, 3) := by decide +kernel
theorem dX10_isRead_201 : decode cX10_isRead 201 = .ok (.iconst 0, 1) := by decide +kernel
theorem dX10_isRead_202 : decode cX10_isRead 202 = .ok (.istore_n 1, 1) := by decide +kernel
theorem dX10_isRead_203 : decode cX10_isRead 203 = .ok (.goto (-132), 3) := by decide +kernel
theorem dX10_isRead_206 : decode cX10_isRead 206 = .ok (.aload_n 0, 1) := by decide +kernel
theorem dX10_isRead_207 : decode cX10_isRead 207 = .ok (.invokevirtual 175, 3) := by decide +kernel
theorem dX10_isRead_210 : decode cX10_isRead 210 = .ok (.ifCond .eq 14, 3) := by decide +kernel
theorem dX10_isRead_213 : decode cX10_isRead 213 = .ok (.aload_n 0, 1) := by decide +kernel
theorem dX10_isRead_214 : decode cX10_isRead 214 = .ok (.invokevirtual 166, 3) := by decide +kernel
theorem dX10_isRead_217 : decode cX10_isRead 217 = .ok (.ifCond .eq 7, 3) := by decide +kernel
theorem dX10_isRead_220 : decode cX10_isRead 220 = .ok (.iconst 1, 1) := by decide +kernel
theorem dX10_isRead_221 : decode cX10_isRead 221 = .ok (.goto 4, 3) := by decide +kernel
theorem dX10_isRead_224 : decode cX10_isRead 224 = .ok (.iconst 0, 1) := by decide +kernel
theorem dX10_isRead_225 : decode cX10_isRead 225 = .ok (.istore_n 1, 1) := by decide +kernel
theorem dX10_isRead_226 : decode cX10_isRead 226 = .ok (.goto (-155), 3) := by decide +kernel
theorem dX10_isRead_229 : decode cX10_isRead 229 = .ok (.aload_n 0, 1) := by decide +kernel
theorem dX10_isRead_230 : decode cX10_isRead 230 = .ok (.iconst 1, 1) := by decide +kernel
theorem dX10_isRead_231 : decode cX10_isRead 231 = .ok (.invokevirtual 135, 3) := by decide +kernel
theorem dX10_isRead_234 : decode cX10_isRead 234 = .ok (.istore_n 1, 1) := by decide +kernel
theorem dX10_isRead_235 : decode cX10_isRead 235 = .ok (.goto (-164), 3) := by decide +kernel
theorem dX10_isRead_238 : decode cX10_isRead 238 = .ok (.aload_n 0, 1) := by decide +kernel
theorem dX10_isRead_239 : decode cX10_isRead 239 = .ok (.getfield 13, 3) := by decide +kernel
theorem dX10_isRead_242 : decode cX10_isRead 242 = .ok (.iconst (-1), 1) := by decide +kernel
theorem dX10_isRead_243 : decode cX10_isRead 243 = .ok (.if_icmp .ne 7, 3) := by decide +kernel
theorem dX10_isRead_246 : decode cX10_isRead 246 = .ok (.iconst 1, 1) := by decide +kernel
theorem dX10_isRead_247 : decode cX10_isRead 247 = .ok (.goto 4, 3) := by decide +kernel
theorem dX10_isRead_250 : decode cX10_isRead 250 = .ok (.iconst 0, 1) := by decide +kernel
theorem dX10_isRead_251 : decode cX10_isRead 251 = .ok (.ireturn, 1) := by decide +kernel
theorem dX10_house_0 : decode cX10_house 0 = .ok (.aload_n 0, 1) := by decide +kernel
theorem dX10_house_1 : decode cX10_house 1 = .ok (.iconst (-1), 1) := by decide +kernel
theorem dX10_house_2 : decode cX10_house 2 = .ok (.putfield 13, 3) := by decide +kernel
theorem dX10_house_5 : decode cX10_house 5 = .ok (.aload_n 0, 1) := by decide +kernel
theorem dX10_house_6 : decode cX10_house 6 = .ok (.invokevirtual 178, 3) := by decide +kernel
theorem dX10_house_9 : decode cX10_house 9 = .ok (.istore_n 1, 1) := by decide +kernel
theorem dX10_house_10 : decode cX10_house 10 = .ok (.aload_n 0, 1) := by decide +kernel
theorem dX10_house_11 : decode cX10_house 11 = .ok (.iconst 0, 1) := by decide +kernel
theorem dX10_house_12 : decode cX10_house 12 = .ok (.putfield 113, 3) := by decide +kernel
theorem dX10_house_15 : decode cX10_house 15 = .ok (.iload_n 1, 1) := by decide +kernel
theorem dX10_house_16 : decode cX10_house 16 = .ok (.ifCond .ne 11, 3) := by decide +kernel
theorem dX10_house_19 : decode cX10_house 19 = .ok (.bipush (-10), 2) := by decide +kernel
theorem dX10_house_21 : decode cX10_house 21 = .ok (.aload_n 0, 1) := by decide +kernel
theorem dX10_house_22 : decode cX10_house 22 = .ok (.getfield 129, 3) := by decide +kernel
theorem dX10_house_25 : decode cX10_house 25 = .ok (.isub, 1) := by decide +kernel
theorem dX10_house_26 : decode cX10_house 26 = .ok (.ireturn, 1) := by decide +kernel
theorem dX10_house_27 : decode cX10_house 27 = .ok (.iconst 0, 1) := by decide +kernel
theorem dX10_house_28 : decode cX10_house 28 = .ok (.istore_n 2, 1) := by decide +kernel
theorem dX10_house_29 : decode cX10_house 29 = .ok (.iload_n 2, 1) := by decide +kernel
theorem dX10_house_30 : decode cX10_house 30 = .ok (.iconst 4, 1) := by decide +kernel
theorem dX10_house_31 : decode cX10_house 31 = .ok (.if_icmp .ge 21, 3) := by decide +kernel
theorem dX10_house_34 : decode cX10_house 34 = .ok (.aload_n 0, 1) := by decide +kernel
theorem dX10_house_35 : decode cX10_house 35 = .ok (.getfield 23, 3) := by decide +kernel
theorem dX10_house_38 : decode cX10_house 38 = .ok (.iload_n 2, 1) := by decide +kernel
theorem dX10_house_39 : decode cX10_house 39 = .ok (.aload_n 0, 1) := by decide +kernel
theorem dX10_house_40 : decode cX10_house 40 = .ok (.getfield 20, 3) := by decide +kernel
theorem dX10_house_43 : decode cX10_house 43 = .ok (.iload_n 2, 1) := by decide +kernel
theorem dX10_house_44 : decode cX10_house 44 = .ok (.iaload, 1) := by decide +kernel
theorem dX10_house_45 : decode cX10_house 45 = .ok (.iastore, 1) := by decide +kernel
theorem dX10_house_46 : decode cX10_house 46 = .ok (.iinc 2 1, 3) := by decide +kernel
theorem dX10_house_49 : decode cX10_house 49 = .ok (.goto (-20), 3) := by decide +kernel
theorem dX10_house_52 : decode cX10_house 52 = .ok (.aload_n 0, 1) := by decide +kernel
theorem dX10_house_53 : decode cX10_house 53 = .ok (.aload_n 0, 1) := by decide +kernel
theorem dX10_house_54 : decode cX10_house 54 = .ok (.getfield 146, 3) := by decide +kernel
theorem dX10_house_57 : decode cX10_house 57 = .ok (.putfield 105, 3) := by decide +kernel
theorem dX10_house_60 : decode cX10_house 60 = .ok (.iconst 0, 1) := by decide +kernel
theorem dX10_house_61 : decode cX10_house 61 = .ok (.istore_n 2, 1) := by decide +kernel
theorem dX10_house_62 : decode cX10_house 62 = .ok (.iload_n 2, 1) := by decide +kernel
theorem dX10_house_63 : decode cX10_house 63 = .ok (.aload_n 0, 1) := by decide +kernel
theorem dX10_house_64 : decode cX10_house 64 = .ok (.getfield 105, 3) := by decide +kernel
theorem dX10_house_67 : decode cX10_house 67 = .ok (.if_icmp .ge 133, 3) := by decide +kernel
theorem dX10_house_70 : decode cX10_house 70 = .ok (.aload_n 0, 1) := by decide +kernel
theorem dX10_house_71 : decode cX10_house 71 = .ok (.getfield 26, 3) := by decide +kernel
theorem dX10_house_74 : decode cX10_house 74 = .ok (.iload_n 2, 1) := by decide +kernel
theorem dX10_house_75 : decode cX10_house 75 = .ok (.aload_n 0, 1) := by decide +kernel
theorem dX10_house_76 : decode cX10_house 76 = .ok (.getfield 17, 3) := by decide +kernel
theorem dX10_house_79 : decode cX10_house 79 = .ok (.bipush 7, 2) := by decide +kernel
theorem dX10_house_81 : decode cX10_house 81 = .ok (.iload_n 2, 1) := by decide +kernel
theorem dX10_house_82 : decode cX10_house 82 = .ok (.imul, 1) := by decide +kernel
theorem dX10_house_83 : decode cX10_house 83 = .ok (.iaload, 1) := by decide +kernel
theorem dX10_house_84 : decode cX10_house 84 = .ok (.iastore, 1) := by decide +kernel
theorem dX10_house_85 : decode cX10_house 85 = .ok (.aload_n 0, 1) := by decide +kernel
theorem dX10_house_86 : decode cX10_house 86 = .ok (.getfield 38, 3) := by decide +kernel
theorem dX10_house_89 : decode cX10_house 89 = .ok (.iload_n 2, 1) := by decide +kernel
theorem dX10_house_90 : decode cX10_house 90 = .ok (.aload_n 0, 1) := by decide +kernel
theorem dX10_house_91 : decode cX10_house 91 = .ok (.getfield 17, 3) := by decide +kernel
theorem dX10_house_94 : decode cX10_house 94 = .ok (.bipush 7, 2) := by decide +kernel
theorem dX10_house_96 : decode cX10_house 96 = .ok (.iload_n 2, 1) := by decide +kernel
theorem dX10_house_97 : decode cX10_house 97 = .ok (.imul, 1) := by decide +kernel
theorem dX10_house_98 : decode cX10_house 98 = .ok (.iconst 1, 1) := by decide +kernel
theorem dX10_house_99 : decode cX10_house 99 = .ok (.iadd, 1) := by decide +kernel
theorem dX10_house_100 : decode cX10_house 100 = .ok (.iaload, 1) := by decide +kernel
theorem dX10_house_101 : decode cX10_house 101 = .ok (.iastore, 1) := by decide +kernel
theorem dX10_house_102 : decode cX10_house 102 = .ok (.aload_n 0, 1) := by decide +kernel
theorem dX10_house_103 : decode cX10_house 103 = .ok (.getfield 29, 3) := by decide +kernel
theorem dX10_house_106 : decode cX10_house 106 = .ok (.iload_n 2, 1) := by decide +kernel
theorem dX10_house_107 : decode cX10_house 107 = .ok (.aload_n 0, 1) := by decide +kernel
theorem dX10_house_108 : decode cX10_house 108 = .ok (.getfield 17, 3) := by decide +kernel
theorem dX10_house_111 : decode cX10_house 111 = .ok (.bipush 7, 2) := by decide +kernel
theorem dX10_house_113 : decode cX10_house 113 = .ok (.iload_n 2, 1) := by decide +kernel
theorem dX10_house_114 : decode cX10_house 114 = .ok (.imul, 1) := by decide +kernel
theorem dX10_house_115 : decode cX10_house 115 = .ok (.iconst 2, 1) := by decide +kernel
theorem dX10_house_116 : decode cX10_house 116 = .ok (.iadd, 1) := by decide +kernel
theorem dX10_house_117 : decode cX10_house 117 = .ok (.iaload, 1) := by decide +kernel
theorem dX10_house_118 : decode cX10_house 118 = .ok (.iastore, 1) := by decide +kernel
theorem dX10_house_119 : decode cX10_house 119 = .ok (.aload_n 0, 1) := by decide +kernel
theorem dX10_house_120 : decode cX10_house 120 = .ok (.getfield 32, 3) := by decide +kernel
theorem dX10_house_123 : decode cX10_house 123 = .ok (.iload_n 2, 1) := by decide +kernel
theorem dX10_house_124 : decode cX10_house 124 = .ok (.aload_n 0, 1) := by decide +kernel
theorem dX10_house_125 : decode cX10_house 125 = .ok (.getfield 17, 3) := by decide +kernel
theorem dX10_house_128 : decode cX10_house 128 = .ok (.bipush 7, 2) := by decide +kernel
theorem dX10_house_130 : decode cX10_house 130 = .ok (.iload_n 2, 1) := by decide +kernel
theorem dX10_house_131 : decode cX10_house 131 = .ok (.imul, 1) := by decide +kernel
theorem dX10_house_132 : decode cX10_house 132 = .ok (.iconst 3, 1) := by decide +kernel
theorem dX10_house_133 : decode cX10_house 133 = .ok (.iadd, 1) := by decide +kernel
theorem dX10_house_134 : decode cX10_house 134 = .ok (.iaload, 1) := by decide +kernel
theorem dX10_house_135 : decode cX10_house 135 = .ok (.iastore, 1) := by decide +kernel
theorem dX10_house_136 : decode cX10_house 136 = .ok (.aload_n 0, 1) := by decide +kernel
theorem dX10_house_137 : decode cX10_house 137 = .ok (.getfield 38, 3) := by decide +kernel
theorem dX10_house_140 : decode cX10_house 140 = .ok (.bipush 12, 2) := by decide +kernel
theorem dX10_house_142 : decode cX10_house 142 = .ok (.iload_n 2, 1) := by decide +kernel
theorem dX10_house_143 : decode cX10_house 143 = .ok (.iadd, 1) := by decide +kernel
theorem dX10_house_144 : decode cX10_house 144 = .ok (.aload_n 0, 1) := by decide +kernel
theorem dX10_house_145 : decode cX10_house 145 = .ok (.getfield 17, 3) := by decide +kernel
theorem dX10_house_148 : decode cX10_house 148 = .ok (.bipush 7, 2) := by decide +kernel
theorem dX10_house_150 : decode cX10_house 150 = .ok (.iload_n 2, 1) := by decide +kernel
theorem dX10_house_151 : decode cX10_house 151 = .ok (.imul, 1) := by decide +kernel
theorem dX10_house_152 : decode cX10_house 152 = .ok (.iconst 4, 1) := by decide +kernel
theorem dX10_house_153 : decode cX10_house 153 = .ok (.iadd, 1) := by decide +kernel
theorem dX10_house_154 : decode cX10_house 154 = .ok (.iaload, 1) := by decide +kernel
theorem dX10_house_155 : decode cX10_house 155 = .ok (.iastore, 1) := by decide +kernel
theorem dX10_house_156 : decode cX10_house 156 = .ok (.aload_n 0, 1) := by decide +kernel
theorem dX10_house_157 : decode cX10_house 157 = .ok (.getfield 38, 3) := by decide +kernel
theorem dX10_house_160 : decode cX10_house 160 = .ok (.bipush 6, 2) := by decide +kernel
theorem dX10_house_162 : decode cX10_house 162 = .ok (.iload_n 2, 1) := by decide +kernel
theorem dX10_house_163 : decode cX10_house 163 = .ok (.iadd, 1) := by decide +kernel
theorem dX10_house_164 : decode cX10_house 164 = .ok (.aload_n 0, 1) := by decide +kernel
theorem dX10_house_165 : decode cX10_house 165 = .ok (.getfield 17, 3) := by decide +kernel
theorem dX10_house_168 : decode cX10_house 168 = .ok (.bipush 7, 2) := by decide +kernel
theorem dX10_house_170 : decode cX10_house 170 = .ok (.iload_n 2, 1) := by decide +kernel
theorem dX10_house_171 : decode cX10_house 171 = .ok (.imul, 1) := by decide +kernel
theorem dX10_house_172 : decode cX10_house 172 = .ok (.iconst 5, 1) := by decide +kernel
theorem dX10_house_173 : decode cX10_house 173 = .ok (.iadd, 1) := by decide +kernel
theorem dX10_house_174 : decode cX10_house 174 = .ok (.iaload, 1) := by decide +kernel
theorem dX10_house_175 : decode cX10_house 175 = .ok (.iastore, 1) := by decide +kernel
theorem dX10_house_176 : decode cX10_house 176 = .ok (.aload_n 0, 1) := by decide +kernel
theorem dX10_house_177 : decode cX10_house 177 = .ok (.getfield 35, 3) := by decide +kernel
theorem dX10_house_180 : decode cX10_house 180 = .ok (.iload_n 2, 1) := by decide +kernel
theorem dX10_house_181 : decode cX10_house 181 = .ok (.aload_n 0, 1) := by decide +kernel
theorem dX10_house_182 : decode cX10_house 182 = .ok (.getfield 17, 3) := by decide +kernel
theorem dX10_house_185 : decode cX10_house 185 = .ok (.bipush 7, 2) := by decide +kernel
theorem dX10_house_187 : decode cX10_house 187 = .ok (.iload_n 2, 1) := by decide +kernel
theorem dX10_house_188 : decode cX10_house 188 = .ok (.imul, 1) := by decide +kernel
theorem dX10_house_189 : decode cX10_house 189 = .ok (.bipush 6, 2) := by decide +kernel
theorem dX10_house_191 : decode cX10_house 191 = .ok (.iadd, 1) := by decide +kernel
theorem dX10_house_192 : decode cX10_house 192 = .ok (.iaload, 1) := by decide +kernel
theorem dX10_house_193 : decode cX10_house 193 = .ok (.iastore, 1) := by decide +kernel
theorem dX10_house_194 : decode cX10_house 194 = .ok (.iinc 2 1, 3) := by decide +kernel
theorem dX10_house_197 : decode cX10_house 197 = .ok (.goto (-135), 3) := by decide +kernel
theorem dX10_house_200 : decode cX10_house 200 = .ok (.aload_n 0, 1) := by decide +kernel
theorem dX10_house_201 : decode cX10_house 201 = .ok (.getfield 38, 3) := by decide +kernel
theorem dX10_house_204 : decode cX10_house 204 = .ok (.bipush 18, 2) := by decide +kernel
theorem dX10_house_206 : decode cX10_house 206 = .ok (.aload_n 0, 1) := by decide +kernel
theorem dX10_house_207 : decode cX10_house 207 = .ok (.getfield 153, 3) := by decide +kernel
theorem dX10_house_210 : decode cX10_house 210 = .ok (.iastore, 1) := by decide +kernel
theorem dX10_house_211 : decode cX10_house 211 = .ok (.aload_n 0, 1) := by decide +kernel
theorem dX10_house_212 : decode cX10_house 212 = .ok (.getfield 38, 3) := by decide +kernel
theorem dX10_house_215 : decode cX10_house 215 = .ok (.bipush 19, 2) := by decide +kernel
theorem dX10_house_217 : decode cX10_house 217 = .ok (.aload_n 0, 1) := by decide +kernel
theorem dX10_house_218 : decode cX10_house 218 = .ok (.getfield 159, 3) := by decide +kernel
theorem dX10_house_221 : decode cX10_house 221 = .ok (.iastore, 1) := by decide +kernel
theorem dX10_house_222 : decode cX10_house 222 = .ok (.aload_n 0, 1) := by decide +kernel
theorem dX10_house_223 : decode cX10_house 223 = .ok (.iconst 0, 1) := by decide +kernel
theorem dX10_house_224 : decode cX10_house 224 = .ok (.putfield 181, 3) := by decide +kernel
theorem dX10_house_227 : decode cX10_house 227 = .ok (.aload_n 0, 1) := by decide +kernel
theorem dX10_house_228 : decode cX10_house 228 = .ok (.getfield 44, 3) := by decide +kernel
theorem dX10_house_231 : decode cX10_house 231 = .ok (.iconst 0, 1) := by decide +kernel
theorem dX10_house_232 : decode cX10_house 232 = .ok (.iconst 0, 1) := by decide +kernel
theorem dX10_house_233 : decode cX10_house 233 = .ok (.bastore, 1) := by decide +kernel
theorem dX10_house_234 : decode cX10_house 234 = .ok (.aload_n 0, 1) := by decide +kernel
theorem dX10_house_235 : decode cX10_house 235 = .ok (.getfield 44, 3) := by decide +kernel
theorem dX10_house_238 : decode cX10_house 238 = .ok (.iconst 1, 1) := by decide +kernel
theorem dX10_house_239 : decode cX10_house 239 = .ok (.iconst 0, 1) := by decide +kernel
theorem dX10_house_240 : decode cX10_house 240 = .ok (.bastore, 1) := by decide +kernel
theorem dX10_house_241 : decode cX10_house 241 = .ok (.aload_n 0, 1) := by decide +kernel
theorem dX10_house_242 : decode cX10_house 242 = .ok (.getfield 105, 3) := by decide +kernel
theorem dX10_house_245 : decode cX10_house 245 = .ok (.ireturn, 1) := by decide +kernel
theorem dX10_fault_0 : decode cX10_fault 0 = .ok (.aload_n 0, 1) := by decide +kernel
theorem dX10_fault_1 : decode cX10_fault 1 = .ok (.getfield 13, 3) := by decide +kernel
theorem dX10_fault_4 : decode cX10_fault 4 = .ok (.ireturn, 1) := by decide +kernel
theorem dX10_isBusy_0 : decode cX10_isBusy 0 = .ok (.aload_n 0, 1) := by decide +kernel
theorem dX10_isBusy_1 : decode cX10_isBusy 1 = .ok (.getfield 66, 3) := by decide +kernel
theorem dX10_isBusy_4 : decode cX10_isBusy 4 = .ok (.iconst 2, 1) := by decide +kernel
theorem dX10_isBusy_5 : decode cX10_isBusy 5 = .ok (.iload_n 1, 1) := by decide +kernel
theorem dX10_isBusy_6 : decode cX10_isBusy 6 = .ok (.imul, 1) := by decide +kernel
theorem dX10_isBusy_7 : decode cX10_isBusy 7 = .ok (.iload_n 2, 1) := by decide +kernel
theorem dX10_isBusy_8 : decode cX10_isBusy 8 = .ok (.iadd, 1) := by decide +kernel
theorem dX10_isBusy_9 : decode cX10_isBusy 9 = .ok (.iaload, 1) := by decide +kernel
theorem dX10_isBusy_10 : decode cX10_isBusy 10 = .ok (.iload_n 3, 1) := by decide +kernel
theorem dX10_isBusy_11 : decode cX10_isBusy 11 = .ok (.if_icmp .gt 21, 3) := by decide +kernel
theorem dX10_isBusy_14 : decode cX10_isBusy 14 = .ok (.iload_n 3, 1) := by decide +kernel
theorem dX10_isBusy_15 : decode cX10_isBusy 15 = .ok (.aload_n 0, 1) := by decide +kernel
theorem dX10_isBusy_16 : decode cX10_isBusy 16 = .ok (.getfield 69, 3) := by decide +kernel
theorem dX10_isBusy_19 : decode cX10_isBusy 19 = .ok (.iconst 2, 1) := by decide +kernel
theorem dX10_isBusy_20 : decode cX10_isBusy 20 = .ok (.iload_n 1, 1) := by decide +kernel
theorem dX10_isBusy_21 : decode cX10_isBusy 21 = .ok (.imul, 1) := by decide +kernel
theorem dX10_isBusy_22 : decode cX10_isBusy 22 = .ok (.iload_n 2, 1) := by decide +kernel
theorem dX10_isBusy_23 : decode cX10_isBusy 23 = .ok (.iadd, 1) := by decide +kernel
theorem dX10_isBusy_24 : decode cX10_isBusy 24 = .ok (.iaload, 1) := by decide +kernel
theorem dX10_isBusy_25 : decode cX10_isBusy 25 = .ok (.if_icmp .ge 7, 3) := by decide +kernel
theorem dX10_isBusy_28 : decode cX10_isBusy 28 = .ok (.iconst 1, 1) := by decide +kernel
theorem dX10_isBusy_29 : decode cX10_isBusy 29 = .ok (.goto 4, 3) := by decide +kernel
theorem dX10_isBusy_32 : decode cX10_isBusy 32 = .ok (.iconst 0, 1) := by decide +kernel
theorem dX10_isBusy_33 : decode cX10_isBusy 33 = .ok (.ireturn, 1) := by decide +kernel
theorem dX10_widen_0 : decode cX10_widen 0 = .ok (.iconst 2, 1) := by decide +kernel
theorem dX10_widen_1 : decode cX10_widen 1 = .ok (.iload_n 1, 1) := by decide +kernel
theorem dX10_widen_2 : decode cX10_widen 2 = .ok (.imul, 1) := by decide +kernel
theorem dX10_widen_3 : decode cX10_widen 3 = .ok (.iload_n 2, 1) := by decide +kernel
theorem dX10_widen_4 : decode cX10_widen 4 = .ok (.iadd, 1) := by decide +kernel
theorem dX10_widen_5 : decode cX10_widen 5 = .ok (.istore 5, 2) := by decide +kernel
theorem dX10_widen_7 : decode cX10_widen 7 = .ok (.aload_n 0, 1) := by decide +kernel
theorem dX10_widen_8 : decode cX10_widen 8 = .ok (.getfield 69, 3) := by decide +kernel
theorem dX10_widen_11 : decode cX10_widen 11 = .ok (.iload 5, 2) := by decide +kernel
theorem dX10_widen_13 : decode cX10_widen 13 = .ok (.iaload, 1) := by decide +kernel
theorem dX10_widen_14 : decode cX10_widen 14 = .ok (.iload_n 3, 1) := by decide +kernel
theorem dX10_widen_15 : decode cX10_widen 15 = .ok (.if_icmp .gt 23, 3) := by decide +kernel
theorem dX10_widen_18 : decode cX10_widen 18 = .ok (.aload_n 0, 1) := by decide +kernel
theorem dX10_widen_19 : decode cX10_widen 19 = .ok (.getfield 66, 3) := by decide +kernel
theorem dX10_widen_22 : decode cX10_widen 22 = .ok (.iload 5, 2) := by decide +kernel
theorem dX10_widen_24 : decode cX10_widen 24 = .ok (.iload_n 3, 1) := by decide +kernel
theorem dX10_widen_25 : decode cX10_widen 25 = .ok (.iastore, 1) := by decide +kernel
theorem dX10_widen_26 : decode cX10_widen 26 = .ok (.aload_n 0, 1) := by decide +kernel
theorem dX10_widen_27 : decode cX10_widen 27 = .ok (.getfield 69, 3) := by decide +kernel
theorem dX10_widen_30 : decode cX10_widen 30 = .ok (.iload 5, 2) := by decide +kernel
theorem dX10_widen_32 : decode cX10_widen 32 = .ok (.iload 4, 2) := by decide +kernel
theorem dX10_widen_34 : decode cX10_widen 34 = .ok (.iastore, 1) := by decide +kernel
theorem dX10_widen_35 : decode cX10_widen 35 = .ok (.goto 63, 3) := by decide +kernel
theorem dX10_widen_38 : decode cX10_widen 38 = .ok (.aload_n 0, 1) := by decide +kernel
theorem dX10_widen_39 : decode cX10_widen 39 = .ok (.getfield 66, 3) := by decide +kernel
theorem dX10_widen_42 : decode cX10_widen 42 = .ok (.iload 5, 2) := by decide +kernel
theorem dX10_widen_44 : decode cX10_widen 44 = .ok (.aload_n 0, 1) := by decide +kernel
theorem dX10_widen_45 : decode cX10_widen 45 = .ok (.getfield 66, 3) := by decide +kernel
theorem dX10_widen_48 : decode cX10_widen 48 = .ok (.iload 5, 2) := by decide +kernel
theorem dX10_widen_50 : decode cX10_widen 50 = .ok (.iaload, 1) := by decide +kernel
theorem dX10_widen_51 : decode cX10_widen 51 = .ok (.iload_n 3, 1) := by decide +kernel
theorem dX10_widen_52 : decode cX10_widen 52 = .ok (.if_icmp .ge 13, 3) := by decide +kernel
theorem dX10_widen_55 : decode cX10_widen 55 = .ok (.aload_n 0, 1) := by decide +kernel
theorem dX10_widen_56 : decode cX10_widen 56 = .ok (.getfield 66, 3) := by decide +kernel
theorem dX10_widen_59 : decode cX10_widen 59 = .ok (.iload 5, 2) := by decide +kernel
theorem dX10_widen_61 : decode cX10_widen 61 = .ok (.iaload, 1) := by decide +kernel
theorem dX10_widen_62 : decode cX10_widen 62 = .ok (.goto 4, 3) := by decide +kernel
theorem dX10_widen_65 : decode cX10_widen 65 = .ok (.iload_n 3, 1) := by decide +kernel
theorem dX10_widen_66 : decode cX10_widen 66 = .ok (.iastore, 1) := by decide +kernel
theorem dX10_widen_67 : decode cX10_widen 67 = .ok (.aload_n 0, 1) := by decide +kernel
theorem dX10_widen_68 : decode cX10_widen 68 = .ok (.getfield 69, 3) := by decide +kernel
theorem dX10_widen_71 : decode cX10_widen 71 = .ok (.iload 5, 2) := by decide +kernel
theorem dX10_widen_73 : decode cX10_widen 73 = .ok (.aload_n 0, 1) := by decide +kernel
theorem dX10_widen_74 : decode cX10_widen 74 = .ok (.getfield 69, 3) := by decide +kernel
theorem dX10_widen_77 : decode cX10_widen 77 = .ok (.iload 5, 2) := by decide +kernel
theorem dX10_widen_79 : decode cX10_widen 79 = .ok (.iaload, 1) := by decide +kernel
theorem dX10_widen_80 : decode cX10_widen 80 = .ok (.iload 4, 2) := by decide +kernel
theorem dX10_widen_82 : decode cX10_widen 82 = .ok (.if_icmp .le 13, 3) := by decide +kernel
theorem dX10_widen_85 : decode cX10_widen 85 = .ok (.aload_n 0, 1) := by decide +kernel
theorem dX10_widen_86 : decode cX10_widen 86 = .ok (.getfield 69, 3) := by decide +kernel
theorem dX10_widen_89 : decode cX10_widen 89 = .ok (.iload 5, 2) := by decide +kernel
theorem dX10_widen_91 : decode cX10_widen 91 = .ok (.iaload, 1) := by decide +kernel
theorem dX10_widen_92 : decode cX10_widen 92 = .ok (.goto 5, 3) := by decide +kernel
theorem dX10_widen_95 : decode cX10_widen 95 = .ok (.iload 4, 2) := by decide +kernel
theorem dX10_widen_97 : decode cX10_widen 97 = .ok (.iastore, 1) := by decide +kernel
theorem dX10_widen_98 : decode cX10_widen 98 = .ok (.return_, 1) := by decide +kernel
theorem dX10_swing_0 : decode cX10_swing 0 = .ok (.aload_n 0, 1) := by decide +kernel
theorem dX10_swing_1 : decode cX10_swing 1 = .ok (.getfield 75, 3) := by decide +kernel
theorem dX10_swing_4 : decode cX10_swing 4 = .ok (.iload_n 1, 1) := by decide +kernel
theorem dX10_swing_5 : decode cX10_swing 5 = .ok (.iaload, 1) := by decide +kernel
theorem dX10_swing_6 : decode cX10_swing 6 = .ok (.ifCond .eq 13, 3) := by decide +kernel
theorem dX10_swing_9 : decode cX10_swing 9 = .ok (.iload_n 2, 1) := by decide +kernel
theorem dX10_swing_10 : decode cX10_swing 10 = .ok (.aload_n 0, 1) := by decide +kernel
theorem dX10_swing_11 : decode cX10_swing 11 = .ok (.getfield 72, 3) := by decide +kernel
theorem dX10_swing_14 : decode cX10_swing 14 = .ok (.iload_n 1, 1) := by decide +kernel
theorem dX10_swing_15 : decode cX10_swing 15 = .ok (.iaload, 1) := by decide +kernel
theorem dX10_swing_16 : decode cX10_swing 16 = .ok (.if_icmp .ge 5, 3) := by decide +kernel
theorem dX10_swing_19 : decode cX10_swing 19 = .ok (.iconst 0, 1) := by decide +kernel
theorem dX10_swing_20 : decode cX10_swing 20 = .ok (.ireturn, 1) := by decide +kernel
theorem dX10_swing_21 : decode cX10_swing 21 = .ok (.aload_n 0, 1) := by decide +kernel
theorem dX10_swing_22 : decode cX10_swing 22 = .ok (.getfield 72, 3) := by decide +kernel
theorem dX10_swing_25 : decode cX10_swing 25 = .ok (.iload_n 1, 1) := by decide +kernel
theorem dX10_swing_26 : decode cX10_swing 26 = .ok (.iaload, 1) := by decide +kernel
theorem dX10_swing_27 : decode cX10_swing 27 = .ok (.aload_n 0, 1) := by decide +kernel
theorem dX10_swing_28 : decode cX10_swing 28 = .ok (.getfield 75, 3) := by decide +kernel
theorem dX10_swing_31 : decode cX10_swing 31 = .ok (.iload_n 1, 1) := by decide +kernel
theorem dX10_swing_32 : decode cX10_swing 32 = .ok (.iaload, 1) := by decide +kernel
theorem dX10_swing_33 : decode cX10_swing 33 = .ok (.aload_n 0, 1) := by decide +kernel
theorem dX10_swing_34 : decode cX10_swing 34 = .ok (.getfield 23, 3) := by decide +kernel
theorem dX10_swing_37 : decode cX10_swing 37 = .ok (.iconst 2, 1) := by decide +kernel
theorem dX10_swing_38 : decode cX10_swing 38 = .ok (.iload_n 1, 1) := by decide +kernel
theorem dX10_swing_39 : decode cX10_swing 39 = .ok (.imul, 1) := by decide +kernel
theorem dX10_swing_40 : decode cX10_swing 40 = .ok (.iaload, 1) := by decide +kernel
theorem dX10_swing_41 : decode cX10_swing 41 = .ok (.imul, 1) := by decide +kernel
theorem dX10_swing_42 : decode cX10_swing 42 = .ok (.iadd, 1) := by decide +kernel
theorem dX10_swing_43 : decode cX10_swing 43 = .ok (.istore_n 3, 1) := by decide +kernel
theorem dX10_swing_44 : decode cX10_swing 44 = .ok (.iload_n 2, 1) := by decide +kernel
theorem dX10_swing_45 : decode cX10_swing 45 = .ok (.iload_n 3, 1) := by decide +kernel
theorem dX10_swing_46 : decode cX10_swing 46 = .ok (.if_icmp .ge 7, 3) := by decide +kernel
theorem dX10_swing_49 : decode cX10_swing 49 = .ok (.iconst 2, 1) := by decide +kernel
theorem dX10_swing_50 : decode cX10_swing 50 = .ok (.goto 24, 3) := by decide +kernel
theorem dX10_swing_53 : decode cX10_swing 53 = .ok (.iload_n 2, 1) := by decide +kernel
theorem dX10_swing_54 : decode cX10_swing 54 = .ok (.iload_n 3, 1) := by decide +kernel
theorem dX10_swing_55 : decode cX10_swing 55 = .ok (.aload_n 0, 1) := by decide +kernel
theorem dX10_swing_56 : decode cX10_swing 56 = .ok (.getfield 23, 3) := by decide +kernel
theorem dX10_swing_59 : decode cX10_swing 59 = .ok (.iconst 2, 1) := by decide +kernel
theorem dX10_swing_60 : decode cX10_swing 60 = .ok (.iload_n 1, 1) := by decide +kernel
theorem dX10_swing_61 : decode cX10_swing 61 = .ok (.imul, 1) := by decide +kernel
theorem dX10_swing_62 : decode cX10_swing 62 = .ok (.iconst 1, 1) := by decide +kernel
theorem dX10_swing_63 : decode cX10_swing 63 = .ok (.iadd, 1) := by decide +kernel
theorem dX10_swing_64 : decode cX10_swing 64 = .ok (.iaload, 1) := by decide +kernel
theorem dX10_swing_65 : decode cX10_swing 65 = .ok (.iadd, 1) := by decide +kernel
theorem dX10_swing_66 : decode cX10_swing 66 = .ok (.if_icmp .ge 7, 3) := by decide +kernel
theorem dX10_swing_69 : decode cX10_swing 69 = .ok (.iconst 3, 1) := by decide +kernel
theorem dX10_swing_70 : decode cX10_swing 70 = .ok (.goto 4, 3) := by decide +kernel
theorem dX10_swing_73 : decode cX10_swing 73 = .ok (.iconst 0, 1) := by decide +kernel
theorem dX10_swing_74 : decode cX10_swing 74 = .ok (.ireturn, 1) := by decide +kernel
theorem dX10_isHeard_0 : decode cX10_isHeard 0 = .ok (.iconst 0, 1) := by decide +kernel
theorem dX10_isHeard_1 : decode cX10_isHeard 1 = .ok (.istore_n 2, 1) := by decide +kernel
theorem dX10_isHeard_2 : decode cX10_isHeard 2 = .ok (.iconst 0, 1) := by decide +kernel
theorem dX10_isHeard_3 : decode cX10_isHeard 3 = .ok (.istore_n 3, 1) := by decide +kernel
theorem dX10_isHeard_4 : decode cX10_isHeard 4 = .ok (.iload_n 3, 1) := by decide +kernel
theorem dX10_isHeard_5 : decode cX10_isHeard 5 = .ok (.aload_n 0, 1) := by decide +kernel
theorem dX10_isHeard_6 : decode cX10_isHeard 6 = .ok (.getfield 105, 3) := by decide +kernel
theorem dX10_isHeard_9 : decode cX10_isHeard 9 = .ok (.if_icmp .ge 51, 3) := by decide +kernel
theorem dX10_isHeard_12 : decode cX10_isHeard 12 = .ok (.iload_n 2, 1) := by decide +kernel
theorem dX10_isHeard_13 : decode cX10_isHeard 13 = .ok (.iload_n 3, 1) := by decide +kernel
theorem dX10_isHeard_14 : decode cX10_isHeard 14 = .ok (.iload_n 1, 1) := by decide +kernel
theorem dX10_isHeard_15 : decode cX10_isHeard 15 = .ok (.if_icmp .eq 36, 3) := by decide +kernel
theorem dX10_isHeard_18 : decode cX10_isHeard 18 = .ok (.aload_n 0, 1) := by decide +kernel
theorem dX10_isHeard_19 : decode cX10_isHeard 19 = .ok (.getfield 38, 3) := by decide +kernel
theorem dX10_isHeard_22 : decode cX10_isHeard 22 = .ok (.iload_n 3, 1) := by decide +kernel
theorem dX10_isHeard_23 : decode cX10_isHeard 23 = .ok (.iaload, 1) := by decide +kernel
theorem dX10_isHeard_24 : decode cX10_isHeard 24 = .ok (.aload_n 0, 1) := by decide +kernel
theorem dX10_isHeard_25 : decode cX10_isHeard 25 = .ok (.getfield 38, 3) := by decide +kernel
theorem dX10_isHeard_28 : decode cX10_isHeard 28 = .ok (.iload_n 1, 1) := by decide +kernel
theorem dX10_isHeard_29 : decode cX10_isHeard 29 = .ok (.iaload, 1) := by decide +kernel
theorem dX10_isHeard_30 : decode cX10_isHeard 30 = .ok (.bipush 20, 2) := by decide +kernel
theorem dX10_isHeard_32 : decode cX10_isHeard 32 = .ok (.isub, 1) := by decide +kernel
theorem dX10_isHeard_33 : decode cX10_isHeard 33 = .ok (.aload_n 0, 1) := by decide +kernel
theorem dX10_isHeard_34 : decode cX10_isHeard 34 = .ok (.getfield 38, 3) := by decide +kernel
theorem dX10_isHeard_37 : decode cX10_isHeard 37 = .ok (.iload_n 1, 1) := by decide +kernel
theorem dX10_isHeard_38 : decode cX10_isHeard 38 = .ok (.iaload, 1) := by decide +kernel
theorem dX10_isHeard_39 : decode cX10_isHeard 39 = .ok (.iconst 1, 1) := by decide +kernel
theorem dX10_isHeard_40 : decode cX10_isHeard 40 = .ok (.isub, 1) := by decide +kernel
theorem dX10_isHeard_41 : decode cX10_isHeard 41 = .ok (.invokestatic 108, 3) := by decide +kernel
theorem dX10_isHeard_44 : decode cX10_isHeard 44 = .ok (.ifCond .eq 7, 3) := by decide +kernel
theorem dX10_isHeard_47 : decode cX10_isHeard 47 = .ok (.iconst 1, 1) := by decide +kernel
theorem dX10_isHeard_48 : decode cX10_isHeard 48 = .ok (.goto 4, 3) := by decide +kernel
theorem dX10_isHeard_51 : decode cX10_isHeard 51 = .ok (.iconst 0, 1) := by decide +kernel
theorem dX10_isHeard_52 : decode cX10_isHeard 52 = .ok (.iadd, 1) := by decide +kernel
theorem dX10_isHeard_53 : decode cX10_isHeard 53 = .ok (.istore_n 2, 1) := by decide +kernel
theorem dX10_isHeard_54 : decode cX10_isHeard 54 = .ok (.iinc 3 1, 3) := by decide +kernel
theorem dX10_isHeard_57 : decode cX10_isHeard 57 = .ok (.goto (-53), 3) := by decide +kernel
theorem dX10_isHeard_60 : decode cX10_isHeard 60 = .ok (.iload_n 2, 1) := by decide +kernel
theorem dX10_isHeard_61 : decode cX10_isHeard 61 = .ok (.aload_n 0, 1) := by decide +kernel
theorem dX10_isHeard_62 : decode cX10_isHeard 62 = .ok (.getfield 38, 3) := by decide +kernel
theorem dX10_isHeard_65 : decode cX10_isHeard 65 = .ok (.bipush 19, 2) := by decide +kernel
theorem dX10_isHeard_67 : decode cX10_isHeard 67 = .ok (.iaload, 1) := by decide +kernel
theorem dX10_isHeard_68 : decode cX10_isHeard 68 = .ok (.if_icmp .ge 7, 3) := by decide +kernel
theorem dX10_isHeard_71 : decode cX10_isHeard 71 = .ok (.iconst 1, 1) := by decide +kernel
theorem dX10_isHeard_72 : decode cX10_isHeard 72 = .ok (.goto 4, 3) := by decide +kernel
theorem dX10_isHeard_75 : decode cX10_isHeard 75 = .ok (.iconst 0, 1) := by decide +kernel
theorem dX10_isHeard_76 : decode cX10_isHeard 76 = .ok (.ireturn, 1) := by decide +kernel
theorem dX10_leafFor_0 : decode cX10_leafFor 0 = .ok (.aload_n 0, 1) := by decide +kernel
theorem dX10_leafFor_1 : decode cX10_leafFor 1 = .ok (.getfield 26, 3) := by decide +kernel
theorem dX10_leafFor_4 : decode cX10_leafFor 4 = .ok (.iload_n 1, 1) := by decide +kernel
theorem dX10_leafFor_5 : decode cX10_leafFor 5 = .ok (.iaload, 1) := by decide +kernel
theorem dX10_leafFor_6 : decode cX10_leafFor 6 = .ok (.istore_n 2, 1) := by decide +kernel
theorem dX10_leafFor_7 : decode cX10_leafFor 7 = .ok (.aload_n 0, 1) := by decide +kernel
theorem dX10_leafFor_8 : decode cX10_leafFor 8 = .ok (.getfield 38, 3) := by decide +kernel
theorem dX10_leafFor_11 : decode cX10_leafFor 11 = .ok (.iload_n 1, 1) := by decide +kernel
theorem dX10_leafFor_12 : decode cX10_leafFor 12 = .ok (.iaload, 1) := by decide +kernel
theorem dX10_leafFor_13 : decode cX10_leafFor 13 = .ok (.istore_n 3, 1) := by decide +kernel
theorem dX10_leafFor_14 : decode cX10_leafFor 14 = .ok (.aload_n 0, 1) := by decide +kernel
theorem dX10_leafFor_15 : decode cX10_leafFor 15 = .ok (.getfield 38, 3) := by decide +kernel
theorem dX10_leafFor_18 : decode cX10_leafFor 18 = .ok (.bipush 6, 2) := by decide +kernel
theorem dX10_leafFor_20 : decode cX10_leafFor 20 = .ok (.iload_n 1, 1) := by decide +kernel
theorem dX10_leafFor_21 : decode cX10_leafFor 21 = .ok (.iadd, 1) := by decide +kernel
theorem dX10_leafFor_22 : decode cX10_leafFor 22 = .ok (.iaload, 1) := by decide +kernel
theorem dX10_leafFor_23 : decode cX10_leafFor 23 = .ok (.istore 4, 2) := by decide +kernel
theorem dX10_leafFor_25 : decode cX10_leafFor 25 = .ok (.iload 4, 2) := by decide +kernel
theorem dX10_leafFor_27 : decode cX10_leafFor 27 = .ok (.iconst 2, 1) := by decide +kernel
theorem dX10_leafFor_28 : decode cX10_leafFor 28 = .ok (.if_icmp .ge 16, 3) := by decide +kernel
theorem dX10_leafFor_31 : decode cX10_leafFor 31 = .ok (.iload 4, 2) := by decide +kernel
theorem dX10_leafFor_33 : decode cX10_leafFor 33 = .ok (.ifCond .ne 7, 3) := by decide +kernel
theorem dX10_leafFor_36 : decode cX10_leafFor 36 = .ok (.iload_n 2, 1) := by decide +kernel
theorem dX10_leafFor_37 : decode cX10_leafFor 37 = .ok (.goto 6, 3) := by decide +kernel
theorem dX10_leafFor_40 : decode cX10_leafFor 40 = .ok (.iconst 1, 1) := by decide +kernel
theorem dX10_leafFor_41 : decode cX10_leafFor 41 = .ok (.iload_n 2, 1) := by decide +kernel
theorem dX10_leafFor_42 : decode cX10_leafFor 42 = .ok (.isub, 1) := by decide +kernel
theorem dX10_leafFor_43 : decode cX10_leafFor 43 = .ok (.ireturn, 1) := by decide +kernel
theorem dX10_leafFor_44 : decode cX10_leafFor 44 = .ok (.aload_n 0, 1) := by decide +kernel
theorem dX10_leafFor_45 : decode cX10_leafFor 45 = .ok (.iload_n 2, 1) := by decide +kernel
theorem dX10_leafFor_46 : decode cX10_leafFor 46 = .ok (.iconst 1, 1) := by decide +kernel
theorem dX10_leafFor_47 : decode cX10_leafFor 47 = .ok (.iload_n 2, 1) := by decide +kernel
theorem dX10_leafFor_48 : decode cX10_leafFor 48 = .ok (.isub, 1) := by decide +kernel
theorem dX10_leafFor_49 : decode cX10_leafFor 49 = .ok (.iload_n 3, 1) := by decide +kernel
theorem dX10_leafFor_50 : decode cX10_leafFor 50 = .ok (.invokevirtual 184, 3) := by decide +kernel
theorem dX10_leafFor_53 : decode cX10_leafFor 53 = .ok (.istore 5, 2) := by decide +kernel
theorem dX10_leafFor_55 : decode cX10_leafFor 55 = .ok (.iload 5, 2) := by decide +kernel
theorem dX10_leafFor_57 : decode cX10_leafFor 57 = .ok (.ifCond .eq 23, 3) := by decide +kernel
theorem dX10_leafFor_60 : decode cX10_leafFor 60 = .ok (.aload_n 0, 1) := by decide +kernel
theorem dX10_leafFor_61 : decode cX10_leafFor 61 = .ok (.iconst 1, 1) := by decide +kernel
theorem dX10_leafFor_62 : decode cX10_leafFor 62 = .ok (.iload_n 2, 1) := by decide +kernel
theorem dX10_leafFor_63 : decode cX10_leafFor 63 = .ok (.isub, 1) := by decide +kernel
theorem dX10_leafFor_64 : decode cX10_leafFor 64 = .ok (.iconst 1, 1) := by decide +kernel
theorem dX10_leafFor_65 : decode cX10_leafFor 65 = .ok (.iload_n 2, 1) := by decide +kernel
theorem dX10_leafFor_66 : decode cX10_leafFor 66 = .ok (.isub, 1) := by decide +kernel
theorem dX10_leafFor_67 : decode cX10_leafFor 67 = .ok (.iload_n 3, 1) := by decide +kernel
theorem dX10_leafFor_68 : decode cX10_leafFor 68 = .ok (.invokevirtual 184, 3) := by decide +kernel
theorem dX10_leafFor_71 : decode cX10_leafFor 71 = .ok (.ifCond .ne 9, 3) := by decide +kernel
theorem dX10_leafFor_74 : decode cX10_leafFor 74 = .ok (.iconst 1, 1) := by decide +kernel
theorem dX10_leafFor_75 : decode cX10_leafFor 75 = .ok (.iload_n 2, 1) := by decide +kernel
theorem dX10_leafFor_76 : decode cX10_leafFor 76 = .ok (.isub, 1) := by decide +kernel
theorem dX10_leafFor_77 : decode cX10_leafFor 77 = .ok (.goto 4, 3) := by decide +kernel
theorem dX10_leafFor_80 : decode cX10_leafFor 80 = .ok (.iload_n 2, 1) := by decide +kernel
theorem dX10_leafFor_81 : decode cX10_leafFor 81 = .ok (.ireturn, 1) := by decide +kernel
theorem dX10_lose_0 : decode cX10_lose 0 = .ok (.aload_n 0, 1) := by decide +kernel
theorem dX10_lose_1 : decode cX10_lose 1 = .ok (.dup, 1) := by decide +kernel
theorem dX10_lose_2 : decode cX10_lose 2 = .ok (.getfield 187, 3) := by decide +kernel
theorem dX10_lose_5 : decode cX10_lose 5 = .ok (.aload_n 0, 1) := by decide +kernel
theorem dX10_lose_6 : decode cX10_lose 6 = .ok (.getfield 63, 3) := by decide +kernel
theorem dX10_lose_9 : decode cX10_lose 9 = .ok (.iload_n 1, 1) := by decide +kernel
theorem dX10_lose_10 : decode cX10_lose 10 = .ok (.baload, 1) := by decide +kernel
theorem dX10_lose_11 : decode cX10_lose 11 = .ok (.ifCond .eq 7, 3) := by decide +kernel
theorem dX10_lose_14 : decode cX10_lose 14 = .ok (.iconst 0, 1) := by decide +kernel
theorem dX10_lose_15 : decode cX10_lose 15 = .ok (.goto 9, 3) := by decide +kernel
theorem dX10_lose_18 : decode cX10_lose 18 = .ok (.aload_n 0, 1) := by decide +kernel
theorem dX10_lose_19 : decode cX10_lose 19 = .ok (.getfield 32, 3) := by decide +kernel
theorem dX10_lose_22 : decode cX10_lose 22 = .ok (.iload_n 1, 1) := by decide +kernel
theorem dX10_lose_23 : decode cX10_lose 23 = .ok (.iaload, 1) := by decide +kernel
theorem dX10_lose_24 : decode cX10_lose 24 = .ok (.iadd, 1) := by decide +kernel
theorem dX10_lose_25 : decode cX10_lose 25 = .ok (.putfield 187, 3) := by decide +kernel
theorem dX10_lose_28 : decode cX10_lose 28 = .ok (.aload_n 0, 1) := by decide +kernel
theorem dX10_lose_29 : decode cX10_lose 29 = .ok (.getfield 63, 3) := by decide +kernel
theorem dX10_lose_32 : decode cX10_lose 32 = .ok (.iload_n 1, 1) := by decide +kernel
theorem dX10_lose_33 : decode cX10_lose 33 = .ok (.iconst 1, 1) := by decide +kernel
theorem dX10_lose_34 : decode cX10_lose 34 = .ok (.bastore, 1) := by decide +kernel
theorem dX10_lose_35 : decode cX10_lose 35 = .ok (.return_, 1) := by decide +kernel
theorem dX10_crash_0 : decode cX10_crash 0 = .ok (.aload_n 0, 1) := by decide +kernel
theorem dX10_crash_1 : decode cX10_crash 1 = .ok (.getfield 38, 3) := by decide +kernel
theorem dX10_crash_4 : decode cX10_crash 4 = .ok (.iload_n 1, 1) := by decide +kernel
theorem dX10_crash_5 : decode cX10_crash 5 = .ok (.iaload, 1) := by decide +kernel
theorem dX10_crash_6 : decode cX10_crash 6 = .ok (.istore_n 3, 1) := by decide +kernel
theorem dX10_crash_7 : decode cX10_crash 7 = .ok (.aload_n 0, 1) := by decide +kernel
theorem dX10_crash_8 : decode cX10_crash 8 = .ok (.getfield 84, 3) := by decide +kernel
theorem dX10_crash_11 : decode cX10_crash 11 = .ok (.iconst 2, 1) := by decide +kernel
theorem dX10_crash_12 : decode cX10_crash 12 = .ok (.iload_n 2, 1) := by decide +kernel
theorem dX10_crash_13 : decode cX10_crash 13 = .ok (.imul, 1) := by decide +kernel
theorem dX10_crash_14 : decode cX10_crash 14 = .ok (.iconst 1, 1) := by decide +kernel
theorem dX10_crash_15 : decode cX10_crash 15 = .ok (.iadd, 1) := by decide +kernel
theorem dX10_crash_16 : decode cX10_crash 16 = .ok (.aload_n 0, 1) := by decide +kernel
theorem dX10_crash_17 : decode cX10_crash 17 = .ok (.getfield 26, 3) := by decide +kernel
theorem dX10_crash_20 : decode cX10_crash 20 = .ok (.iload_n 1, 1) := by decide +kernel
theorem dX10_crash_21 : decode cX10_crash 21 = .ok (.iaload, 1) := by decide +kernel
theorem dX10_crash_22 : decode cX10_crash 22 = .ok (.isub, 1) := by decide +kernel
theorem dX10_crash_23 : decode cX10_crash 23 = .ok (.iaload, 1) := by decide +kernel
theorem dX10_crash_24 : decode cX10_crash 24 = .ok (.istore 4, 2) := by decide +kernel
theorem dX10_crash_26 : decode cX10_crash 26 = .ok (.aload_n 0, 1) := by decide +kernel
theorem dX10_crash_27 : decode cX10_crash 27 = .ok (.getfield 48, 3) := by decide +kernel
theorem dX10_crash_30 : decode cX10_crash 30 = .ok (.iload_n 1, 1) := by decide +kernel
theorem dX10_crash_31 : decode cX10_crash 31 = .ok (.bipush 6, 2) := by decide +kernel
theorem dX10_crash_33 : decode cX10_crash 33 = .ok (.iastore, 1) := by decide +kernel
theorem dX10_crash_34 : decode cX10_crash 34 = .ok (.aload_n 0, 1) := by decide +kernel
theorem dX10_crash_35 : decode cX10_crash 35 = .ok (.getfield 48, 3) := by decide +kernel
theorem dX10_crash_38 : decode cX10_crash 38 = .ok (.iload 4, 2) := by decide +kernel
theorem dX10_crash_40 : decode cX10_crash 40 = .ok (.bipush 6, 2) := by decide +kernel
theorem dX10_crash_42 : decode cX10_crash 42 = .ok (.iastore, 1) := by decide +kernel
theorem dX10_crash_43 : decode cX10_crash 43 = .ok (.aload_n 0, 1) := by decide +kernel
theorem dX10_crash_44 : decode cX10_crash 44 = .ok (.iload_n 1, 1) := by decide +kernel
theorem dX10_crash_45 : decode cX10_crash 45 = .ok (.invokevirtual 190, 3) := by decide +kernel
theorem dX10_crash_48 : decode cX10_crash 48 = .ok (.aload_n 0, 1) := by decide +kernel
theorem dX10_crash_49 : decode cX10_crash 49 = .ok (.iload 4, 2) := by decide +kernel
theorem dX10_crash_51 : decode cX10_crash 51 = .ok (.invokevirtual 190, 3) := by decide +kernel
theorem dX10_crash_54 : decode cX10_crash 54 = .ok (.aload_n 0, 1) := by decide +kernel
theorem dX10_crash_55 : decode cX10_crash 55 = .ok (.iload_n 2, 1) := by decide +kernel
theorem dX10_crash_56 : decode cX10_crash 56 = .ok (.aload_n 0, 1) := by decide +kernel
theorem dX10_crash_57 : decode cX10_crash 57 = .ok (.getfield 26, 3) := by decide +kernel
theorem dX10_crash_60 : decode cX10_crash 60 = .ok (.iload_n 1, 1) := by decide +kernel
theorem dX10_crash_61 : decode cX10_crash 61 = .ok (.iaload, 1) := by decide +kernel
theorem dX10_crash_62 : decode cX10_crash 62 = .ok (.iload_n 3, 1) := by decide +kernel
theorem dX10_crash_63 : decode cX10_crash 63 = .ok (.iload_n 3, 1) := by decide +kernel
theorem dX10_crash_64 : decode cX10_crash 64 = .ok (.bipush 20, 2) := by decide +kernel
theorem dX10_crash_66 : decode cX10_crash 66 = .ok (.iadd, 1) := by decide +kernel
theorem dX10_crash_67 : decode cX10_crash 67 = .ok (.invokevirtual 194, 3) := by decide +kernel
theorem dX10_crash_70 : decode cX10_crash 70 = .ok (.aload_n 0, 1) := by decide +kernel
theorem dX10_crash_71 : decode cX10_crash 71 = .ok (.getfield 51, 3) := by decide +kernel
theorem dX10_crash_74 : decode cX10_crash 74 = .ok (.iload_n 1, 1) := by decide +kernel
theorem dX10_crash_75 : decode cX10_crash 75 = .ok (.iload_n 3, 1) := by decide +kernel
theorem dX10_crash_76 : decode cX10_crash 76 = .ok (.iastore, 1) := by decide +kernel
theorem dX10_crash_77 : decode cX10_crash 77 = .ok (.aload_n 0, 1) := by decide +kernel
theorem dX10_crash_78 : decode cX10_crash 78 = .ok (.getfield 54, 3) := by decide +kernel
theorem dX10_crash_81 : decode cX10_crash 81 = .ok (.iload_n 1, 1) := by decide +kernel
theorem dX10_crash_82 : decode cX10_crash 82 = .ok (.iload_n 3, 1) := by decide +kernel
theorem dX10_crash_83 : decode cX10_crash 83 = .ok (.bipush 20, 2) := by decide +kernel
theorem dX10_crash_85 : decode cX10_crash 85 = .ok (.iadd, 1) := by decide +kernel
theorem dX10_crash_86 : decode cX10_crash 86 = .ok (.iastore, 1) := by decide +kernel
theorem dX10_crash_87 : decode cX10_crash 87 = .ok (.return_, 1) := by decide +kernel
theorem dX10_goThrough_0 : decode cX10_goThrough 0 = .ok (.aload_n 0, 1) := by decide +kernel
theorem dX10_goThrough_1 : decode cX10_goThrough 1 = .ok (.getfield 26, 3) := by decide +kernel
theorem dX10_goThrough_4 : decode cX10_goThrough 4 = .ok (.iload_n 1, 1) := by decide +kernel
theorem dX10_goThrough_5 : decode cX10_goThrough 5 = .ok (.iaload, 1) := by decide +kernel
theorem dX10_goThrough_6 : decode cX10_goThrough 6 = .ok (.istore 4, 2) := by decide +kernel
theorem dX10_goThrough_8 : decode cX10_goThrough 8 = .ok (.aload_n 0, 1) := by decide +kernel
theorem dX10_goThrough_9 : decode cX10_goThrough 9 = .ok (.iload_n 2, 1) := by decide +kernel
theorem dX10_goThrough_10 : decode cX10_goThrough 10 = .ok (.iload_n 3, 1) := by decide +kernel
theorem dX10_goThrough_11 : decode cX10_goThrough 11 = .ok (.invokevirtual 198, 3) := by decide +kernel
theorem dX10_goThrough_14 : decode cX10_goThrough 14 = .ok (.istore 5, 2) := by decide +kernel
theorem dX10_goThrough_16 : decode cX10_goThrough 16 = .ok (.aload_n 0, 1) := by decide +kernel
theorem dX10_goThrough_17 : decode cX10_goThrough 17 = .ok (.iload_n 2, 1) := by decide +kernel
theorem dX10_goThrough_18 : decode cX10_goThrough 18 = .ok (.iload 4, 2) := by decide +kernel
theorem dX10_goThrough_20 : decode cX10_goThrough 20 = .ok (.iload_n 3, 1) := by decide +kernel
theorem dX10_goThrough_21 : decode cX10_goThrough 21 = .ok (.invokevirtual 184, 3) := by decide +kernel
theorem dX10_goThrough_24 : decode cX10_goThrough 24 = .ok (.ifCond .ne 9, 3) := by decide +kernel
theorem dX10_goThrough_27 : decode cX10_goThrough 27 = .ok (.iload 5, 2) := by decide +kernel
theorem dX10_goThrough_29 : decode cX10_goThrough 29 = .ok (.iconst 2, 1) := by decide +kernel
theorem dX10_goThrough_30 : decode cX10_goThrough 30 = .ok (.if_icmp .ne 7, 3) := by decide +kernel
theorem dX10_goThrough_33 : decode cX10_goThrough 33 = .ok (.iconst 1, 1) := by decide +kernel
theorem dX10_goThrough_34 : decode cX10_goThrough 34 = .ok (.goto 4, 3) := by decide +kernel
theorem dX10_goThrough_37 : decode cX10_goThrough 37 = .ok (.iconst 0, 1) := by decide +kernel
theorem dX10_goThrough_38 : decode cX10_goThrough 38 = .ok (.istore 6, 2) := by decide +kernel
theorem dX10_goThrough_40 : decode cX10_goThrough 40 = .ok (.iload 6, 2) := by decide +kernel
theorem dX10_goThrough_42 : decode cX10_goThrough 42 = .ok (.ifCond .eq 32, 3) := by decide +kernel
theorem dX10_goThrough_45 : decode cX10_goThrough 45 = .ok (.aload_n 0, 1) := by decide +kernel
theorem dX10_goThrough_46 : decode cX10_goThrough 46 = .ok (.getfield 48, 3) := by decide +kernel
theorem dX10_goThrough_49 : decode cX10_goThrough 49 = .ok (.iload_n 1, 1) := by decide +kernel
theorem dX10_goThrough_50 : decode cX10_goThrough 50 = .ok (.aload_n 0, 1) := by decide +kernel
theorem dX10_goThrough_51 : decode cX10_goThrough 51 = .ok (.getfield 48, 3) := by decide +kernel
theorem dX10_goThrough_54 : decode cX10_goThrough 54 = .ok (.iload_n 1, 1) := by decide +kernel
theorem dX10_goThrough_55 : decode cX10_goThrough 55 = .ok (.iaload, 1) := by decide +kernel
theorem dX10_goThrough_56 : decode cX10_goThrough 56 = .ok (.iconst 1, 1) := by decide +kernel
theorem dX10_goThrough_57 : decode cX10_goThrough 57 = .ok (.if_icmp .le 12, 3) := by decide +kernel
theorem dX10_goThrough_60 : decode cX10_goThrough 60 = .ok (.aload_n 0, 1) := by decide +kernel
theorem dX10_goThrough_61 : decode cX10_goThrough 61 = .ok (.getfield 48, 3) := by decide +kernel
theorem dX10_goThrough_64 : decode cX10_goThrough 64 = .ok (.iload_n 1, 1) := by decide +kernel
theorem dX10_goThrough_65 : decode cX10_goThrough 65 = .ok (.iaload, 1) := by decide +kernel
theorem dX10_goThrough_66 : decode cX10_goThrough 66 = .ok (.goto 4, 3) := by decide +kernel
theorem dX10_goThrough_69 : decode cX10_goThrough 69 = .ok (.iconst 1, 1) := by decide +kernel
theorem dX10_goThrough_70 : decode cX10_goThrough 70 = .ok (.iastore, 1) := by decide +kernel
theorem dX10_goThrough_71 : decode cX10_goThrough 71 = .ok (.goto 94, 3) := by decide +kernel
theorem dX10_goThrough_74 : decode cX10_goThrough 74 = .ok (.iload_n 2, 1) := by decide +kernel
theorem dX10_goThrough_75 : decode cX10_goThrough 75 = .ok (.iload 4, 2) := by decide +kernel
theorem dX10_goThrough_77 : decode cX10_goThrough 77 = .ok (.if_icmp .ne 7, 3) := by decide +kernel
theorem dX10_goThrough_80 : decode cX10_goThrough 80 = .ok (.iconst 0, 1) := by decide +kernel
theorem dX10_goThrough_81 : decode cX10_goThrough 81 = .ok (.goto 4, 3) := by decide +kernel
theorem dX10_goThrough_84 : decode cX10_goThrough 84 = .ok (.iconst 2, 1) := by decide +kernel
theorem dX10_goThrough_85 : decode cX10_goThrough 85 = .ok (.istore 7, 2) := by decide +kernel
theorem dX10_goThrough_87 : decode cX10_goThrough 87 = .ok (.aload_n 0, 1) := by decide +kernel
theorem dX10_goThrough_88 : decode cX10_goThrough 88 = .ok (.getfield 48, 3) := by decide +kernel
theorem dX10_goThrough_91 : decode cX10_goThrough 91 = .ok (.iload_n 1, 1) := by decide +kernel
theorem dX10_goThrough_92 : decode cX10_goThrough 92 = .ok (.aload_n 0, 1) := by decide +kernel
theorem dX10_goThrough_93 : decode cX10_goThrough 93 = .ok (.getfield 48, 3) := by decide +kernel
theorem dX10_goThrough_96 : decode cX10_goThrough 96 = .ok (.iload_n 1, 1) := by decide +kernel
theorem dX10_goThrough_97 : decode cX10_goThrough 97 = .ok (.iaload, 1) := by decide +kernel
theorem dX10_goThrough_98 : decode cX10_goThrough 98 = .ok (.iload 7, 2) := by decide +kernel
theorem dX10_goThrough_100 : decode cX10_goThrough 100 = .ok (.if_icmp .le 12, 3) := by decide +kernel
theorem dX10_goThrough_103 : decode cX10_goThrough 103 = .ok (.aload_n 0, 1) := by decide +kernel
theorem dX10_goThrough_104 : decode cX10_goThrough 104 = .ok (.getfield 48, 3) := by decide +kernel
theorem dX10_goThrough_107 : decode cX10_goThrough 107 = .ok (.iload_n 1, 1) := by decide +kernel
theorem dX10_goThrough_108 : decode cX10_goThrough 108 = .ok (.iaload, 1) := by decide +kernel
theorem dX10_goThrough_109 : decode cX10_goThrough 109 = .ok (.goto 5, 3) := by decide +kernel
theorem dX10_goThrough_112 : decode cX10_goThrough 112 = .ok (.iload 7, 2) := by decide +kernel
theorem dX10_goThrough_114 : decode cX10_goThrough 114 = .ok (.iastore, 1) := by decide +kernel
theorem dX10_goThrough_115 : decode cX10_goThrough 115 = .ok (.iload 5, 2) := by decide +kernel
theorem dX10_goThrough_117 : decode cX10_goThrough 117 = .ok (.iconst 3, 1) := by decide +kernel
theorem dX10_goThrough_118 : decode cX10_goThrough 118 = .ok (.if_icmp .ne 15, 3) := by decide +kernel
theorem dX10_goThrough_121 : decode cX10_goThrough 121 = .ok (.aload_n 0, 1) := by decide +kernel
theorem dX10_goThrough_122 : decode cX10_goThrough 122 = .ok (.getfield 48, 3) := by decide +kernel
theorem dX10_goThrough_125 : decode cX10_goThrough 125 = .ok (.iload_n 1, 1) := by decide +kernel
theorem dX10_goThrough_126 : decode cX10_goThrough 126 = .ok (.iconst 5, 1) := by decide +kernel
theorem dX10_goThrough_127 : decode cX10_goThrough 127 = .ok (.iastore, 1) := by decide +kernel
theorem dX10_goThrough_128 : decode cX10_goThrough 128 = .ok (.aload_n 0, 1) := by decide +kernel
theorem dX10_goThrough_129 : decode cX10_goThrough 129 = .ok (.iload_n 1, 1) := by decide +kernel
theorem dX10_goThrough_130 : decode cX10_goThrough 130 = .ok (.invokevirtual 190, 3) := by decide +kernel
theorem dX10_goThrough_133 : decode cX10_goThrough 133 = .ok (.aload_n 0, 1) := by decide +kernel
theorem dX10_goThrough_134 : decode cX10_goThrough 134 = .ok (.getfield 72, 3) := by decide +kernel
theorem dX10_goThrough_137 : decode cX10_goThrough 137 = .ok (.iload_n 2, 1) := by decide +kernel
theorem dX10_goThrough_138 : decode cX10_goThrough 138 = .ok (.iload_n 3, 1) := by decide +kernel
theorem dX10_goThrough_139 : decode cX10_goThrough 139 = .ok (.iastore, 1) := by decide +kernel
theorem dX10_goThrough_140 : decode cX10_goThrough 140 = .ok (.aload_n 0, 1) := by decide +kernel
theorem dX10_goThrough_141 : decode cX10_goThrough 141 = .ok (.getfield 75, 3) := by decide +kernel
theorem dX10_goThrough_144 : decode cX10_goThrough 144 = .ok (.iload_n 2, 1) := by decide +kernel
theorem dX10_goThrough_145 : decode cX10_goThrough 145 = .ok (.aload_n 0, 1) := by decide +kernel
theorem dX10_goThrough_146 : decode cX10_goThrough 146 = .ok (.getfield 38, 3) := by decide +kernel
theorem dX10_goThrough_149 : decode cX10_goThrough 149 = .ok (.bipush 12, 2) := by decide +kernel
theorem dX10_goThrough_151 : decode cX10_goThrough 151 = .ok (.iload_n 1, 1) := by decide +kernel
theorem dX10_goThrough_152 : decode cX10_goThrough 152 = .ok (.iadd, 1) := by decide +kernel
theorem dX10_goThrough_153 : decode cX10_goThrough 153 = .ok (.iaload, 1) := by decide +kernel
theorem dX10_goThrough_154 : decode cX10_goThrough 154 = .ok (.iastore, 1) := by decide +kernel
theorem dX10_goThrough_155 : decode cX10_goThrough 155 = .ok (.aload_n 0, 1) := by decide +kernel
theorem dX10_goThrough_156 : decode cX10_goThrough 156 = .ok (.getfield 81, 3) := by decide +kernel
theorem dX10_goThrough_159 : decode cX10_goThrough 159 = .ok (.iload_n 2, 1) := by decide +kernel
theorem dX10_goThrough_160 : decode cX10_goThrough 160 = .ok (.dup2, 1) := by decide +kernel
theorem dX10_goThrough_161 : decode cX10_goThrough 161 = .ok (.iaload, 1) := by decide +kernel
theorem dX10_goThrough_162 : decode cX10_goThrough 162 = .ok (.iconst 1, 1) := by decide +kernel
theorem dX10_goThrough_163 : decode cX10_goThrough 163 = .ok (.iadd, 1) := by decide +kernel
theorem dX10_goThrough_164 : decode cX10_goThrough 164 = .ok (.iastore, 1) := by decide +kernel
theorem dX10_goThrough_165 : decode cX10_goThrough 165 = .ok (.aload_n 0, 1) := by decide +kernel
theorem dX10_goThrough_166 : decode cX10_goThrough 166 = .ok (.iload_n 2, 1) := by decide +kernel
theorem dX10_goThrough_167 : decode cX10_goThrough 167 = .ok (.iload 4, 2) := by decide +kernel
theorem dX10_goThrough_169 : decode cX10_goThrough 169 = .ok (.iload_n 3, 1) := by decide +kernel
theorem dX10_goThrough_170 : decode cX10_goThrough 170 = .ok (.iload_n 3, 1) := by decide +kernel
theorem dX10_goThrough_171 : decode cX10_goThrough 171 = .ok (.aload_n 0, 1) := by decide +kernel
theorem dX10_goThrough_172 : decode cX10_goThrough 172 = .ok (.getfield 29, 3) := by decide +kernel
theorem dX10_goThrough_175 : decode cX10_goThrough 175 = .ok (.iload_n 1, 1) := by decide +kernel
theorem dX10_goThrough_176 : decode cX10_goThrough 176 = .ok (.iaload, 1) := by decide +kernel
theorem dX10_goThrough_177 : decode cX10_goThrough 177 = .ok (.iadd, 1) := by decide +kernel
theorem dX10_goThrough_178 : decode cX10_goThrough 178 = .ok (.invokevirtual 194, 3) := by decide +kernel
theorem dX10_goThrough_181 : decode cX10_goThrough 181 = .ok (.aload_n 0, 1) := by decide +kernel
theorem dX10_goThrough_182 : decode cX10_goThrough 182 = .ok (.getfield 51, 3) := by decide +kernel
theorem dX10_goThrough_185 : decode cX10_goThrough 185 = .ok (.iload_n 1, 1) := by decide +kernel
theorem dX10_goThrough_186 : decode cX10_goThrough 186 = .ok (.iload_n 3, 1) := by decide +kernel
theorem dX10_goThrough_187 : decode cX10_goThrough 187 = .ok (.iastore, 1) := by decide +kernel
theorem dX10_goThrough_188 : decode cX10_goThrough 188 = .ok (.aload_n 0, 1) := by decide +kernel
theorem dX10_goThrough_189 : decode cX10_goThrough 189 = .ok (.getfield 54, 3) := by decide +kernel
theorem dX10_goThrough_192 : decode cX10_goThrough 192 = .ok (.iload_n 1, 1) := by decide +kernel
theorem dX10_goThrough_193 : decode cX10_goThrough 193 = .ok (.iload_n 3, 1) := by decide +kernel
theorem dX10_goThrough_194 : decode cX10_goThrough 194 = .ok (.aload_n 0, 1) := by decide +kernel
theorem dX10_goThrough_195 : decode cX10_goThrough 195 = .ok (.getfield 29, 3) := by decide +kernel
theorem dX10_goThrough_198 : decode cX10_goThrough 198 = .ok (.iload_n 1, 1) := by decide +kernel
theorem dX10_goThrough_199 : decode cX10_goThrough 199 = .ok (.iaload, 1) := by decide +kernel
theorem dX10_goThrough_200 : decode cX10_goThrough 200 = .ok (.iadd, 1) := by decide +kernel
theorem dX10_goThrough_201 : decode cX10_goThrough 201 = .ok (.iastore, 1) := by decide +kernel
theorem dX10_goThrough_202 : decode cX10_goThrough 202 = .ok (.return_, 1) := by decide +kernel
theorem dX10_look_0 : decode cX10_look 0 = .ok (.aload_n 0, 1) := by decide +kernel
theorem dX10_look_1 : decode cX10_look 1 = .ok (.iload_n 1, 1) := by decide +kernel
theorem dX10_look_2 : decode cX10_look 2 = .ok (.invokevirtual 202, 3) := by decide +kernel
theorem dX10_look_5 : decode cX10_look 5 = .ok (.istore_n 2, 1) := by decide +kernel
theorem dX10_look_6 : decode cX10_look 6 = .ok (.aload_n 0, 1) := by decide +kernel
theorem dX10_look_7 : decode cX10_look 7 = .ok (.getfield 26, 3) := by decide +kernel
theorem dX10_look_10 : decode cX10_look 10 = .ok (.iload_n 1, 1) := by decide +kernel
theorem dX10_look_11 : decode cX10_look 11 = .ok (.iaload, 1) := by decide +kernel
theorem dX10_look_12 : decode cX10_look 12 = .ok (.istore_n 3, 1) := by decide +kernel
theorem dX10_look_13 : decode cX10_look 13 = .ok (.aload_n 0, 1) := by decide +kernel
theorem dX10_look_14 : decode cX10_look 14 = .ok (.getfield 38, 3) := by decide +kernel
theorem dX10_look_17 : decode cX10_look 17 = .ok (.iload_n 1, 1) := by decide +kernel
theorem dX10_look_18 : decode cX10_look 18 = .ok (.iaload, 1) := by decide +kernel
theorem dX10_look_19 : decode cX10_look 19 = .ok (.istore 4, 2) := by decide +kernel
theorem dX10_look_21 : decode cX10_look 21 = .ok (.aload_n 0, 1) := by decide +kernel
theorem dX10_look_22 : decode cX10_look 22 = .ok (.getfield 57, 3) := by decide +kernel
theorem dX10_look_25 : decode cX10_look 25 = .ok (.iload_n 1, 1) := by decide +kernel
theorem dX10_look_26 : decode cX10_look 26 = .ok (.iload_n 2, 1) := by decide +kernel
theorem dX10_look_27 : decode cX10_look 27 = .ok (.iastore, 1) := by decide +kernel
theorem dX10_look_28 : decode cX10_look 28 = .ok (.aload_n 0, 1) := by decide +kernel
theorem dX10_look_29 : decode cX10_look 29 = .ok (.getfield 78, 3) := by decide +kernel
theorem dX10_look_32 : decode cX10_look 32 = .ok (.iload_n 2, 1) := by decide +kernel
theorem dX10_look_33 : decode cX10_look 33 = .ok (.dup2, 1) := by decide +kernel
theorem dX10_look_34 : decode cX10_look 34 = .ok (.iaload, 1) := by decide +kernel
theorem dX10_look_35 : decode cX10_look 35 = .ok (.iconst 1, 1) := by decide +kernel
theorem dX10_look_36 : decode cX10_look 36 = .ok (.iadd, 1) := by decide +kernel
theorem dX10_look_37 : decode cX10_look 37 = .ok (.iastore, 1) := by decide +kernel
theorem dX10_look_38 : decode cX10_look 38 = .ok (.aload_n 0, 1) := by decide +kernel
theorem dX10_look_39 : decode cX10_look 39 = .ok (.iload_n 2, 1) := by decide +kernel
theorem dX10_look_40 : decode cX10_look 40 = .ok (.iconst 1, 1) := by decide +kernel
theorem dX10_look_41 : decode cX10_look 41 = .ok (.iload_n 3, 1) := by decide +kernel
theorem dX10_look_42 : decode cX10_look 42 = .ok (.isub, 1) := by decide +kernel
theorem dX10_look_43 : decode cX10_look 43 = .ok (.iload 4, 2) := by decide +kernel
theorem dX10_look_45 : decode cX10_look 45 = .ok (.invokevirtual 184, 3) := by decide +kernel
theorem dX10_look_48 : decode cX10_look 48 = .ok (.ifCond .ne 14, 3) := by decide +kernel
theorem dX10_look_51 : decode cX10_look 51 = .ok (.aload_n 0, 1) := by decide +kernel
theorem dX10_look_52 : decode cX10_look 52 = .ok (.iload_n 1, 1) := by decide +kernel
theorem dX10_look_53 : decode cX10_look 53 = .ok (.iload_n 2, 1) := by decide +kernel
theorem dX10_look_54 : decode cX10_look 54 = .ok (.iload 4, 2) := by decide +kernel
theorem dX10_look_56 : decode cX10_look 56 = .ok (.invokevirtual 206, 3) := by decide +kernel
theorem dX10_look_59 : decode cX10_look 59 = .ok (.goto 110, 3) := by decide +kernel
theorem dX10_look_62 : decode cX10_look 62 = .ok (.aload_n 0, 1) := by decide +kernel
theorem dX10_look_63 : decode cX10_look 63 = .ok (.getfield 38, 3) := by decide +kernel
theorem dX10_look_66 : decode cX10_look 66 = .ok (.bipush 18, 2) := by decide +kernel
theorem dX10_look_68 : decode cX10_look 68 = .ok (.iaload, 1) := by decide +kernel
theorem dX10_look_69 : decode cX10_look 69 = .ok (.iconst 1, 1) := by decide +kernel
theorem dX10_look_70 : decode cX10_look 70 = .ok (.if_icmp .eq 21, 3) := by decide +kernel
theorem dX10_look_73 : decode cX10_look 73 = .ok (.aload_n 0, 1) := by decide +kernel
theorem dX10_look_74 : decode cX10_look 74 = .ok (.getfield 35, 3) := by decide +kernel
theorem dX10_look_77 : decode cX10_look 77 = .ok (.iload_n 1, 1) := by decide +kernel
theorem dX10_look_78 : decode cX10_look 78 = .ok (.iaload, 1) := by decide +kernel
theorem dX10_look_79 : decode cX10_look 79 = .ok (.iconst 1, 1) := by decide +kernel
theorem dX10_look_80 : decode cX10_look 80 = .ok (.if_icmp .ne 83, 3) := by decide +kernel
theorem dX10_look_83 : decode cX10_look 83 = .ok (.aload_n 0, 1) := by decide +kernel
theorem dX10_look_84 : decode cX10_look 84 = .ok (.iload_n 1, 1) := by decide +kernel
theorem dX10_look_85 : decode cX10_look 85 = .ok (.invokevirtual 210, 3) := by decide +kernel
theorem dX10_look_88 : decode cX10_look 88 = .ok (.ifCond .eq 75, 3) := by decide +kernel
theorem dX10_look_91 : decode cX10_look 91 = .ok (.aload_n 0, 1) := by decide +kernel
theorem dX10_look_92 : decode cX10_look 92 = .ok (.getfield 48, 3) := by decide +kernel
theorem dX10_look_95 : decode cX10_look 95 = .ok (.iload_n 1, 1) := by decide +kernel
theorem dX10_look_96 : decode cX10_look 96 = .ok (.aload_n 0, 1) := by decide +kernel
theorem dX10_look_97 : decode cX10_look 97 = .ok (.getfield 38, 3) := by decide +kernel
theorem dX10_look_100 : decode cX10_look 100 = .ok (.bipush 18, 2) := by decide +kernel
theorem dX10_look_102 : decode cX10_look 102 = .ok (.iaload, 1) := by decide +kernel
theorem dX10_look_103 : decode cX10_look 103 = .ok (.iconst 1, 1) := by decide +kernel
theorem dX10_look_104 : decode cX10_look 104 = .ok (.if_icmp .ne 7, 3) := by decide +kernel
theorem dX10_look_107 : decode cX10_look 107 = .ok (.iconst 4, 1) := by decide +kernel
theorem dX10_look_108 : decode cX10_look 108 = .ok (.goto 4, 3) := by decide +kernel
theorem dX10_look_111 : decode cX10_look 111 = .ok (.iconst 3, 1) := by decide +kernel
theorem dX10_look_112 : decode cX10_look 112 = .ok (.iastore, 1) := by decide +kernel
theorem dX10_look_113 : decode cX10_look 113 = .ok (.aload_n 0, 1) := by decide +kernel
theorem dX10_look_114 : decode cX10_look 114 = .ok (.getfield 69, 3) := by decide +kernel
theorem dX10_look_117 : decode cX10_look 117 = .ok (.iconst 2, 1) := by decide +kernel
theorem dX10_look_118 : decode cX10_look 118 = .ok (.iload_n 2, 1) := by decide +kernel
theorem dX10_look_119 : decode cX10_look 119 = .ok (.imul, 1) := by decide +kernel
theorem dX10_look_120 : decode cX10_look 120 = .ok (.iconst 1, 1) := by decide +kernel
theorem dX10_look_121 : decode cX10_look 121 = .ok (.iadd, 1) := by decide +kernel
theorem dX10_look_122 : decode cX10_look 122 = .ok (.iload_n 3, 1) := by decide +kernel
theorem dX10_look_123 : decode cX10_look 123 = .ok (.isub, 1) := by decide +kernel
theorem dX10_look_124 : decode cX10_look 124 = .ok (.iaload, 1) := by decide +kernel
theorem dX10_look_125 : decode cX10_look 125 = .ok (.istore 5, 2) := by decide +kernel
theorem dX10_look_127 : decode cX10_look 127 = .ok (.aload_n 0, 1) := by decide +kernel
theorem dX10_look_128 : decode cX10_look 128 = .ok (.getfield 60, 3) := by decide +kernel
theorem dX10_look_131 : decode cX10_look 131 = .ok (.iload_n 1, 1) := by decide +kernel
theorem dX10_look_132 : decode cX10_look 132 = .ok (.iload 5, 2) := by decide +kernel
theorem dX10_look_134 : decode cX10_look 134 = .ok (.iload 4, 2) := by decide +kernel
theorem dX10_look_136 : decode cX10_look 136 = .ok (.isub, 1) := by decide +kernel
theorem dX10_look_137 : decode cX10_look 137 = .ok (.iastore, 1) := by decide +kernel
theorem dX10_look_138 : decode cX10_look 138 = .ok (.aload_n 0, 1) := by decide +kernel
theorem dX10_look_139 : decode cX10_look 139 = .ok (.dup, 1) := by decide +kernel
theorem dX10_look_140 : decode cX10_look 140 = .ok (.getfield 213, 3) := by decide +kernel
theorem dX10_look_143 : decode cX10_look 143 = .ok (.iload 5, 2) := by decide +kernel
theorem dX10_look_145 : decode cX10_look 145 = .ok (.iload 4, 2) := by decide +kernel
theorem dX10_look_147 : decode cX10_look 147 = .ok (.isub, 1) := by decide +kernel
theorem dX10_look_148 : decode cX10_look 148 = .ok (.iadd, 1) := by decide +kernel
theorem dX10_look_149 : decode cX10_look 149 = .ok (.putfield 213, 3) := by decide +kernel
theorem dX10_look_152 : decode cX10_look 152 = .ok (.aload_n 0, 1) := by decide +kernel
theorem dX10_look_153 : decode cX10_look 153 = .ok (.iload_n 1, 1) := by decide +kernel
theorem dX10_look_154 : decode cX10_look 154 = .ok (.iload_n 2, 1) := by decide +kernel
theorem dX10_look_155 : decode cX10_look 155 = .ok (.iload 5, 2) := by decide +kernel
theorem dX10_look_157 : decode cX10_look 157 = .ok (.invokevirtual 206, 3) := by decide +kernel
theorem dX10_look_160 : decode cX10_look 160 = .ok (.goto 9, 3) := by decide +kernel
theorem dX10_look_163 : decode cX10_look 163 = .ok (.aload_n 0, 1) := by decide +kernel
theorem dX10_look_164 : decode cX10_look 164 = .ok (.iload_n 1, 1) := by decide +kernel
theorem dX10_look_165 : decode cX10_look 165 = .ok (.iload_n 2, 1) := by decide +kernel
theorem dX10_look_166 : decode cX10_look 166 = .ok (.invokevirtual 216, 3) := by decide +kernel
theorem dX10_look_169 : decode cX10_look 169 = .ok (.aload_n 0, 1) := by decide +kernel
theorem dX10_look_170 : decode cX10_look 170 = .ok (.getfield 84, 3) := by decide +kernel
theorem dX10_look_173 : decode cX10_look 173 = .ok (.iconst 2, 1) := by decide +kernel
theorem dX10_look_174 : decode cX10_look 174 = .ok (.iload_n 2, 1) := by decide +kernel
theorem dX10_look_175 : decode cX10_look 175 = .ok (.imul, 1) := by decide +kernel
theorem dX10_look_176 : decode cX10_look 176 = .ok (.iload_n 3, 1) := by decide +kernel
theorem dX10_look_177 : decode cX10_look 177 = .ok (.iadd, 1) := by decide +kernel
theorem dX10_look_178 : decode cX10_look 178 = .ok (.iload_n 1, 1) := by decide +kernel
theorem dX10_look_179 : decode cX10_look 179 = .ok (.iastore, 1) := by decide +kernel
theorem dX10_look_180 : decode cX10_look 180 = .ok (.return_, 1) := by decide +kernel
theorem dX10_costNow_0 : decode cX10_costNow 0 = .ok (.iconst 0, 1) := by decide +kernel
theorem dX10_costNow_1 : decode cX10_costNow 1 = .ok (.istore_n 1, 1) := by decide +kernel
theorem dX10_costNow_2 : decode cX10_costNow 2 = .ok (.iload_n 1, 1) := by decide +kernel
theorem dX10_costNow_3 : decode cX10_costNow 3 = .ok (.iconst 4, 1) := by decide +kernel
theorem dX10_costNow_4 : decode cX10_costNow 4 = .ok (.if_icmp .ge 30, 3) := by decide +kernel
theorem dX10_costNow_7 : decode cX10_costNow 7 = .ok (.aload_n 0, 1) := by decide +kernel
theorem dX10_costNow_8 : decode cX10_costNow 8 = .ok (.getfield 66, 3) := by decide +kernel
theorem dX10_costNow_11 : decode cX10_costNow 11 = .ok (.iload_n 1, 1) := by decide +kernel
theorem dX10_costNow_12 : decode cX10_costNow 12 = .ok (.iconst 0, 1) := by decide +kernel
theorem dX10_costNow_13 : decode cX10_costNow 13 = .ok (.iastore, 1) := by decide +kernel
theorem dX10_costNow_14 : decode cX10_costNow 14 = .ok (.aload_n 0, 1) := by decide +kernel
theorem dX10_costNow_15 : decode cX10_costNow 15 = .ok (.getfield 69, 3) := by decide +kernel
theorem dX10_costNow_18 : decode cX10_costNow 18 = .ok (.iload_n 1, 1) := by decide +kernel
theorem dX10_costNow_19 : decode cX10_costNow 19 = .ok (.iconst 0, 1) := by decide +kernel
theorem dX10_costNow_20 : decode cX10_costNow 20 = .ok (.iastore, 1) := by decide +kernel
theorem dX10_costNow_21 : decode cX10_costNow 21 = .ok (.aload_n 0, 1) := by decide +kernel
theorem dX10_costNow_22 : decode cX10_costNow 22 = .ok (.getfield 84, 3) := by decide +kernel
theorem dX10_costNow_25 : decode cX10_costNow 25 = .ok (.iload_n 1, 1) := by decide +kernel
theorem dX10_costNow_26 : decode cX10_costNow 26 = .ok (.iconst (-1), 1) := by decide +kernel
theorem dX10_costNow_27 : decode cX10_costNow 27 = .ok (.iastore, 1) := by decide +kernel
theorem dX10_costNow_28 : decode cX10_costNow 28 = .ok (.iinc 1 1, 3) := by decide +kernel
theorem dX10_costNow_31 : decode cX10_costNow 31 = .ok (.goto (-29), 3) := by decide +kernel
theorem dX10_costNow_34 : decode cX10_costNow 34 = .ok (.iconst 0, 1) := by decide +kernel
theorem dX10_costNow_35 : decode cX10_costNow 35 = .ok (.istore_n 1, 1) := by decide +kernel
theorem dX10_costNow_36 : decode cX10_costNow 36 = .ok (.iload_n 1, 1) := by decide +kernel
theorem dX10_costNow_37 : decode cX10_costNow 37 = .ok (.iconst 2, 1) := by decide +kernel
theorem dX10_costNow_38 : decode cX10_costNow 38 = .ok (.if_icmp .ge 30, 3) := by decide +kernel
theorem dX10_costNow_41 : decode cX10_costNow 41 = .ok (.aload_n 0, 1) := by decide +kernel
theorem dX10_costNow_42 : decode cX10_costNow 42 = .ok (.getfield 75, 3) := by decide +kernel
theorem dX10_costNow_45 : decode cX10_costNow 45 = .ok (.iload_n 1, 1) := by decide +kernel
theorem dX10_costNow_46 : decode cX10_costNow 46 = .ok (.iconst 0, 1) := by decide +kernel
theorem dX10_costNow_47 : decode cX10_costNow 47 = .ok (.iastore, 1) := by decide +kernel
theorem dX10_costNow_48 : decode cX10_costNow 48 = .ok (.aload_n 0, 1) := by decide +kernel
theorem dX10_costNow_49 : decode cX10_costNow 49 = .ok (.getfield 78, 3) := by decide +kernel
theorem dX10_costNow_52 : decode cX10_costNow 52 = .ok (.iload_n 1, 1) := by decide +kernel
theorem dX10_costNow_53 : decode cX10_costNow 53 = .ok (.iconst 0, 1) := by decide +kernel
theorem dX10_costNow_54 : decode cX10_costNow 54 = .ok (.iastore, 1) := by decide +kernel
theorem dX10_costNow_55 : decode cX10_costNow 55 = .ok (.aload_n 0, 1) := by decide +kernel
theorem dX10_costNow_56 : decode cX10_costNow 56 = .ok (.getfield 81, 3) := by decide +kernel
theorem dX10_costNow_59 : decode cX10_costNow 59 = .ok (.iload_n 1, 1) := by decide +kernel
theorem dX10_costNow_60 : decode cX10_costNow 60 = .ok (.iconst 0, 1) := by decide +kernel
theorem dX10_costNow_61 : decode cX10_costNow 61 = .ok (.iastore, 1) := by decide +kernel
theorem dX10_costNow_62 : decode cX10_costNow 62 = .ok (.iinc 1 1, 3) := by decide +kernel
theorem dX10_costNow_65 : decode cX10_costNow 65 = .ok (.goto (-29), 3) := by decide +kernel
theorem dX10_costNow_68 : decode cX10_costNow 68 = .ok (.aload_n 0, 1) := by decide +kernel
theorem dX10_costNow_69 : decode cX10_costNow 69 = .ok (.iconst 0, 1) := by decide +kernel
theorem dX10_costNow_70 : decode cX10_costNow 70 = .ok (.putfield 213, 3) := by decide +kernel
theorem dX10_costNow_73 : decode cX10_costNow 73 = .ok (.aload_n 0, 1) := by decide +kernel
theorem dX10_costNow_74 : decode cX10_costNow 74 = .ok (.iconst 0, 1) := by decide +kernel
theorem dX10_costNow_75 : decode cX10_costNow 75 = .ok (.putfield 187, 3) := by decide +kernel
theorem dX10_costNow_78 : decode cX10_costNow 78 = .ok (.iconst 0, 1) := by decide +kernel
theorem dX10_costNow_79 : decode cX10_costNow 79 = .ok (.istore_n 1, 1) := by decide +kernel
theorem dX10_costNow_80 : decode cX10_costNow 80 = .ok (.iload_n 1, 1) := by decide +kernel
theorem dX10_costNow_81 : decode cX10_costNow 81 = .ok (.aload_n 0, 1) := by decide +kernel
theorem dX10_costNow_82 : decode cX10_costNow 82 = .ok (.getfield 105, 3) := by decide +kernel
theorem dX10_costNow_85 : decode cX10_costNow 85 = .ok (.if_icmp .ge 30, 3) := by decide +kernel
theorem dX10_costNow_88 : decode cX10_costNow 88 = .ok (.aload_n 0, 1) := by decide +kernel
theorem dX10_costNow_89 : decode cX10_costNow 89 = .ok (.getfield 48, 3) := by decide +kernel
theorem dX10_costNow_92 : decode cX10_costNow 92 = .ok (.iload_n 1, 1) := by decide +kernel
theorem dX10_costNow_93 : decode cX10_costNow 93 = .ok (.iconst 0, 1) := by decide +kernel
theorem dX10_costNow_94 : decode cX10_costNow 94 = .ok (.iastore, 1) := by decide +kernel
theorem dX10_costNow_95 : decode cX10_costNow 95 = .ok (.aload_n 0, 1) := by decide +kernel
theorem dX10_costNow_96 : decode cX10_costNow 96 = .ok (.getfield 60, 3) := by decide +kernel
theorem dX10_costNow_99 : decode cX10_costNow 99 = .ok (.iload_n 1, 1) := by decide +kernel
theorem dX10_costNow_100 : decode cX10_costNow 100 = .ok (.iconst 0, 1) := by decide +kernel
theorem dX10_costNow_101 : decode cX10_costNow 101 = .ok (.iastore, 1) := by decide +kernel
theorem dX10_costNow_102 : decode cX10_costNow 102 = .ok (.aload_n 0, 1) := by decide +kernel
theorem dX10_costNow_103 : decode cX10_costNow 103 = .ok (.getfield 63, 3) := by decide +kernel
theorem dX10_costNow_106 : decode cX10_costNow 106 = .ok (.iload_n 1, 1) := by decide +kernel
theorem dX10_costNow_107 : decode cX10_costNow 107 = .ok (.iconst 0, 1) := by decide +kernel
theorem dX10_costNow_108 : decode cX10_costNow 108 = .ok (.bastore, 1) := by decide +kernel
theorem dX10_costNow_109 : decode cX10_costNow 109 = .ok (.iinc 1 1, 3) := by decide +kernel
theorem dX10_costNow_112 : decode cX10_costNow 112 = .ok (.goto (-32), 3) := by decide +kernel
theorem dX10_costNow_115 : decode cX10_costNow 115 = .ok (.iconst 0, 1) := by decide +kernel
theorem dX10_costNow_116 : decode cX10_costNow 116 = .ok (.istore_n 1, 1) := by decide +kernel
theorem dX10_costNow_117 : decode cX10_costNow 117 = .ok (.iconst 0, 1) := by decide +kernel
theorem dX10_costNow_118 : decode cX10_costNow 118 = .ok (.istore_n 2, 1) := by decide +kernel
theorem dX10_costNow_119 : decode cX10_costNow 119 = .ok (.iload_n 2, 1) := by decide +kernel
theorem dX10_costNow_120 : decode cX10_costNow 120 = .ok (.aload_n 0, 1) := by decide +kernel
theorem dX10_costNow_121 : decode cX10_costNow 121 = .ok (.getfield 105, 3) := by decide +kernel
theorem dX10_costNow_124 : decode cX10_costNow 124 = .ok (.if_icmp .ge 89, 3) := by decide +kernel
theorem dX10_costNow_127 : decode cX10_costNow 127 = .ok (.iconst (-1), 1) := by decide +kernel
theorem dX10_costNow_128 : decode cX10_costNow 128 = .ok (.istore_n 3, 1) := by decide +kernel
theorem dX10_costNow_129 : decode cX10_costNow 129 = .ok (.iconst 0, 1) := by decide +kernel
theorem dX10_costNow_130 : decode cX10_costNow 130 = .ok (.istore 4, 2) := by decide +kernel
theorem dX10_costNow_132 : decode cX10_costNow 132 = .ok (.iload 4, 2) := by decide +kernel
theorem dX10_costNow_134 : decode cX10_costNow 134 = .ok (.aload_n 0, 1) := by decide +kernel
theorem dX10_costNow_135 : decode cX10_costNow 135 = .ok (.getfield 105, 3) := by decide +kernel
theorem dX10_costNow_138 : decode cX10_costNow 138 = .ok (.if_icmp .ge 58, 3) := by decide +kernel
theorem dX10_costNow_141 : decode cX10_costNow 141 = .ok (.iload_n 1, 1) := by decide +kernel
theorem dX10_costNow_142 : decode cX10_costNow 142 = .ok (.iload 4, 2) := by decide +kernel
theorem dX10_costNow_144 : decode cX10_costNow 144 = .ok (.ishr, 1) := by decide +kernel
theorem dX10_costNow_145 : decode cX10_costNow 145 = .ok (.iconst 1, 1) := by decide +kernel
theorem dX10_costNow_146 : decode cX10_costNow 146 = .ok (.iand, 1) := by decide +kernel
theorem dX10_costNow_147 : decode cX10_costNow 147 = .ok (.ifCond .ne 7, 3) := by decide +kernel
theorem dX10_costNow_150 : decode cX10_costNow 150 = .ok (.iconst 1, 1) := by decide +kernel
theorem dX10_costNow_151 : decode cX10_costNow 151 = .ok (.goto 4, 3) := by decide +kernel
theorem dX10_costNow_154 : decode cX10_costNow 154 = .ok (.iconst 0, 1) := by decide +kernel
theorem dX10_costNow_155 : decode cX10_costNow 155 = .ok (.istore 5, 2) := by decide +kernel
theorem dX10_costNow_157 : decode cX10_costNow 157 = .ok (.iload 5, 2) := by decide +kernel
theorem dX10_costNow_159 : decode cX10_costNow 159 = .ok (.ifCond .eq 29, 3) := by decide +kernel
theorem dX10_costNow_162 : decode cX10_costNow 162 = .ok (.iload_n 3, 1) := by decide +kernel
theorem dX10_costNow_163 : decode cX10_costNow 163 = .ok (.iconst (-1), 1) := by decide +kernel
theorem dX10_costNow_164 : decode cX10_costNow 164 = .ok (.if_icmp .eq 19, 3) := by decide +kernel
theorem dX10_costNow_167 : decode cX10_costNow 167 = .ok (.aload_n 0, 1) := by decide +kernel
theorem dX10_costNow_168 : decode cX10_costNow 168 = .ok (.getfield 38, 3) := by decide +kernel
theorem dX10_costNow_171 : decode cX10_costNow 171 = .ok (.iload 4, 2) := by decide +kernel
theorem dX10_costNow_173 : decode cX10_costNow 173 = .ok (.iaload, 1) := by decide +kernel
theorem dX10_costNow_174 : decode cX10_costNow 174 = .ok (.aload_n 0, 1) := by decide +kernel
theorem dX10_costNow_175 : decode cX10_costNow 175 = .ok (.getfield 38, 3) := by decide +kernel
theorem dX10_costNow_178 : decode cX10_costNow 178 = .ok (.iload_n 3, 1) := by decide +kernel
theorem dX10_costNow_179 : decode cX10_costNow 179 = .ok (.iaload, 1) := by decide +kernel
theorem dX10_costNow_180 : decode cX10_costNow 180 = .ok (.if_icmp .ge 8, 3) := by decide +kernel
theorem dX10_costNow_183 : decode cX10_costNow 183 = .ok (.iload 4, 2) := by decide +kernel
theorem dX10_costNow_185 : decode cX10_costNow 185 = .ok (.goto 4, 3) := by decide +kernel
theorem dX10_costNow_188 : decode cX10_costNow 188 = .ok (.iload_n 3, 1) := by decide +kernel
theorem dX10_costNow_189 : decode cX10_costNow 189 = .ok (.istore_n 3, 1) := by decide +kernel
theorem dX10_costNow_190 : decode cX10_costNow 190 = .ok (.iinc 4 1, 3) := by decide +kernel
theorem dX10_costNow_193 : decode cX10_costNow 193 = .ok (.goto (-61), 3) := by decide +kernel
theorem dX10_costNow_196 : decode cX10_costNow 196 = .ok (.iload_n 1, 1) := by decide +kernel
theorem dX10_costNow_197 : decode cX10_costNow 197 = .ok (.iconst 1, 1) := by decide +kernel
theorem dX10_costNow_198 : decode cX10_costNow 198 = .ok (.iload_n 3, 1) := by decide +kernel
theorem dX10_costNow_199 : decode cX10_costNow 199 = .ok (.ishl, 1) := by decide +kernel
theorem dX10_costNow_200 : decode cX10_costNow 200 = .ok (.ior, 1) := by decide +kernel
theorem dX10_costNow_201 : decode cX10_costNow 201 = .ok (.istore_n 1, 1) := by decide +kernel
theorem dX10_costNow_202 : decode cX10_costNow 202 = .ok (.aload_n 0, 1) := by decide +kernel
theorem dX10_costNow_203 : decode cX10_costNow 203 = .ok (.iload_n 3, 1) := by decide +kernel
theorem dX10_costNow_204 : decode cX10_costNow 204 = .ok (.invokevirtual 220, 3) := by decide +kernel
theorem dX10_costNow_207 : decode cX10_costNow 207 = .ok (.iinc 2 1, 3) := by decide +kernel
theorem dX10_costNow_210 : decode cX10_costNow 210 = .ok (.goto (-91), 3) := by decide +kernel
theorem dX10_costNow_213 : decode cX10_costNow 213 = .ok (.bipush 10, 2) := by decide +kernel
theorem dX10_costNow_215 : decode cX10_costNow 215 = .ok (.aload_n 0, 1) := by decide +kernel
theorem dX10_costNow_216 : decode cX10_costNow 216 = .ok (.getfield 187, 3) := by decide +kernel
theorem dX10_costNow_219 : decode cX10_costNow 219 = .ok (.imul, 1) := by decide +kernel
theorem dX10_costNow_220 : decode cX10_costNow 220 = .ok (.aload_n 0, 1) := by decide +kernel
theorem dX10_costNow_221 : decode cX10_costNow 221 = .ok (.getfield 213, 3) := by decide +kernel
theorem dX10_costNow_224 : decode cX10_costNow 224 = .ok (.iadd, 1) := by decide +kernel
theorem dX10_costNow_225 : decode cX10_costNow 225 = .ok (.ireturn, 1) := by decide +kernel
theorem dX10_hold_0 : decode cX10_hold 0 = .ok (.iconst 0, 1) := by decide +kernel
theorem dX10_hold_1 : decode cX10_hold 1 = .ok (.istore_n 1, 1) := by decide +kernel
theorem dX10_hold_2 : decode cX10_hold 2 = .ok (.iload_n 1, 1) := by decide +kernel
theorem dX10_hold_3 : decode cX10_hold 3 = .ok (.bipush 21, 2) := by decide +kernel
theorem dX10_hold_5 : decode cX10_hold 5 = .ok (.if_icmp .ge 21, 3) := by decide +kernel
theorem dX10_hold_8 : decode cX10_hold 8 = .ok (.aload_n 0, 1) := by decide +kernel
theorem dX10_hold_9 : decode cX10_hold 9 = .ok (.getfield 87, 3) := by decide +kernel
theorem dX10_hold_12 : decode cX10_hold 12 = .ok (.iload_n 1, 1) := by decide +kernel
theorem dX10_hold_13 : decode cX10_hold 13 = .ok (.aload_n 0, 1) := by decide +kernel
theorem dX10_hold_14 : decode cX10_hold 14 = .ok (.getfield 38, 3) := by decide +kernel
theorem dX10_hold_17 : decode cX10_hold 17 = .ok (.iload_n 1, 1) := by decide +kernel
theorem dX10_hold_18 : decode cX10_hold 18 = .ok (.iaload, 1) := by decide +kernel
theorem dX10_hold_19 : decode cX10_hold 19 = .ok (.iastore, 1) := by decide +kernel
theorem dX10_hold_20 : decode cX10_hold 20 = .ok (.iinc 1 1, 3) := by decide +kernel
theorem dX10_hold_23 : decode cX10_hold 23 = .ok (.goto (-21), 3) := by decide +kernel
theorem dX10_hold_26 : decode cX10_hold 26 = .ok (.return_, 1) := by decide +kernel
theorem dX10_release_0 : decode cX10_release 0 = .ok (.iconst 0, 1) := by decide +kernel
theorem dX10_release_1 : decode cX10_release 1 = .ok (.istore_n 1, 1) := by decide +kernel
theorem dX10_release_2 : decode cX10_release 2 = .ok (.iload_n 1, 1) := by decide +kernel
theorem dX10_release_3 : decode cX10_release 3 = .ok (.bipush 21, 2) := by decide +kernel
theorem dX10_release_5 : decode cX10_release 5 = .ok (.if_icmp .ge 21, 3) := by decide +kernel
theorem dX10_release_8 : decode cX10_release 8 = .ok (.aload_n 0, 1) := by decide +kernel
theorem dX10_release_9 : decode cX10_release 9 = .ok (.getfield 38, 3) := by decide +kernel
theorem dX10_release_12 : decode cX10_release 12 = .ok (.iload_n 1, 1) := by decide +kernel
theorem dX10_release_13 : decode cX10_release 13 = .ok (.aload_n 0, 1) := by decide +kernel
theorem dX10_release_14 : decode cX10_release 14 = .ok (.getfield 87, 3) := by decide +kernel
theorem dX10_release_17 : decode cX10_release 17 = .ok (.iload_n 1, 1) := by decide +kernel
theorem dX10_release_18 : decode cX10_release 18 = .ok (.iaload, 1) := by decide +kernel
theorem dX10_release_19 : decode cX10_release 19 = .ok (.iastore, 1) := by decide +kernel
theorem dX10_release_20 : decode cX10_release 20 = .ok (.iinc 1 1, 3) := by decide +kernel
theorem dX10_release_23 : decode cX10_release 23 = .ok (.goto (-21), 3) := by decide +kernel
theorem dX10_release_26 : decode cX10_release 26 = .ok (.return_, 1) := by decide +kernel
theorem dX10_told_0 : decode cX10_told 0 = .ok (.aload_n 0, 1) := by decide +kernel
theorem dX10_told_1 : decode cX10_told 1 = .ok (.invokevirtual 223, 3) := by decide +kernel
theorem dX10_told_4 : decode cX10_told 4 = .ok (.istore_n 2, 1) := by decide +kernel
theorem dX10_told_5 : decode cX10_told 5 = .ok (.iconst 0, 1) := by decide +kernel
theorem dX10_told_6 : decode cX10_told 6 = .ok (.istore_n 3, 1) := by decide +kernel
theorem dX10_told_7 : decode cX10_told 7 = .ok (.iconst 0, 1) := by decide +kernel
theorem dX10_told_8 : decode cX10_told 8 = .ok (.istore 4, 2) := by decide +kernel
theorem dX10_told_10 : decode cX10_told 10 = .ok (.iconst 0, 1) := by decide +kernel
theorem dX10_told_11 : decode cX10_told 11 = .ok (.istore 5, 2) := by decide +kernel
theorem dX10_told_13 : decode cX10_told 13 = .ok (.iconst 0, 1) := by decide +kernel
theorem dX10_told_14 : decode cX10_told 14 = .ok (.istore 6, 2) := by decide +kernel
theorem dX10_told_16 : decode cX10_told 16 = .ok (.iload 6, 2) := by decide +kernel
theorem dX10_told_18 : decode cX10_told 18 = .ok (.aload_n 0, 1) := by decide +kernel
theorem dX10_told_19 : decode cX10_told 19 = .ok (.getfield 105, 3) := by decide +kernel
theorem dX10_told_22 : decode cX10_told 22 = .ok (.if_icmp .ge 75, 3) := by decide +kernel
theorem dX10_told_25 : decode cX10_told 25 = .ok (.aload_n 0, 1) := by decide +kernel
theorem dX10_told_26 : decode cX10_told 26 = .ok (.getfield 54, 3) := by decide +kernel
theorem dX10_told_29 : decode cX10_told 29 = .ok (.iload 6, 2) := by decide +kernel
theorem dX10_told_31 : decode cX10_told 31 = .ok (.iaload, 1) := by decide +kernel
theorem dX10_told_32 : decode cX10_told 32 = .ok (.iload_n 3, 1) := by decide +kernel
theorem dX10_told_33 : decode cX10_told 33 = .ok (.if_icmp .le 13, 3) := by decide +kernel
theorem dX10_told_36 : decode cX10_told 36 = .ok (.aload_n 0, 1) := by decide +kernel
theorem dX10_told_37 : decode cX10_told 37 = .ok (.getfield 54, 3) := by decide +kernel
theorem dX10_told_40 : decode cX10_told 40 = .ok (.iload 6, 2) := by decide +kernel
theorem dX10_told_42 : decode cX10_told 42 = .ok (.iaload, 1) := by decide +kernel
theorem dX10_told_43 : decode cX10_told 43 = .ok (.goto 4, 3) := by decide +kernel
theorem dX10_told_46 : decode cX10_told 46 = .ok (.iload_n 3, 1) := by decide +kernel
theorem dX10_told_47 : decode cX10_told 47 = .ok (.istore_n 3, 1) := by decide +kernel
theorem dX10_told_48 : decode cX10_told 48 = .ok (.iload 4, 2) := by decide +kernel
theorem dX10_told_50 : decode cX10_told 50 = .ok (.aload_n 0, 1) := by decide +kernel
theorem dX10_told_51 : decode cX10_told 51 = .ok (.getfield 48, 3) := by decide +kernel
theorem dX10_told_54 : decode cX10_told 54 = .ok (.iload 6, 2) := by decide +kernel
theorem dX10_told_56 : decode cX10_told 56 = .ok (.iaload, 1) := by decide +kernel
theorem dX10_told_57 : decode cX10_told 57 = .ok (.bipush 6, 2) := by decide +kernel
theorem dX10_told_59 : decode cX10_told 59 = .ok (.if_icmp .ne 7, 3) := by decide +kernel
theorem dX10_told_62 : decode cX10_told 62 = .ok (.iconst 1, 1) := by decide +kernel
theorem dX10_told_63 : decode cX10_told 63 = .ok (.goto 4, 3) := by decide +kernel
theorem dX10_told_66 : decode cX10_told 66 = .ok (.iconst 0, 1) := by decide +kernel
theorem dX10_told_67 : decode cX10_told 67 = .ok (.iadd, 1) := by decide +kernel
theorem dX10_told_68 : decode cX10_told 68 = .ok (.istore 4, 2) := by decide +kernel
theorem dX10_told_70 : decode cX10_told 70 = .ok (.iload 5, 2) := by decide +kernel
theorem dX10_told_72 : decode cX10_told 72 = .ok (.aload_n 0, 1) := by decide +kernel
theorem dX10_told_73 : decode cX10_told 73 = .ok (.getfield 48, 3) := by decide +kernel
theorem dX10_told_76 : decode cX10_told 76 = .ok (.iload 6, 2) := by decide +kernel
theorem dX10_told_78 : decode cX10_told 78 = .ok (.iaload, 1) := by decide +kernel
theorem dX10_told_79 : decode cX10_told 79 = .ok (.iconst 5, 1) := by decide +kernel
theorem dX10_told_80 : decode cX10_told 80 = .ok (.if_icmp .ne 7, 3) := by decide +kernel
theorem dX10_told_83 : decode cX10_told 83 = .ok (.iconst 1, 1) := by decide +kernel
theorem dX10_told_84 : decode cX10_told 84 = .ok (.goto 4, 3) := by decide +kernel
theorem dX10_told_87 : decode cX10_told 87 = .ok (.iconst 0, 1) := by decide +kernel
theorem dX10_told_88 : decode cX10_told 88 = .ok (.iadd, 1) := by decide +kernel
theorem dX10_told_89 : decode cX10_told 89 = .ok (.istore 5, 2) := by decide +kernel
theorem dX10_told_91 : decode cX10_told 91 = .ok (.iinc 6 1, 3) := by decide +kernel
theorem dX10_told_94 : decode cX10_told 94 = .ok (.goto (-78), 3) := by decide +kernel
theorem dX10_told_97 : decode cX10_told 97 = .ok (.iload_n 1, 1) := by decide +kernel
theorem dX10_told_98 : decode cX10_told 98 = .ok (.tableswitch 109 0 10 #[58, 63, 68, 76, 84, 89, 94, 99, 101, 104, 107], 58) := by decide +kernel
theorem dX10_told_156 : decode cX10_told 156 = .ok (.aload_n 0, 1) := by decide +kernel
theorem dX10_told_157 : decode cX10_told 157 = .ok (.getfield 105, 3) := by decide +kernel
theorem dX10_told_160 : decode cX10_told 160 = .ok (.ireturn, 1) := by decide +kernel
theorem dX10_told_161 : decode cX10_told 161 = .ok (.aload_n 0, 1) := by decide +kernel
theorem dX10_told_162 : decode cX10_told 162 = .ok (.getfield 113, 3) := by decide +kernel
theorem dX10_told_165 : decode cX10_told 165 = .ok (.ireturn, 1) := by decide +kernel
theorem dX10_told_166 : decode cX10_told 166 = .ok (.aload_n 0, 1) := by decide +kernel
theorem dX10_told_167 : decode cX10_told 167 = .ok (.getfield 38, 3) := by decide +kernel
theorem dX10_told_170 : decode cX10_told 170 = .ok (.bipush 18, 2) := by decide +kernel
theorem dX10_told_172 : decode cX10_told 172 = .ok (.iaload, 1) := by decide +kernel
theorem dX10_told_173 : decode cX10_told 173 = .ok (.ireturn, 1) := by decide +kernel
theorem dX10_told_174 : decode cX10_told 174 = .ok (.aload_n 0, 1) := by decide +kernel
theorem dX10_told_175 : decode cX10_told 175 = .ok (.getfield 38, 3) := by decide +kernel
theorem dX10_told_178 : decode cX10_told 178 = .ok (.bipush 19, 2) := by decide +kernel
theorem dX10_told_180 : decode cX10_told 180 = .ok (.iaload, 1) := by decide +kernel
theorem dX10_told_181 : decode cX10_told 181 = .ok (.ireturn, 1) := by decide +kernel
theorem dX10_told_182 : decode cX10_told 182 = .ok (.aload_n 0, 1) := by decide +kernel
theorem dX10_told_183 : decode cX10_told 183 = .ok (.getfield 181, 3) := by decide +kernel
theorem dX10_told_186 : decode cX10_told 186 = .ok (.ireturn, 1) := by decide +kernel
theorem dX10_told_187 : decode cX10_told 187 = .ok (.aload_n 0, 1) := by decide +kernel
theorem dX10_told_188 : decode cX10_told 188 = .ok (.getfield 213, 3) := by decide +kernel
theorem dX10_told_191 : decode cX10_told 191 = .ok (.ireturn, 1) := by decide +kernel
theorem dX10_told_192 : decode cX10_told 192 = .ok (.aload_n 0, 1) := by decide +kernel
theorem dX10_told_193 : decode cX10_told 193 = .ok (.getfield 187, 3) := by decide +kernel
theorem dX10_told_196 : decode cX10_told 196 = .ok (.ireturn, 1) := by decide +kernel
theorem dX10_told_197 : decode cX10_told 197 = .ok (.iload_n 2, 1) := by decide +kernel
theorem dX10_told_198 : decode cX10_told 198 = .ok (.ireturn, 1) := by decide +kernel
theorem dX10_told_199 : decode cX10_told 199 = .ok (.iload 4, 2) := by decide +kernel
theorem dX10_told_201 : decode cX10_told 201 = .ok (.ireturn, 1) := by decide +kernel
theorem dX10_told_202 : decode cX10_told 202 = .ok (.iload 5, 2) := by decide +kernel
theorem dX10_told_204 : decode cX10_told 204 = .ok (.ireturn, 1) := by decide +kernel
theorem dX10_told_205 : decode cX10_told 205 = .ok (.iload_n 3, 1) := by decide +kernel
theorem dX10_told_206 : decode cX10_told 206 = .ok (.ireturn, 1) := by decide +kernel
theorem dX10_told_207 : decode cX10_told 207 = .ok (.ldc 112, 2) := by decide +kernel
theorem dX10_told_209 : decode cX10_told 209 = .ok (.ireturn, 1) := by decide +kernel
theorem dX10_leaf_0 : decode cX10_leaf 0 = .ok (.iload_n 1, 1) := by decide +kernel
theorem dX10_leaf_1 : decode cX10_leaf 1 = .ok (.iconst 0, 1) := by decide +kernel
theorem dX10_leaf_2 : decode cX10_leaf 2 = .ok (.iconst 1, 1) := by decide +kernel
theorem dX10_leaf_3 : decode cX10_leaf 3 = .ok (.invokestatic 108, 3) := by decide +kernel
theorem dX10_leaf_6 : decode cX10_leaf 6 = .ok (.ifCond .ne 6, 3) := by decide +kernel
theorem dX10_leaf_9 : decode cX10_leaf 9 = .ok (.ldc 227, 2) := by decide +kernel
theorem dX10_leaf_11 : decode cX10_leaf 11 = .ok (.ireturn, 1) := by decide +kernel
theorem dX10_leaf_12 : decode cX10_leaf 12 = .ok (.aload_n 0, 1) := by decide +kernel
theorem dX10_leaf_13 : decode cX10_leaf 13 = .ok (.invokevirtual 223, 3) := by decide +kernel
theorem dX10_leaf_16 : decode cX10_leaf 16 = .ok (.pop, 1) := by decide +kernel
theorem dX10_leaf_17 : decode cX10_leaf 17 = .ok (.iload_n 2, 1) := by decide +kernel
theorem dX10_leaf_18 : decode cX10_leaf 18 = .ok (.tableswitch 64 0 3 #[30, 39, 50, 57], 30) := by decide +kernel
theorem dX10_leaf_48 : decode cX10_leaf 48 = .ok (.aload_n 0, 1) := by decide +kernel
theorem dX10_leaf_49 : decode cX10_leaf 49 = .ok (.getfield 23, 3) := by decide +kernel
theorem dX10_leaf_52 : decode cX10_leaf 52 = .ok (.iconst 2, 1) := by decide +kernel
theorem dX10_leaf_53 : decode cX10_leaf 53 = .ok (.iload_n 1, 1) := by decide +kernel
theorem dX10_leaf_54 : decode cX10_leaf 54 = .ok (.imul, 1) := by decide +kernel
theorem dX10_leaf_55 : decode cX10_leaf 55 = .ok (.iaload, 1) := by decide +kernel
theorem dX10_leaf_56 : decode cX10_leaf 56 = .ok (.ireturn, 1) := by decide +kernel
theorem dX10_leaf_57 : decode cX10_leaf 57 = .ok (.aload_n 0, 1) := by decide +kernel
theorem dX10_leaf_58 : decode cX10_leaf 58 = .ok (.getfield 23, 3) := by decide +kernel
theorem dX10_leaf_61 : decode cX10_leaf 61 = .ok (.iconst 2, 1) := by decide +kernel
theorem dX10_leaf_62 : decode cX10_leaf 62 = .ok (.iload_n 1, 1) := by decide +kernel
theorem dX10_leaf_63 : decode cX10_leaf 63 = .ok (.imul, 1) := by decide +kernel
theorem dX10_leaf_64 : decode cX10_leaf 64 = .ok (.iconst 1, 1) := by decide +kernel
theorem dX10_leaf_65 : decode cX10_leaf 65 = .ok (.iadd, 1) := by decide +kernel
theorem dX10_leaf_66 : decode cX10_leaf 66 = .ok (.iaload, 1) := by decide +kernel
theorem dX10_leaf_67 : decode cX10_leaf 67 = .ok (.ireturn, 1) := by decide +kernel
theorem dX10_leaf_68 : decode cX10_leaf 68 = .ok (.aload_n 0, 1) := by decide +kernel
theorem dX10_leaf_69 : decode cX10_leaf 69 = .ok (.getfield 78, 3) := by decide +kernel
theorem dX10_leaf_72 : decode cX10_leaf 72 = .ok (.iload_n 1, 1) := by decide +kernel
theorem dX10_leaf_73 : decode cX10_leaf 73 = .ok (.iaload, 1) := by decide +kernel
theorem dX10_leaf_74 : decode cX10_leaf 74 = .ok (.ireturn, 1) := by decide +kernel
theorem dX10_leaf_75 : decode cX10_leaf 75 = .ok (.aload_n 0, 1) := by decide +kernel
theorem dX10_leaf_76 : decode cX10_leaf 76 = .ok (.getfield 81, 3) := by decide +kernel
theorem dX10_leaf_79 : decode cX10_leaf 79 = .ok (.iload_n 1, 1) := by decide +kernel
theorem dX10_leaf_80 : decode cX10_leaf 80 = .ok (.iaload, 1) := by decide +kernel
theorem dX10_leaf_81 : decode cX10_leaf 81 = .ok (.ireturn, 1) := by decide +kernel
theorem dX10_leaf_82 : decode cX10_leaf 82 = .ok (.ldc 112, 2) := by decide +kernel
theorem dX10_leaf_84 : decode cX10_leaf 84 = .ok (.ireturn, 1) := by decide +kernel
theorem dX10_waiter_0 : decode cX10_waiter 0 = .ok (.aload_n 0, 1) := by decide +kernel
theorem dX10_waiter_1 : decode cX10_waiter 1 = .ok (.iload_n 1, 1) := by decide +kernel
theorem dX10_waiter_2 : decode cX10_waiter 2 = .ok (.invokevirtual 228, 3) := by decide +kernel
theorem dX10_waiter_5 : decode cX10_waiter 5 = .ok (.ifCond .ne 6, 3) := by decide +kernel
theorem dX10_waiter_8 : decode cX10_waiter 8 = .ok (.ldc 227, 2) := by decide +kernel
theorem dX10_waiter_10 : decode cX10_waiter 10 = .ok (.ireturn, 1) := by decide +kernel
theorem dX10_waiter_11 : decode cX10_waiter 11 = .ok (.iload_n 2, 1) := by decide +kernel
theorem dX10_waiter_12 : decode cX10_waiter 12 = .ok (.tableswitch 99 0 6 #[44, 51, 58, 65, 72, 82, 92], 44) := by decide +kernel
theorem dX10_waiter_56 : decode cX10_waiter 56 = .ok (.aload_n 0, 1) := by decide +kernel
theorem dX10_waiter_57 : decode cX10_waiter 57 = .ok (.getfield 26, 3) := by decide +kernel
theorem dX10_waiter_60 : decode cX10_waiter 60 = .ok (.iload_n 1, 1) := by decide +kernel
theorem dX10_waiter_61 : decode cX10_waiter 61 = .ok (.iaload, 1) := by decide +kernel
theorem dX10_waiter_62 : decode cX10_waiter 62 = .ok (.ireturn, 1) := by decide +kernel
theorem dX10_waiter_63 : decode cX10_waiter 63 = .ok (.aload_n 0, 1) := by decide +kernel
theorem dX10_waiter_64 : decode cX10_waiter 64 = .ok (.getfield 38, 3) := by decide +kernel
theorem dX10_waiter_67 : decode cX10_waiter 67 = .ok (.iload_n 1, 1) := by decide +kernel
theorem dX10_waiter_68 : decode cX10_waiter 68 = .ok (.iaload, 1) := by decide +kernel
theorem dX10_waiter_69 : decode cX10_waiter 69 = .ok (.ireturn, 1) := by decide +kernel
theorem dX10_waiter_70 : decode cX10_waiter 70 = .ok (.aload_n 0, 1) := by decide +kernel
theorem dX10_waiter_71 : decode cX10_waiter 71 = .ok (.getfield 29, 3) := by decide +kernel
theorem dX10_waiter_74 : decode cX10_waiter 74 = .ok (.iload_n 1, 1) := by decide +kernel
theorem dX10_waiter_75 : decode cX10_waiter 75 = .ok (.iaload, 1) := by decide +kernel
theorem dX10_waiter_76 : decode cX10_waiter 76 = .ok (.ireturn, 1) := by decide +kernel
theorem dX10_waiter_77 : decode cX10_waiter 77 = .ok (.aload_n 0, 1) := by decide +kernel
theorem dX10_waiter_78 : decode cX10_waiter 78 = .ok (.getfield 32, 3) := by decide +kernel
theorem dX10_waiter_81 : decode cX10_waiter 81 = .ok (.iload_n 1, 1) := by decide +kernel
theorem dX10_waiter_82 : decode cX10_waiter 82 = .ok (.iaload, 1) := by decide +kernel
theorem dX10_waiter_83 : decode cX10_waiter 83 = .ok (.ireturn, 1) := by decide +kernel
theorem dX10_waiter_84 : decode cX10_waiter 84 = .ok (.aload_n 0, 1) := by decide +kernel
theorem dX10_waiter_85 : decode cX10_waiter 85 = .ok (.getfield 38, 3) := by decide +kernel
theorem dX10_waiter_88 : decode cX10_waiter 88 = .ok (.bipush 12, 2) := by decide +kernel
theorem dX10_waiter_90 : decode cX10_waiter 90 = .ok (.iload_n 1, 1) := by decide +kernel
theorem dX10_waiter_91 : decode cX10_waiter 91 = .ok (.iadd, 1) := by decide +kernel
theorem dX10_waiter_92 : decode cX10_waiter 92 = .ok (.iaload, 1) := by decide +kernel
theorem dX10_waiter_93 : decode cX10_waiter 93 = .ok (.ireturn, 1) := by decide +kernel
theorem dX10_waiter_94 : decode cX10_waiter 94 = .ok (.aload_n 0, 1) := by decide +kernel
theorem dX10_waiter_95 : decode cX10_waiter 95 = .ok (.getfield 38, 3) := by decide +kernel
theorem dX10_waiter_98 : decode cX10_waiter 98 = .ok (.bipush 6, 2) := by decide +kernel
theorem dX10_waiter_100 : decode cX10_waiter 100 = .ok (.iload_n 1, 1) := by decide +kernel
theorem dX10_waiter_101 : decode cX10_waiter 101 = .ok (.iadd, 1) := by decide +kernel
theorem dX10_waiter_102 : decode cX10_waiter 102 = .ok (.iaload, 1) := by decide +kernel
theorem dX10_waiter_103 : decode cX10_waiter 103 = .ok (.ireturn, 1) := by decide +kernel
theorem dX10_waiter_104 : decode cX10_waiter 104 = .ok (.aload_n 0, 1) := by decide +kernel
theorem dX10_waiter_105 : decode cX10_waiter 105 = .ok (.getfield 35, 3) := by decide +kernel
theorem dX10_waiter_108 : decode cX10_waiter 108 = .ok (.iload_n 1, 1) := by decide +kernel
theorem dX10_waiter_109 : decode cX10_waiter 109 = .ok (.iaload, 1) := by decide +kernel
theorem dX10_waiter_110 : decode cX10_waiter 110 = .ok (.ireturn, 1) := by decide +kernel
theorem dX10_waiter_111 : decode cX10_waiter 111 = .ok (.ldc 112, 2) := by decide +kernel
theorem dX10_waiter_113 : decode cX10_waiter 113 = .ok (.ireturn, 1) := by decide +kernel
theorem dX10_becomes_0 : decode cX10_becomes 0 = .ok (.aload_n 0, 1) := by decide +kernel
theorem dX10_becomes_1 : decode cX10_becomes 1 = .ok (.getfield 38, 3) := by decide +kernel
theorem dX10_becomes_4 : decode cX10_becomes 4 = .ok (.iload_n 1, 1) := by decide +kernel
theorem dX10_becomes_5 : decode cX10_becomes 5 = .ok (.iaload, 1) := by decide +kernel
theorem dX10_becomes_6 : decode cX10_becomes 6 = .ok (.istore_n 3, 1) := by decide +kernel
theorem dX10_becomes_7 : decode cX10_becomes 7 = .ok (.aload_n 0, 1) := by decide +kernel
theorem dX10_becomes_8 : decode cX10_becomes 8 = .ok (.getfield 38, 3) := by decide +kernel
theorem dX10_becomes_11 : decode cX10_becomes 11 = .ok (.iload_n 1, 1) := by decide +kernel
theorem dX10_becomes_12 : decode cX10_becomes 12 = .ok (.iload_n 2, 1) := by decide +kernel
theorem dX10_becomes_13 : decode cX10_becomes 13 = .ok (.iastore, 1) := by decide +kernel
theorem dX10_becomes_14 : decode cX10_becomes 14 = .ok (.iload_n 3, 1) := by decide +kernel
theorem dX10_becomes_15 : decode cX10_becomes 15 = .ok (.ireturn, 1) := by decide +kernel
theorem dX10_come_0 : decode cX10_come 0 = .ok (.aload_n 0, 1) := by decide +kernel
theorem dX10_come_1 : decode cX10_come 1 = .ok (.iload_n 1, 1) := by decide +kernel
theorem dX10_come_2 : decode cX10_come 2 = .ok (.invokevirtual 228, 3) := by decide +kernel
theorem dX10_come_5 : decode cX10_come 5 = .ok (.ifCond .ne 8, 3) := by decide +kernel
theorem dX10_come_8 : decode cX10_come 8 = .ok (.ldc 227, 2) := by decide +kernel
theorem dX10_come_10 : decode cX10_come 10 = .ok (.goto 25, 3) := by decide +kernel
theorem dX10_come_13 : decode cX10_come 13 = .ok (.iload_n 2, 1) := by decide +kernel
theorem dX10_come_14 : decode cX10_come 14 = .ok (.iconst 0, 1) := by decide +kernel
theorem dX10_come_15 : decode cX10_come 15 = .ok (.sipush 999, 3) := by decide +kernel
theorem dX10_come_18 : decode cX10_come 18 = .ok (.invokestatic 108, 3) := by decide +kernel
theorem dX10_come_21 : decode cX10_come 21 = .ok (.ifCond .eq 12, 3) := by decide +kernel
theorem dX10_come_24 : decode cX10_come 24 = .ok (.aload_n 0, 1) := by decide +kernel
theorem dX10_come_25 : decode cX10_come 25 = .ok (.iload_n 1, 1) := by decide +kernel
theorem dX10_come_26 : decode cX10_come 26 = .ok (.iload_n 2, 1) := by decide +kernel
theorem dX10_come_27 : decode cX10_come 27 = .ok (.invokevirtual 231, 3) := by decide +kernel
theorem dX10_come_30 : decode cX10_come 30 = .ok (.goto 5, 3) := by decide +kernel
theorem dX10_come_33 : decode cX10_come 33 = .ok (.ldc 112, 2) := by decide +kernel
theorem dX10_come_35 : decode cX10_come 35 = .ok (.ireturn, 1) := by decide +kernel
theorem dX10_rule_0 : decode cX10_rule 0 = .ok (.aload_n 0, 1) := by decide +kernel
theorem dX10_rule_1 : decode cX10_rule 1 = .ok (.iload_n 1, 1) := by decide +kernel
theorem dX10_rule_2 : decode cX10_rule 2 = .ok (.invokevirtual 228, 3) := by decide +kernel
theorem dX10_rule_5 : decode cX10_rule 5 = .ok (.ifCond .ne 8, 3) := by decide +kernel
theorem dX10_rule_8 : decode cX10_rule 8 = .ok (.ldc 227, 2) := by decide +kernel
theorem dX10_rule_10 : decode cX10_rule 10 = .ok (.goto 26, 3) := by decide +kernel
theorem dX10_rule_13 : decode cX10_rule 13 = .ok (.iload_n 2, 1) := by decide +kernel
theorem dX10_rule_14 : decode cX10_rule 14 = .ok (.iconst 0, 1) := by decide +kernel
theorem dX10_rule_15 : decode cX10_rule 15 = .ok (.iconst 2, 1) := by decide +kernel
theorem dX10_rule_16 : decode cX10_rule 16 = .ok (.invokestatic 108, 3) := by decide +kernel
theorem dX10_rule_19 : decode cX10_rule 19 = .ok (.ifCond .eq 15, 3) := by decide +kernel
theorem dX10_rule_22 : decode cX10_rule 22 = .ok (.aload_n 0, 1) := by decide +kernel
theorem dX10_rule_23 : decode cX10_rule 23 = .ok (.bipush 6, 2) := by decide +kernel
theorem dX10_rule_25 : decode cX10_rule 25 = .ok (.iload_n 1, 1) := by decide +kernel
theorem dX10_rule_26 : decode cX10_rule 26 = .ok (.iadd, 1) := by decide +kernel
theorem dX10_rule_27 : decode cX10_rule 27 = .ok (.iload_n 2, 1) := by decide +kernel
theorem dX10_rule_28 : decode cX10_rule 28 = .ok (.invokevirtual 231, 3) := by decide +kernel
theorem dX10_rule_31 : decode cX10_rule 31 = .ok (.goto 5, 3) := by decide +kernel
theorem dX10_rule_34 : decode cX10_rule 34 = .ok (.ldc 112, 2) := by decide +kernel
theorem dX10_rule_36 : decode cX10_rule 36 = .ok (.ireturn, 1) := by decide +kernel
theorem dX10_kick_0 : decode cX10_kick 0 = .ok (.aload_n 0, 1) := by decide +kernel
theorem dX10_kick_1 : decode cX10_kick 1 = .ok (.iload_n 1, 1) := by decide +kernel
theorem dX10_kick_2 : decode cX10_kick 2 = .ok (.invokevirtual 228, 3) := by decide +kernel
theorem dX10_kick_5 : decode cX10_kick 5 = .ok (.ifCond .ne 8, 3) := by decide +kernel
theorem dX10_kick_8 : decode cX10_kick 8 = .ok (.ldc 227, 2) := by decide +kernel
theorem dX10_kick_10 : decode cX10_kick 10 = .ok (.goto 27, 3) := by decide +kernel
theorem dX10_kick_13 : decode cX10_kick 13 = .ok (.iload_n 2, 1) := by decide +kernel
theorem dX10_kick_14 : decode cX10_kick 14 = .ok (.iconst 1, 1) := by decide +kernel
theorem dX10_kick_15 : decode cX10_kick 15 = .ok (.bipush 9, 2) := by decide +kernel
theorem dX10_kick_17 : decode cX10_kick 17 = .ok (.invokestatic 108, 3) := by decide +kernel
theorem dX10_kick_20 : decode cX10_kick 20 = .ok (.ifCond .eq 15, 3) := by decide +kernel
theorem dX10_kick_23 : decode cX10_kick 23 = .ok (.aload_n 0, 1) := by decide +kernel
theorem dX10_kick_24 : decode cX10_kick 24 = .ok (.bipush 12, 2) := by decide +kernel
theorem dX10_kick_26 : decode cX10_kick 26 = .ok (.iload_n 1, 1) := by decide +kernel
theorem dX10_kick_27 : decode cX10_kick 27 = .ok (.iadd, 1) := by decide +kernel
theorem dX10_kick_28 : decode cX10_kick 28 = .ok (.iload_n 2, 1) := by decide +kernel
theorem dX10_kick_29 : decode cX10_kick 29 = .ok (.invokevirtual 231, 3) := by decide +kernel
theorem dX10_kick_32 : decode cX10_kick 32 = .ok (.goto 5, 3) := by decide +kernel
theorem dX10_kick_35 : decode cX10_kick 35 = .ok (.ldc 112, 2) := by decide +kernel
theorem dX10_kick_37 : decode cX10_kick 37 = .ok (.ireturn, 1) := by decide +kernel
theorem dX10_glass_0 : decode cX10_glass 0 = .ok (.aload_n 0, 1) := by decide +kernel
theorem dX10_glass_1 : decode cX10_glass 1 = .ok (.bipush 18, 2) := by decide +kernel
theorem dX10_glass_3 : decode cX10_glass 3 = .ok (.iload_n 1, 1) := by decide +kernel
theorem dX10_glass_4 : decode cX10_glass 4 = .ok (.ifCond .eq 7, 3) := by decide +kernel
theorem dX10_glass_7 : decode cX10_glass 7 = .ok (.iconst 1, 1) := by decide +kernel
theorem dX10_glass_8 : decode cX10_glass 8 = .ok (.goto 4, 3) := by decide +kernel
theorem dX10_glass_11 : decode cX10_glass 11 = .ok (.iconst 0, 1) := by decide +kernel
theorem dX10_glass_12 : decode cX10_glass 12 = .ok (.invokevirtual 231, 3) := by decide +kernel
theorem dX10_glass_15 : decode cX10_glass 15 = .ok (.ireturn, 1) := by decide +kernel
theorem dX10_noise_0 : decode cX10_noise 0 = .ok (.iload_n 1, 1) := by decide +kernel
theorem dX10_noise_1 : decode cX10_noise 1 = .ok (.iconst 0, 1) := by decide +kernel
theorem dX10_noise_2 : decode cX10_noise 2 = .ok (.bipush 9, 2) := by decide +kernel
theorem dX10_noise_4 : decode cX10_noise 4 = .ok (.invokestatic 108, 3) := by decide +kernel
theorem dX10_noise_7 : decode cX10_noise 7 = .ok (.ifCond .eq 13, 3) := by decide +kernel
theorem dX10_noise_10 : decode cX10_noise 10 = .ok (.aload_n 0, 1) := by decide +kernel
theorem dX10_noise_11 : decode cX10_noise 11 = .ok (.bipush 19, 2) := by decide +kernel
theorem dX10_noise_13 : decode cX10_noise 13 = .ok (.iload_n 1, 1) := by decide +kernel
theorem dX10_noise_14 : decode cX10_noise 14 = .ok (.invokevirtual 231, 3) := by decide +kernel
theorem dX10_noise_17 : decode cX10_noise 17 = .ok (.goto 5, 3) := by decide +kernel
theorem dX10_noise_20 : decode cX10_noise 20 = .ok (.ldc 112, 2) := by decide +kernel
theorem dX10_noise_22 : decode cX10_noise 22 = .ok (.ireturn, 1) := by decide +kernel
theorem dX10_draw_0 : decode cX10_draw 0 = .ok (.aload_n 0, 1) := by decide +kernel
theorem dX10_draw_1 : decode cX10_draw 1 = .ok (.getfield 38, 3) := by decide +kernel
theorem dX10_draw_4 : decode cX10_draw 4 = .ok (.bipush 20, 2) := by decide +kernel
theorem dX10_draw_6 : decode cX10_draw 6 = .ok (.iaload, 1) := by decide +kernel
theorem dX10_draw_7 : decode cX10_draw 7 = .ok (.i2l, 1) := by decide +kernel
theorem dX10_draw_8 : decode cX10_draw 8 = .ok (.ldc2_w 234, 3) := by decide +kernel
theorem dX10_draw_11 : decode cX10_draw 11 = .ok (.lmul, 1) := by decide +kernel
theorem dX10_draw_12 : decode cX10_draw 12 = .ok (.ldc2_w 236, 3) := by decide +kernel
theorem dX10_draw_15 : decode cX10_draw 15 = .ok (.ladd, 1) := by decide +kernel
theorem dX10_draw_16 : decode cX10_draw 16 = .ok (.ldc2_w 238, 3) := by decide +kernel
theorem dX10_draw_19 : decode cX10_draw 19 = .ok (.lrem, 1) := by decide +kernel
theorem dX10_draw_20 : decode cX10_draw 20 = .ok (.lstore_n 2, 1) := by decide +kernel
theorem dX10_draw_21 : decode cX10_draw 21 = .ok (.aload_n 0, 1) := by decide +kernel
theorem dX10_draw_22 : decode cX10_draw 22 = .ok (.getfield 38, 3) := by decide +kernel
theorem dX10_draw_25 : decode cX10_draw 25 = .ok (.bipush 20, 2) := by decide +kernel
theorem dX10_draw_27 : decode cX10_draw 27 = .ok (.lload_n 2, 1) := by decide +kernel
theorem dX10_draw_28 : decode cX10_draw 28 = .ok (.l2i, 1) := by decide +kernel
theorem dX10_draw_29 : decode cX10_draw 29 = .ok (.iastore, 1) := by decide +kernel
theorem dX10_draw_30 : decode cX10_draw 30 = .ok (.aload_n 0, 1) := by decide +kernel
theorem dX10_draw_31 : decode cX10_draw 31 = .ok (.getfield 38, 3) := by decide +kernel
theorem dX10_draw_34 : decode cX10_draw 34 = .ok (.bipush 20, 2) := by decide +kernel
theorem dX10_draw_36 : decode cX10_draw 36 = .ok (.iaload, 1) := by decide +kernel
theorem dX10_draw_37 : decode cX10_draw 37 = .ok (.ldc 240, 2) := by decide +kernel
theorem dX10_draw_39 : decode cX10_draw 39 = .ok (.idiv, 1) := by decide +kernel
theorem dX10_draw_40 : decode cX10_draw 40 = .ok (.iload_n 1, 1) := by decide +kernel
theorem dX10_draw_41 : decode cX10_draw 41 = .ok (.irem, 1) := by decide +kernel
theorem dX10_draw_42 : decode cX10_draw 42 = .ok (.ireturn, 1) := by decide +kernel
theorem dX10_drift_0 : decode cX10_drift 0 = .ok (.iload_n 1, 1) := by decide +kernel
theorem dX10_drift_1 : decode cX10_drift 1 = .ok (.iconst 1, 1) := by decide +kernel
theorem dX10_drift_2 : decode cX10_drift 2 = .ok (.bipush 99, 2) := by decide +kernel
theorem dX10_drift_4 : decode cX10_drift 4 = .ok (.invokestatic 108, 3) := by decide +kernel
theorem dX10_drift_7 : decode cX10_drift 7 = .ok (.ifCond .ne 6, 3) := by decide +kernel
theorem dX10_drift_10 : decode cX10_drift 10 = .ok (.ldc 112, 2) := by decide +kernel
theorem dX10_drift_12 : decode cX10_drift 12 = .ok (.ireturn, 1) := by decide +kernel
theorem dX10_drift_13 : decode cX10_drift 13 = .ok (.aload_n 0, 1) := by decide +kernel
theorem dX10_drift_14 : decode cX10_drift 14 = .ok (.getfield 105, 3) := by decide +kernel
theorem dX10_drift_17 : decode cX10_drift 17 = .ok (.ifCond .ne 6, 3) := by decide +kernel
theorem dX10_drift_20 : decode cX10_drift 20 = .ok (.ldc 241, 2) := by decide +kernel
theorem dX10_drift_22 : decode cX10_drift 22 = .ok (.ireturn, 1) := by decide +kernel
theorem dX10_drift_23 : decode cX10_drift 23 = .ok (.iconst 0, 1) := by decide +kernel
theorem dX10_drift_24 : decode cX10_drift 24 = .ok (.istore_n 2, 1) := by decide +kernel
theorem dX10_drift_25 : decode cX10_drift 25 = .ok (.iconst 0, 1) := by decide +kernel
theorem dX10_drift_26 : decode cX10_drift 26 = .ok (.istore_n 3, 1) := by decide +kernel
theorem dX10_drift_27 : decode cX10_drift 27 = .ok (.iload_n 3, 1) := by decide +kernel
theorem dX10_drift_28 : decode cX10_drift 28 = .ok (.iload_n 1, 1) := by decide +kernel
theorem dX10_drift_29 : decode cX10_drift 29 = .ok (.if_icmp .ge 82, 3) := by decide +kernel
theorem dX10_drift_32 : decode cX10_drift 32 = .ok (.iconst 0, 1) := by decide +kernel
theorem dX10_drift_33 : decode cX10_drift 33 = .ok (.istore 4, 2) := by decide +kernel
theorem dX10_drift_35 : decode cX10_drift 35 = .ok (.iload 4, 2) := by decide +kernel
theorem dX10_drift_37 : decode cX10_drift 37 = .ok (.aload_n 0, 1) := by decide +kernel
theorem dX10_drift_38 : decode cX10_drift 38 = .ok (.getfield 105, 3) := by decide +kernel
theorem dX10_drift_41 : decode cX10_drift 41 = .ok (.if_icmp .ge 23, 3) := by decide +kernel
theorem dX10_drift_44 : decode cX10_drift 44 = .ok (.aload_n 0, 1) := by decide +kernel
theorem dX10_drift_45 : decode cX10_drift 45 = .ok (.getfield 38, 3) := by decide +kernel
theorem dX10_drift_48 : decode cX10_drift 48 = .ok (.iload 4, 2) := by decide +kernel
theorem dX10_drift_50 : decode cX10_drift 50 = .ok (.aload_n 0, 1) := by decide +kernel
theorem dX10_drift_51 : decode cX10_drift 51 = .ok (.sipush 200, 3) := by decide +kernel
theorem dX10_drift_54 : decode cX10_drift 54 = .ok (.invokevirtual 242, 3) := by decide +kernel
theorem dX10_drift_57 : decode cX10_drift 57 = .ok (.iastore, 1) := by decide +kernel
theorem dX10_drift_58 : decode cX10_drift 58 = .ok (.iinc 4 1, 3) := by decide +kernel
theorem dX10_drift_61 : decode cX10_drift 61 = .ok (.goto (-26), 3) := by decide +kernel
theorem dX10_drift_64 : decode cX10_drift 64 = .ok (.aload_n 0, 1) := by decide +kernel
theorem dX10_drift_65 : decode cX10_drift 65 = .ok (.getfield 38, 3) := by decide +kernel
theorem dX10_drift_68 : decode cX10_drift 68 = .ok (.bipush 18, 2) := by decide +kernel
theorem dX10_drift_70 : decode cX10_drift 70 = .ok (.aload_n 0, 1) := by decide +kernel
theorem dX10_drift_71 : decode cX10_drift 71 = .ok (.iconst 4, 1) := by decide +kernel
theorem dX10_drift_72 : decode cX10_drift 72 = .ok (.invokevirtual 242, 3) := by decide +kernel
theorem dX10_drift_75 : decode cX10_drift 75 = .ok (.ifCond .ne 15, 3) := by decide +kernel
theorem dX10_drift_78 : decode cX10_drift 78 = .ok (.iconst 1, 1) := by decide +kernel
theorem dX10_drift_79 : decode cX10_drift 79 = .ok (.aload_n 0, 1) := by decide +kernel
theorem dX10_drift_80 : decode cX10_drift 80 = .ok (.getfield 38, 3) := by decide +kernel
theorem dX10_drift_83 : decode cX10_drift 83 = .ok (.bipush 18, 2) := by decide +kernel
theorem dX10_drift_85 : decode cX10_drift 85 = .ok (.iaload, 1) := by decide +kernel
theorem dX10_drift_86 : decode cX10_drift 86 = .ok (.isub, 1) := by decide +kernel
theorem dX10_drift_87 : decode cX10_drift 87 = .ok (.goto 10, 3) := by decide +kernel
theorem dX10_drift_90 : decode cX10_drift 90 = .ok (.aload_n 0, 1) := by decide +kernel
theorem dX10_drift_91 : decode cX10_drift 91 = .ok (.getfield 38, 3) := by decide +kernel
theorem dX10_drift_94 : decode cX10_drift 94 = .ok (.bipush 18, 2) := by decide +kernel
theorem dX10_drift_96 : decode cX10_drift 96 = .ok (.iaload, 1) := by decide +kernel
theorem dX10_drift_97 : decode cX10_drift 97 = .ok (.iastore, 1) := by decide +kernel
theorem dX10_drift_98 : decode cX10_drift 98 = .ok (.iload_n 2, 1) := by decide +kernel
theorem dX10_drift_99 : decode cX10_drift 99 = .ok (.aload_n 0, 1) := by decide +kernel
theorem dX10_drift_100 : decode cX10_drift 100 = .ok (.invokevirtual 223, 3) := by decide +kernel
theorem dX10_drift_103 : decode cX10_drift 103 = .ok (.iadd, 1) := by decide +kernel
theorem dX10_drift_104 : decode cX10_drift 104 = .ok (.istore_n 2, 1) := by decide +kernel
theorem dX10_drift_105 : decode cX10_drift 105 = .ok (.iinc 3 1, 3) := by decide +kernel
theorem dX10_drift_108 : decode cX10_drift 108 = .ok (.goto (-81), 3) := by decide +kernel
theorem dX10_drift_111 : decode cX10_drift 111 = .ok (.iload_n 2, 1) := by decide +kernel
theorem dX10_drift_112 : decode cX10_drift 112 = .ok (.ireturn, 1) := by decide +kernel
theorem dX10_pass_0 : decode cX10_pass 0 = .ok (.aload_n 0, 1) := by decide +kernel
theorem dX10_pass_1 : decode cX10_pass 1 = .ok (.iload_n 1, 1) := by decide +kernel
theorem dX10_pass_2 : decode cX10_pass 2 = .ok (.invokevirtual 228, 3) := by decide +kernel
theorem dX10_pass_5 : decode cX10_pass 5 = .ok (.ifCond .ne 6, 3) := by decide +kernel
theorem dX10_pass_8 : decode cX10_pass 8 = .ok (.ldc 227, 2) := by decide +kernel
theorem dX10_pass_10 : decode cX10_pass 10 = .ok (.ireturn, 1) := by decide +kernel
theorem dX10_pass_11 : decode cX10_pass 11 = .ok (.aload_n 0, 1) := by decide +kernel
theorem dX10_pass_12 : decode cX10_pass 12 = .ok (.invokevirtual 223, 3) := by decide +kernel
theorem dX10_pass_15 : decode cX10_pass 15 = .ok (.pop, 1) := by decide +kernel
theorem dX10_pass_16 : decode cX10_pass 16 = .ok (.iload_n 2, 1) := by decide +kernel
theorem dX10_pass_17 : decode cX10_pass 17 = .ok (.tableswitch 89 0 5 #[39, 46, 53, 60, 67, 74], 39) := by decide +kernel
theorem dX10_pass_56 : decode cX10_pass 56 = .ok (.aload_n 0, 1) := by decide +kernel
theorem dX10_pass_57 : decode cX10_pass 57 = .ok (.getfield 48, 3) := by decide +kernel
theorem dX10_pass_60 : decode cX10_pass 60 = .ok (.iload_n 1, 1) := by decide +kernel
theorem dX10_pass_61 : decode cX10_pass 61 = .ok (.iaload, 1) := by decide +kernel
theorem dX10_pass_62 : decode cX10_pass 62 = .ok (.ireturn, 1) := by decide +kernel
theorem dX10_pass_63 : decode cX10_pass 63 = .ok (.aload_n 0, 1) := by decide +kernel
theorem dX10_pass_64 : decode cX10_pass 64 = .ok (.getfield 51, 3) := by decide +kernel
theorem dX10_pass_67 : decode cX10_pass 67 = .ok (.iload_n 1, 1) := by decide +kernel
theorem dX10_pass_68 : decode cX10_pass 68 = .ok (.iaload, 1) := by decide +kernel
theorem dX10_pass_69 : decode cX10_pass 69 = .ok (.ireturn, 1) := by decide +kernel
theorem dX10_pass_70 : decode cX10_pass 70 = .ok (.aload_n 0, 1) := by decide +kernel
theorem dX10_pass_71 : decode cX10_pass 71 = .ok (.getfield 54, 3) := by decide +kernel
theorem dX10_pass_74 : decode cX10_pass 74 = .ok (.iload_n 1, 1) := by decide +kernel
theorem dX10_pass_75 : decode cX10_pass 75 = .ok (.iaload, 1) := by decide +kernel
theorem dX10_pass_76 : decode cX10_pass 76 = .ok (.ireturn, 1) := by decide +kernel
theorem dX10_pass_77 : decode cX10_pass 77 = .ok (.aload_n 0, 1) := by decide +kernel
theorem dX10_pass_78 : decode cX10_pass 78 = .ok (.getfield 57, 3) := by decide +kernel
theorem dX10_pass_81 : decode cX10_pass 81 = .ok (.iload_n 1, 1) := by decide +kernel
theorem dX10_pass_82 : decode cX10_pass 82 = .ok (.iaload, 1) := by decide +kernel
theorem dX10_pass_83 : decode cX10_pass 83 = .ok (.ireturn, 1) := by decide +kernel
theorem dX10_pass_84 : decode cX10_pass 84 = .ok (.aload_n 0, 1) := by decide +kernel
theorem dX10_pass_85 : decode cX10_pass 85 = .ok (.getfield 60, 3) := by decide +kernel
theorem dX10_pass_88 : decode cX10_pass 88 = .ok (.iload_n 1, 1) := by decide +kernel
theorem dX10_pass_89 : decode cX10_pass 89 = .ok (.iaload, 1) := by decide +kernel
theorem dX10_pass_90 : decode cX10_pass 90 = .ok (.ireturn, 1) := by decide +kernel
theorem dX10_pass_91 : decode cX10_pass 91 = .ok (.aload_n 0, 1) := by decide +kernel
theorem dX10_pass_92 : decode cX10_pass 92 = .ok (.getfield 63, 3) := by decide +kernel
theorem dX10_pass_95 : decode cX10_pass 95 = .ok (.iload_n 1, 1) := by decide +kernel
theorem dX10_pass_96 : decode cX10_pass 96 = .ok (.baload, 1) := by decide +kernel
theorem dX10_pass_97 : decode cX10_pass 97 = .ok (.ifCond .eq 7, 3) := by decide +kernel
theorem dX10_pass_100 : decode cX10_pass 100 = .ok (.iconst 1, 1) := by decide +kernel
theorem dX10_pass_101 : decode cX10_pass 101 = .ok (.goto 4, 3) := by decide +kernel
theorem dX10_pass_104 : decode cX10_pass 104 = .ok (.iconst 0, 1) := by decide +kernel
theorem dX10_pass_105 : decode cX10_pass 105 = .ok (.ireturn, 1) := by decide +kernel
theorem dX10_pass_106 : decode cX10_pass 106 = .ok (.ldc 112, 2) := by decide +kernel
theorem dX10_pass_108 : decode cX10_pass 108 = .ok (.ireturn, 1) := by decide +kernel
theorem dX10_leafAt_0 : decode cX10_leafAt 0 = .ok (.iload_n 1, 1) := by decide +kernel
theorem dX10_leafAt_1 : decode cX10_leafAt 1 = .ok (.iconst 0, 1) := by decide +kernel
theorem dX10_leafAt_2 : decode cX10_leafAt 2 = .ok (.iconst 1, 1) := by decide +kernel
theorem dX10_leafAt_3 : decode cX10_leafAt 3 = .ok (.invokestatic 108, 3) := by decide +kernel
theorem dX10_leafAt_6 : decode cX10_leafAt 6 = .ok (.ifCond .ne 6, 3) := by decide +kernel
theorem dX10_leafAt_9 : decode cX10_leafAt 9 = .ok (.ldc 227, 2) := by decide +kernel
theorem dX10_leafAt_11 : decode cX10_leafAt 11 = .ok (.ireturn, 1) := by decide +kernel
theorem dX10_leafAt_12 : decode cX10_leafAt 12 = .ok (.iload_n 2, 1) := by decide +kernel
theorem dX10_leafAt_13 : decode cX10_leafAt 13 = .ok (.iconst 0, 1) := by decide +kernel
theorem dX10_leafAt_14 : decode cX10_leafAt 14 = .ok (.sipush 9999, 3) := by decide +kernel
theorem dX10_leafAt_17 : decode cX10_leafAt 17 = .ok (.invokestatic 108, 3) := by decide +kernel
theorem dX10_leafAt_20 : decode cX10_leafAt 20 = .ok (.ifCond .ne 6, 3) := by decide +kernel
theorem dX10_leafAt_23 : decode cX10_leafAt 23 = .ok (.ldc 112, 2) := by decide +kernel
theorem dX10_leafAt_25 : decode cX10_leafAt 25 = .ok (.ireturn, 1) := by decide +kernel
theorem dX10_leafAt_26 : decode cX10_leafAt 26 = .ok (.aload_n 0, 1) := by decide +kernel
theorem dX10_leafAt_27 : decode cX10_leafAt 27 = .ok (.invokevirtual 223, 3) := by decide +kernel
theorem dX10_leafAt_30 : decode cX10_leafAt 30 = .ok (.pop, 1) := by decide +kernel
theorem dX10_leafAt_31 : decode cX10_leafAt 31 = .ok (.aload_n 0, 1) := by decide +kernel
theorem dX10_leafAt_32 : decode cX10_leafAt 32 = .ok (.iload_n 1, 1) := by decide +kernel
theorem dX10_leafAt_33 : decode cX10_leafAt 33 = .ok (.iconst 0, 1) := by decide +kernel
theorem dX10_leafAt_34 : decode cX10_leafAt 34 = .ok (.iload_n 2, 1) := by decide +kernel
theorem dX10_leafAt_35 : decode cX10_leafAt 35 = .ok (.invokevirtual 184, 3) := by decide +kernel
theorem dX10_leafAt_38 : decode cX10_leafAt 38 = .ok (.ifCond .ne 13, 3) := by decide +kernel
theorem dX10_leafAt_41 : decode cX10_leafAt 41 = .ok (.aload_n 0, 1) := by decide +kernel
theorem dX10_leafAt_42 : decode cX10_leafAt 42 = .ok (.iload_n 1, 1) := by decide +kernel
theorem dX10_leafAt_43 : decode cX10_leafAt 43 = .ok (.iconst 1, 1) := by decide +kernel
theorem dX10_leafAt_44 : decode cX10_leafAt 44 = .ok (.iload_n 2, 1) := by decide +kernel
theorem dX10_leafAt_45 : decode cX10_leafAt 45 = .ok (.invokevirtual 184, 3) := by decide +kernel
theorem dX10_leafAt_48 : decode cX10_leafAt 48 = .ok (.ifCond .eq 7, 3) := by decide +kernel
theorem dX10_leafAt_51 : decode cX10_leafAt 51 = .ok (.iconst 1, 1) := by decide +kernel
theorem dX10_leafAt_52 : decode cX10_leafAt 52 = .ok (.goto 9, 3) := by decide +kernel
theorem dX10_leafAt_55 : decode cX10_leafAt 55 = .ok (.aload_n 0, 1) := by decide +kernel
theorem dX10_leafAt_56 : decode cX10_leafAt 56 = .ok (.iload_n 1, 1) := by decide +kernel
theorem dX10_leafAt_57 : decode cX10_leafAt 57 = .ok (.iload_n 2, 1) := by decide +kernel
theorem dX10_leafAt_58 : decode cX10_leafAt 58 = .ok (.invokevirtual 198, 3) := by decide +kernel
theorem dX10_leafAt_61 : decode cX10_leafAt 61 = .ok (.ireturn, 1) := by decide +kernel
theorem dX10_all_0 : decode cX10_all 0 = .ok (.iload_n 1, 1) := by decide +kernel
theorem dX10_all_1 : decode cX10_all 1 = .ok (.iconst 0, 1) := by decide +kernel
theorem dX10_all_2 : decode cX10_all 2 = .ok (.iconst 2, 1) := by decide +kernel
theorem dX10_all_3 : decode cX10_all 3 = .ok (.invokestatic 108, 3) := by decide +kernel
theorem dX10_all_6 : decode cX10_all 6 = .ok (.ifCond .ne 6, 3) := by decide +kernel
theorem dX10_all_9 : decode cX10_all 9 = .ok (.ldc 112, 2) := by decide +kernel
theorem dX10_all_11 : decode cX10_all 11 = .ok (.ireturn, 1) := by decide +kernel
theorem dX10_all_12 : decode cX10_all 12 = .ok (.aload_n 0, 1) := by decide +kernel
theorem dX10_all_13 : decode cX10_all 13 = .ok (.invokevirtual 245, 3) := by decide +kernel
theorem dX10_all_16 : decode cX10_all 16 = .ok (.iconst 0, 1) := by decide +kernel
theorem dX10_all_17 : decode cX10_all 17 = .ok (.istore_n 2, 1) := by decide +kernel
theorem dX10_all_18 : decode cX10_all 18 = .ok (.iload_n 2, 1) := by decide +kernel
theorem dX10_all_19 : decode cX10_all 19 = .ok (.aload_n 0, 1) := by decide +kernel
theorem dX10_all_20 : decode cX10_all 20 = .ok (.getfield 105, 3) := by decide +kernel
theorem dX10_all_23 : decode cX10_all 23 = .ok (.if_icmp .ge 19, 3) := by decide +kernel
theorem dX10_all_26 : decode cX10_all 26 = .ok (.aload_n 0, 1) := by decide +kernel
theorem dX10_all_27 : decode cX10_all 27 = .ok (.getfield 38, 3) := by decide +kernel
theorem dX10_all_30 : decode cX10_all 30 = .ok (.bipush 6, 2) := by decide +kernel
theorem dX10_all_32 : decode cX10_all 32 = .ok (.iload_n 2, 1) := by decide +kernel
theorem dX10_all_33 : decode cX10_all 33 = .ok (.iadd, 1) := by decide +kernel
theorem dX10_all_34 : decode cX10_all 34 = .ok (.iload_n 1, 1) := by decide +kernel
theorem dX10_all_35 : decode cX10_all 35 = .ok (.iastore, 1) := by decide +kernel
theorem dX10_all_36 : decode cX10_all 36 = .ok (.iinc 2 1, 3) := by decide +kernel
theorem dX10_all_39 : decode cX10_all 39 = .ok (.goto (-21), 3) := by decide +kernel
theorem dX10_all_42 : decode cX10_all 42 = .ok (.aload_n 0, 1) := by decide +kernel
theorem dX10_all_43 : decode cX10_all 43 = .ok (.invokevirtual 223, 3) := by decide +kernel
theorem dX10_all_46 : decode cX10_all 46 = .ok (.istore_n 2, 1) := by decide +kernel
theorem dX10_all_47 : decode cX10_all 47 = .ok (.aload_n 0, 1) := by decide +kernel
theorem dX10_all_48 : decode cX10_all 48 = .ok (.invokevirtual 248, 3) := by decide +kernel
theorem dX10_all_51 : decode cX10_all 51 = .ok (.iload_n 2, 1) := by decide +kernel
theorem dX10_all_52 : decode cX10_all 52 = .ok (.ireturn, 1) := by decide +kernel
theorem dX10_best_0 : decode cX10_best 0 = .ok (.iload_n 1, 1) := by decide +kernel
theorem dX10_best_1 : decode cX10_best 1 = .ok (.iconst (-1), 1) := by decide +kernel
theorem dX10_best_2 : decode cX10_best 2 = .ok (.if_icmp .eq 14, 3) := by decide +kernel
theorem dX10_best_5 : decode cX10_best 5 = .ok (.aload_n 0, 1) := by decide +kernel
theorem dX10_best_6 : decode cX10_best 6 = .ok (.iload_n 1, 1) := by decide +kernel
theorem dX10_best_7 : decode cX10_best 7 = .ok (.invokevirtual 228, 3) := by decide +kernel
theorem dX10_best_10 : decode cX10_best 10 = .ok (.ifCond .ne 6, 3) := by decide +kernel
theorem dX10_best_13 : decode cX10_best 13 = .ok (.ldc 227, 2) := by decide +kernel
theorem dX10_best_15 : decode cX10_best 15 = .ok (.ireturn, 1) := by decide +kernel
theorem dX10_best_16 : decode cX10_best 16 = .ok (.aload_n 0, 1) := by decide +kernel
theorem dX10_best_17 : decode cX10_best 17 = .ok (.invokevirtual 245, 3) := by decide +kernel
theorem dX10_best_20 : decode cX10_best 20 = .ok (.iconst 1, 1) := by decide +kernel
theorem dX10_best_21 : decode cX10_best 21 = .ok (.istore_n 2, 1) := by decide +kernel
theorem dX10_best_22 : decode cX10_best 22 = .ok (.iconst 0, 1) := by decide +kernel
theorem dX10_best_23 : decode cX10_best 23 = .ok (.istore_n 3, 1) := by decide +kernel
theorem dX10_best_24 : decode cX10_best 24 = .ok (.iload_n 3, 1) := by decide +kernel
theorem dX10_best_25 : decode cX10_best 25 = .ok (.aload_n 0, 1) := by decide +kernel
theorem dX10_best_26 : decode cX10_best 26 = .ok (.getfield 105, 3) := by decide +kernel
theorem dX10_best_29 : decode cX10_best 29 = .ok (.if_icmp .ge 13, 3) := by decide +kernel
theorem dX10_best_32 : decode cX10_best 32 = .ok (.iload_n 2, 1) := by decide +kernel
theorem dX10_best_33 : decode cX10_best 33 = .ok (.iconst 3, 1) := by decide +kernel
theorem dX10_best_34 : decode cX10_best 34 = .ok (.imul, 1) := by decide +kernel
theorem dX10_best_35 : decode cX10_best 35 = .ok (.istore_n 2, 1) := by decide +kernel
theorem dX10_best_36 : decode cX10_best 36 = .ok (.iinc 3 1, 3) := by decide +kernel
theorem dX10_best_39 : decode cX10_best 39 = .ok (.goto (-15), 3) := by decide +kernel
theorem dX10_best_42 : decode cX10_best 42 = .ok (.iconst (-1), 1) := by decide +kernel
theorem dX10_best_43 : decode cX10_best 43 = .ok (.istore_n 3, 1) := by decide +kernel
theorem dX10_best_44 : decode cX10_best 44 = .ok (.iconst 0, 1) := by decide +kernel
theorem dX10_best_45 : decode cX10_best 45 = .ok (.istore 4, 2) := by decide +kernel
theorem dX10_best_47 : decode cX10_best 47 = .ok (.iload 4, 2) := by decide +kernel
theorem dX10_best_49 : decode cX10_best 49 = .ok (.iload_n 2, 1) := by decide +kernel
theorem dX10_best_50 : decode cX10_best 50 = .ok (.if_icmp .ge 106, 3) := by decide +kernel
theorem dX10_best_53 : decode cX10_best 53 = .ok (.iload 4, 2) := by decide +kernel
theorem dX10_best_55 : decode cX10_best 55 = .ok (.istore 5, 2) := by decide +kernel
theorem dX10_best_57 : decode cX10_best 57 = .ok (.aload_n 0, 1) := by decide +kernel
theorem dX10_best_58 : decode cX10_best 58 = .ok (.getfield 105, 3) := by decide +kernel
theorem dX10_best_61 : decode cX10_best 61 = .ok (.iconst 1, 1) := by decide +kernel
theorem dX10_best_62 : decode cX10_best 62 = .ok (.isub, 1) := by decide +kernel
theorem dX10_best_63 : decode cX10_best 63 = .ok (.istore 6, 2) := by decide +kernel
theorem dX10_best_65 : decode cX10_best 65 = .ok (.iload 6, 2) := by decide +kernel
theorem dX10_best_67 : decode cX10_best 67 = .ok (.ifCond .lt 29, 3) := by decide +kernel
theorem dX10_best_70 : decode cX10_best 70 = .ok (.aload_n 0, 1) := by decide +kernel
theorem dX10_best_71 : decode cX10_best 71 = .ok (.getfield 38, 3) := by decide +kernel
theorem dX10_best_74 : decode cX10_best 74 = .ok (.bipush 6, 2) := by decide +kernel
theorem dX10_best_76 : decode cX10_best 76 = .ok (.iload 6, 2) := by decide +kernel
theorem dX10_best_78 : decode cX10_best 78 = .ok (.iadd, 1) := by decide +kernel
theorem dX10_best_79 : decode cX10_best 79 = .ok (.iload 5, 2) := by decide +kernel
theorem dX10_best_81 : decode cX10_best 81 = .ok (.iconst 3, 1) := by decide +kernel
theorem dX10_best_82 : decode cX10_best 82 = .ok (.irem, 1) := by decide +kernel
theorem dX10_best_83 : decode cX10_best 83 = .ok (.iastore, 1) := by decide +kernel
theorem dX10_best_84 : decode cX10_best 84 = .ok (.iload 5, 2) := by decide +kernel
theorem dX10_best_86 : decode cX10_best 86 = .ok (.iconst 3, 1) := by decide +kernel
theorem dX10_best_87 : decode cX10_best 87 = .ok (.idiv, 1) := by decide +kernel
theorem dX10_best_88 : decode cX10_best 88 = .ok (.istore 5, 2) := by decide +kernel
theorem dX10_best_90 : decode cX10_best 90 = .ok (.iinc 6 (-1), 3) := by decide +kernel
theorem dX10_best_93 : decode cX10_best 93 = .ok (.goto (-28), 3) := by decide +kernel
theorem dX10_best_96 : decode cX10_best 96 = .ok (.aload_n 0, 1) := by decide +kernel
theorem dX10_best_97 : decode cX10_best 97 = .ok (.invokevirtual 223, 3) := by decide +kernel
theorem dX10_best_100 : decode cX10_best 100 = .ok (.istore 6, 2) := by decide +kernel
theorem dX10_best_102 : decode cX10_best 102 = .ok (.iload_n 3, 1) := by decide +kernel
theorem dX10_best_103 : decode cX10_best 103 = .ok (.ifCond .lt 9, 3) := by decide +kernel
theorem dX10_best_106 : decode cX10_best 106 = .ok (.iload 6, 2) := by decide +kernel
theorem dX10_best_108 : decode cX10_best 108 = .ok (.iload_n 3, 1) := by decide +kernel
theorem dX10_best_109 : decode cX10_best 109 = .ok (.if_icmp .ge 41, 3) := by decide +kernel
theorem dX10_best_112 : decode cX10_best 112 = .ok (.iload 6, 2) := by decide +kernel
theorem dX10_best_114 : decode cX10_best 114 = .ok (.istore_n 3, 1) := by decide +kernel
theorem dX10_best_115 : decode cX10_best 115 = .ok (.iconst 0, 1) := by decide +kernel
theorem dX10_best_116 : decode cX10_best 116 = .ok (.istore 7, 2) := by decide +kernel
theorem dX10_best_118 : decode cX10_best 118 = .ok (.iload 7, 2) := by decide +kernel
theorem dX10_best_120 : decode cX10_best 120 = .ok (.aload_n 0, 1) := by decide +kernel
theorem dX10_best_121 : decode cX10_best 121 = .ok (.getfield 105, 3) := by decide +kernel
theorem dX10_best_124 : decode cX10_best 124 = .ok (.if_icmp .ge 26, 3) := by decide +kernel
theorem dX10_best_127 : decode cX10_best 127 = .ok (.aload_n 0, 1) := by decide +kernel
theorem dX10_best_128 : decode cX10_best 128 = .ok (.getfield 90, 3) := by decide +kernel
theorem dX10_best_131 : decode cX10_best 131 = .ok (.iload 7, 2) := by decide +kernel
theorem dX10_best_133 : decode cX10_best 133 = .ok (.aload_n 0, 1) := by decide +kernel
theorem dX10_best_134 : decode cX10_best 134 = .ok (.getfield 38, 3) := by decide +kernel
theorem dX10_best_137 : decode cX10_best 137 = .ok (.bipush 6, 2) := by decide +kernel
theorem dX10_best_139 : decode cX10_best 139 = .ok (.iload 7, 2) := by decide +kernel
theorem dX10_best_141 : decode cX10_best 141 = .ok (.iadd, 1) := by decide +kernel
theorem dX10_best_142 : decode cX10_best 142 = .ok (.iaload, 1) := by decide +kernel
theorem dX10_best_143 : decode cX10_best 143 = .ok (.iastore, 1) := by decide +kernel
theorem dX10_best_144 : decode cX10_best 144 = .ok (.iinc 7 1, 3) := by decide +kernel
theorem dX10_best_147 : decode cX10_best 147 = .ok (.goto (-29), 3) := by decide +kernel
theorem dX10_best_150 : decode cX10_best 150 = .ok (.iinc 4 1, 3) := by decide +kernel
theorem dX10_best_153 : decode cX10_best 153 = .ok (.goto (-106), 3) := by decide +kernel
theorem dX10_best_156 : decode cX10_best 156 = .ok (.aload_n 0, 1) := by decide +kernel
theorem dX10_best_157 : decode cX10_best 157 = .ok (.invokevirtual 248, 3) := by decide +kernel
theorem dX10_best_160 : decode cX10_best 160 = .ok (.iload_n 1, 1) := by decide +kernel
theorem dX10_best_161 : decode cX10_best 161 = .ok (.iconst (-1), 1) := by decide +kernel
theorem dX10_best_162 : decode cX10_best 162 = .ok (.if_icmp .ne 7, 3) := by decide +kernel
theorem dX10_best_165 : decode cX10_best 165 = .ok (.iload_n 3, 1) := by decide +kernel
theorem dX10_best_166 : decode cX10_best 166 = .ok (.goto 9, 3) := by decide +kernel
theorem dX10_best_169 : decode cX10_best 169 = .ok (.aload_n 0, 1) := by decide +kernel
theorem dX10_best_170 : decode cX10_best 170 = .ok (.getfield 90, 3) := by decide +kernel
theorem dX10_best_173 : decode cX10_best 173 = .ok (.iload_n 1, 1) := by decide +kernel
theorem dX10_best_174 : decode cX10_best 174 = .ok (.iaload, 1) := by decide +kernel
theorem dX10_best_175 : decode cX10_best 175 = .ok (.ireturn, 1) := by decide +kernel
theorem dX10_bestKick_0 : decode cX10_bestKick 0 = .ok (.aload_n 0, 1) := by decide +kernel
theorem dX10_bestKick_1 : decode cX10_bestKick 1 = .ok (.iload_n 1, 1) := by decide +kernel
theorem dX10_bestKick_2 : decode cX10_bestKick 2 = .ok (.invokevirtual 228, 3) := by decide +kernel
theorem dX10_bestKick_5 : decode cX10_bestKick 5 = .ok (.ifCond .ne 6, 3) := by decide +kernel
theorem dX10_bestKick_8 : decode cX10_bestKick 8 = .ok (.ldc 227, 2) := by decide +kernel
theorem dX10_bestKick_10 : decode cX10_bestKick 10 = .ok (.ireturn, 1) := by decide +kernel
theorem dX10_bestKick_11 : decode cX10_bestKick 11 = .ok (.iload_n 2, 1) := by decide +kernel
theorem dX10_bestKick_12 : decode cX10_bestKick 12 = .ok (.iconst 0, 1) := by decide +kernel
theorem dX10_bestKick_13 : decode cX10_bestKick 13 = .ok (.iconst 1, 1) := by decide +kernel
theorem dX10_bestKick_14 : decode cX10_bestKick 14 = .ok (.invokestatic 108, 3) := by decide +kernel
theorem dX10_bestKick_17 : decode cX10_bestKick 17 = .ok (.ifCond .ne 6, 3) := by decide +kernel
theorem dX10_bestKick_20 : decode cX10_bestKick 20 = .ok (.ldc 112, 2) := by decide +kernel
theorem dX10_bestKick_22 : decode cX10_bestKick 22 = .ok (.ireturn, 1) := by decide +kernel
theorem dX10_bestKick_23 : decode cX10_bestKick 23 = .ok (.aload_n 0, 1) := by decide +kernel
theorem dX10_bestKick_24 : decode cX10_bestKick 24 = .ok (.invokevirtual 245, 3) := by decide +kernel
theorem dX10_bestKick_27 : decode cX10_bestKick 27 = .ok (.iconst 0, 1) := by decide +kernel
theorem dX10_bestKick_28 : decode cX10_bestKick 28 = .ok (.istore_n 3, 1) := by decide +kernel
theorem dX10_bestKick_29 : decode cX10_bestKick 29 = .ok (.iconst 0, 1) := by decide +kernel
theorem dX10_bestKick_30 : decode cX10_bestKick 30 = .ok (.istore 4, 2) := by decide +kernel
theorem dX10_bestKick_32 : decode cX10_bestKick 32 = .ok (.iconst 1, 1) := by decide +kernel
theorem dX10_bestKick_33 : decode cX10_bestKick 33 = .ok (.istore 5, 2) := by decide +kernel
theorem dX10_bestKick_35 : decode cX10_bestKick 35 = .ok (.iload 5, 2) := by decide +kernel
theorem dX10_bestKick_37 : decode cX10_bestKick 37 = .ok (.bipush 10, 2) := by decide +kernel
theorem dX10_bestKick_39 : decode cX10_bestKick 39 = .ok (.if_icmp .ge 70, 3) := by decide +kernel
theorem dX10_bestKick_42 : decode cX10_bestKick 42 = .ok (.aload_n 0, 1) := by decide +kernel
theorem dX10_bestKick_43 : decode cX10_bestKick 43 = .ok (.getfield 38, 3) := by decide +kernel
theorem dX10_bestKick_46 : decode cX10_bestKick 46 = .ok (.bipush 12, 2) := by decide +kernel
theorem dX10_bestKick_48 : decode cX10_bestKick 48 = .ok (.iload_n 1, 1) := by decide +kernel
theorem dX10_bestKick_49 : decode cX10_bestKick 49 = .ok (.iadd, 1) := by decide +kernel
theorem dX10_bestKick_50 : decode cX10_bestKick 50 = .ok (.iload 5, 2) := by decide +kernel
theorem dX10_bestKick_52 : decode cX10_bestKick 52 = .ok (.iastore, 1) := by decide +kernel
theorem dX10_bestKick_53 : decode cX10_bestKick 53 = .ok (.aload_n 0, 1) := by decide +kernel
theorem dX10_bestKick_54 : decode cX10_bestKick 54 = .ok (.invokevirtual 223, 3) := by decide +kernel
theorem dX10_bestKick_57 : decode cX10_bestKick 57 = .ok (.istore 6, 2) := by decide +kernel
theorem dX10_bestKick_59 : decode cX10_bestKick 59 = .ok (.iload_n 3, 1) := by decide +kernel
theorem dX10_bestKick_60 : decode cX10_bestKick 60 = .ok (.ifCond .eq 10, 3) := by decide +kernel
theorem dX10_bestKick_63 : decode cX10_bestKick 63 = .ok (.iload 6, 2) := by decide +kernel
theorem dX10_bestKick_65 : decode cX10_bestKick 65 = .ok (.iload 4, 2) := by decide +kernel
theorem dX10_bestKick_67 : decode cX10_bestKick 67 = .ok (.if_icmp .ge 7, 3) := by decide +kernel
theorem dX10_bestKick_70 : decode cX10_bestKick 70 = .ok (.iconst 1, 1) := by decide +kernel
theorem dX10_bestKick_71 : decode cX10_bestKick 71 = .ok (.goto 4, 3) := by decide +kernel
theorem dX10_bestKick_74 : decode cX10_bestKick 74 = .ok (.iconst 0, 1) := by decide +kernel
theorem dX10_bestKick_75 : decode cX10_bestKick 75 = .ok (.istore 7, 2) := by decide +kernel
theorem dX10_bestKick_77 : decode cX10_bestKick 77 = .ok (.iload 7, 2) := by decide +kernel
theorem dX10_bestKick_79 : decode cX10_bestKick 79 = .ok (.ifCond .eq 8, 3) := by decide +kernel
theorem dX10_bestKick_82 : decode cX10_bestKick 82 = .ok (.iload 5, 2) := by decide +kernel
theorem dX10_bestKick_84 : decode cX10_bestKick 84 = .ok (.goto 4, 3) := by decide +kernel
theorem dX10_bestKick_87 : decode cX10_bestKick 87 = .ok (.iload_n 3, 1) := by decide +kernel
theorem dX10_bestKick_88 : decode cX10_bestKick 88 = .ok (.istore_n 3, 1) := by decide +kernel
theorem dX10_bestKick_89 : decode cX10_bestKick 89 = .ok (.iload 7, 2) := by decide +kernel
theorem dX10_bestKick_91 : decode cX10_bestKick 91 = .ok (.ifCond .eq 8, 3) := by decide +kernel
theorem dX10_bestKick_94 : decode cX10_bestKick 94 = .ok (.iload 6, 2) := by decide +kernel
theorem dX10_bestKick_96 : decode cX10_bestKick 96 = .ok (.goto 5, 3) := by decide +kernel
theorem dX10_bestKick_99 : decode cX10_bestKick 99 = .ok (.iload 4, 2) := by decide +kernel
theorem dX10_bestKick_101 : decode cX10_bestKick 101 = .ok (.istore 4, 2) := by decide +kernel
theorem dX10_bestKick_103 : decode cX10_bestKick 103 = .ok (.iinc 5 1, 3) := by decide +kernel
theorem dX10_bestKick_106 : decode cX10_bestKick 106 = .ok (.goto (-71), 3) := by decide +kernel
theorem dX10_bestKick_109 : decode cX10_bestKick 109 = .ok (.aload_n 0, 1) := by decide +kernel
theorem dX10_bestKick_110 : decode cX10_bestKick 110 = .ok (.invokevirtual 248, 3) := by decide +kernel
theorem dX10_bestKick_113 : decode cX10_bestKick 113 = .ok (.iload_n 2, 1) := by decide +kernel
theorem dX10_bestKick_114 : decode cX10_bestKick 114 = .ok (.ifCond .ne 7, 3) := by decide +kernel
theorem dX10_bestKick_117 : decode cX10_bestKick 117 = .ok (.iload_n 3, 1) := by decide +kernel
theorem dX10_bestKick_118 : decode cX10_bestKick 118 = .ok (.goto 5, 3) := by decide +kernel
theorem dX10_bestKick_121 : decode cX10_bestKick 121 = .ok (.iload 4, 2) := by decide +kernel
theorem dX10_bestKick_123 : decode cX10_bestKick 123 = .ok (.ireturn, 1) := by decide +kernel
theorem dX10_change_0 : decode cX10_change 0 = .ok (.iload_n 1, 1) := by decide +kernel
theorem dX10_change_1 : decode cX10_change 1 = .ok (.iconst 0, 1) := by decide +kernel
theorem dX10_change_2 : decode cX10_change 2 = .ok (.iconst 2, 1) := by decide +kernel
theorem dX10_change_3 : decode cX10_change 3 = .ok (.invokestatic 108, 3) := by decide +kernel
theorem dX10_change_6 : decode cX10_change 6 = .ok (.ifCond .eq 21, 3) := by decide +kernel
theorem dX10_change_9 : decode cX10_change 9 = .ok (.iload_n 2, 1) := by decide +kernel
theorem dX10_change_10 : decode cX10_change 10 = .ok (.iconst 0, 1) := by decide +kernel
theorem dX10_change_11 : decode cX10_change 11 = .ok (.iconst 2, 1) := by decide +kernel
theorem dX10_change_12 : decode cX10_change 12 = .ok (.invokestatic 108, 3) := by decide +kernel
theorem dX10_change_15 : decode cX10_change 15 = .ok (.ifCond .eq 12, 3) := by decide +kernel
theorem dX10_change_18 : decode cX10_change 18 = .ok (.iload_n 3, 1) := by decide +kernel
theorem dX10_change_19 : decode cX10_change 19 = .ok (.iconst 0, 1) := by decide +kernel
theorem dX10_change_20 : decode cX10_change 20 = .ok (.iconst 1, 1) := by decide +kernel
theorem dX10_change_21 : decode cX10_change 21 = .ok (.invokestatic 108, 3) := by decide +kernel
theorem dX10_change_24 : decode cX10_change 24 = .ok (.ifCond .ne 6, 3) := by decide +kernel
theorem dX10_change_27 : decode cX10_change 27 = .ok (.ldc 112, 2) := by decide +kernel
theorem dX10_change_29 : decode cX10_change 29 = .ok (.ireturn, 1) := by decide +kernel
theorem dX10_change_30 : decode cX10_change 30 = .ok (.aload_n 0, 1) := by decide +kernel
theorem dX10_change_31 : decode cX10_change 31 = .ok (.invokevirtual 245, 3) := by decide +kernel
theorem dX10_change_34 : decode cX10_change 34 = .ok (.iconst (-1), 1) := by decide +kernel
theorem dX10_change_35 : decode cX10_change 35 = .ok (.istore 4, 2) := by decide +kernel
theorem dX10_change_37 : decode cX10_change 37 = .ok (.iconst 0, 1) := by decide +kernel
theorem dX10_change_38 : decode cX10_change 38 = .ok (.istore 5, 2) := by decide +kernel
theorem dX10_change_40 : decode cX10_change 40 = .ok (.iconst 0, 1) := by decide +kernel
theorem dX10_change_41 : decode cX10_change 41 = .ok (.istore 6, 2) := by decide +kernel
theorem dX10_change_43 : decode cX10_change 43 = .ok (.iload 6, 2) := by decide +kernel
theorem dX10_change_45 : decode cX10_change 45 = .ok (.sipush 1000, 3) := by decide +kernel
theorem dX10_change_48 : decode cX10_change 48 = .ok (.if_icmp .gt 108, 3) := by decide +kernel
theorem dX10_change_51 : decode cX10_change 51 = .ok (.iconst 0, 1) := by decide +kernel
theorem dX10_change_52 : decode cX10_change 52 = .ok (.istore 7, 2) := by decide +kernel
theorem dX10_change_54 : decode cX10_change 54 = .ok (.iload 7, 2) := by decide +kernel
theorem dX10_change_56 : decode cX10_change 56 = .ok (.aload_n 0, 1) := by decide +kernel
theorem dX10_change_57 : decode cX10_change 57 = .ok (.getfield 105, 3) := by decide +kernel
theorem dX10_change_60 : decode cX10_change 60 = .ok (.if_icmp .ge 36, 3) := by decide +kernel
theorem dX10_change_63 : decode cX10_change 63 = .ok (.aload_n 0, 1) := by decide +kernel
theorem dX10_change_64 : decode cX10_change 64 = .ok (.getfield 38, 3) := by decide +kernel
theorem dX10_change_67 : decode cX10_change 67 = .ok (.bipush 6, 2) := by decide +kernel
theorem dX10_change_69 : decode cX10_change 69 = .ok (.iload 7, 2) := by decide +kernel
theorem dX10_change_71 : decode cX10_change 71 = .ok (.iadd, 1) := by decide +kernel
theorem dX10_change_72 : decode cX10_change 72 = .ok (.aload_n 0, 1) := by decide +kernel
theorem dX10_change_73 : decode cX10_change 73 = .ok (.getfield 38, 3) := by decide +kernel
theorem dX10_change_76 : decode cX10_change 76 = .ok (.iload 7, 2) := by decide +kernel
theorem dX10_change_78 : decode cX10_change 78 = .ok (.iaload, 1) := by decide +kernel
theorem dX10_change_79 : decode cX10_change 79 = .ok (.iload 6, 2) := by decide +kernel
theorem dX10_change_81 : decode cX10_change 81 = .ok (.if_icmp .ge 7, 3) := by decide +kernel
theorem dX10_change_84 : decode cX10_change 84 = .ok (.iload_n 1, 1) := by decide +kernel
theorem dX10_change_85 : decode cX10_change 85 = .ok (.goto 4, 3) := by decide +kernel
theorem dX10_change_88 : decode cX10_change 88 = .ok (.iload_n 2, 1) := by decide +kernel
theorem dX10_change_89 : decode cX10_change 89 = .ok (.iastore, 1) := by decide +kernel
theorem dX10_change_90 : decode cX10_change 90 = .ok (.iinc 7 1, 3) := by decide +kernel
theorem dX10_change_93 : decode cX10_change 93 = .ok (.goto (-39), 3) := by decide +kernel
theorem dX10_change_96 : decode cX10_change 96 = .ok (.aload_n 0, 1) := by decide +kernel
theorem dX10_change_97 : decode cX10_change 97 = .ok (.invokevirtual 223, 3) := by decide +kernel
theorem dX10_change_100 : decode cX10_change 100 = .ok (.istore 7, 2) := by decide +kernel
theorem dX10_change_102 : decode cX10_change 102 = .ok (.iload 4, 2) := by decide +kernel
theorem dX10_change_104 : decode cX10_change 104 = .ok (.iconst (-1), 1) := by decide +kernel
theorem dX10_change_105 : decode cX10_change 105 = .ok (.if_icmp .eq 10, 3) := by decide +kernel
theorem dX10_change_108 : decode cX10_change 108 = .ok (.iload 7, 2) := by decide +kernel
theorem dX10_change_110 : decode cX10_change 110 = .ok (.iload 5, 2) := by decide +kernel
theorem dX10_change_112 : decode cX10_change 112 = .ok (.if_icmp .ge 7, 3) := by decide +kernel
theorem dX10_change_115 : decode cX10_change 115 = .ok (.iconst 1, 1) := by decide +kernel
theorem dX10_change_116 : decode cX10_change 116 = .ok (.goto 4, 3) := by decide +kernel
theorem dX10_change_119 : decode cX10_change 119 = .ok (.iconst 0, 1) := by decide +kernel
theorem dX10_change_120 : decode cX10_change 120 = .ok (.istore 8, 2) := by decide +kernel
theorem dX10_change_122 : decode cX10_change 122 = .ok (.iload 8, 2) := by decide +kernel
theorem dX10_change_124 : decode cX10_change 124 = .ok (.ifCond .eq 8, 3) := by decide +kernel
theorem dX10_change_127 : decode cX10_change 127 = .ok (.iload 6, 2) := by decide +kernel
theorem dX10_change_129 : decode cX10_change 129 = .ok (.goto 5, 3) := by decide +kernel
theorem dX10_change_132 : decode cX10_change 132 = .ok (.iload 4, 2) := by decide +kernel
theorem dX10_change_134 : decode cX10_change 134 = .ok (.istore 4, 2) := by decide +kernel
theorem dX10_change_136 : decode cX10_change 136 = .ok (.iload 8, 2) := by decide +kernel
theorem dX10_change_138 : decode cX10_change 138 = .ok (.ifCond .eq 8, 3) := by decide +kernel
theorem dX10_change_141 : decode cX10_change 141 = .ok (.iload 7, 2) := by decide +kernel
theorem dX10_change_143 : decode cX10_change 143 = .ok (.goto 5, 3) := by decide +kernel
theorem dX10_change_146 : decode cX10_change 146 = .ok (.iload 5, 2) := by decide +kernel
theorem dX10_change_148 : decode cX10_change 148 = .ok (.istore 5, 2) := by decide +kernel
theorem dX10_change_150 : decode cX10_change 150 = .ok (.iinc 6 1, 3) := by decide +kernel
theorem dX10_change_153 : decode cX10_change 153 = .ok (.goto (-110), 3) := by decide +kernel
theorem dX10_change_156 : decode cX10_change 156 = .ok (.aload_n 0, 1) := by decide +kernel
theorem dX10_change_157 : decode cX10_change 157 = .ok (.invokevirtual 248, 3) := by decide +kernel
theorem dX10_change_160 : decode cX10_change 160 = .ok (.iload_n 3, 1) := by decide +kernel
theorem dX10_change_161 : decode cX10_change 161 = .ok (.ifCond .ne 8, 3) := by decide +kernel
theorem dX10_change_164 : decode cX10_change 164 = .ok (.iload 4, 2) := by decide +kernel
theorem dX10_change_166 : decode cX10_change 166 = .ok (.goto 5, 3) := by decide +kernel
theorem dX10_change_169 : decode cX10_change 169 = .ok (.iload 5, 2) := by decide +kernel
theorem dX10_change_171 : decode cX10_change 171 = .ok (.ireturn, 1) := by decide +kernel
theorem dX10_worth_0 : decode cX10_worth 0 = .ok (.iload_n 1, 1) := by decide +kernel
theorem dX10_worth_1 : decode cX10_worth 1 = .ok (.iconst 0, 1) := by decide +kernel
theorem dX10_worth_2 : decode cX10_worth 2 = .ok (.iconst 1, 1) := by decide +kernel
theorem dX10_worth_3 : decode cX10_worth 3 = .ok (.invokestatic 108, 3) := by decide +kernel
theorem dX10_worth_6 : decode cX10_worth 6 = .ok (.ifCond .eq 14, 3) := by decide +kernel
theorem dX10_worth_9 : decode cX10_worth 9 = .ok (.iload_n 2, 1) := by decide +kernel
theorem dX10_worth_10 : decode cX10_worth 10 = .ok (.iconst 0, 1) := by decide +kernel
theorem dX10_worth_11 : decode cX10_worth 11 = .ok (.sipush 999, 3) := by decide +kernel
theorem dX10_worth_14 : decode cX10_worth 14 = .ok (.invokestatic 108, 3) := by decide +kernel
theorem dX10_worth_17 : decode cX10_worth 17 = .ok (.ifCond .ne 6, 3) := by decide +kernel
theorem dX10_worth_20 : decode cX10_worth 20 = .ok (.ldc 112, 2) := by decide +kernel
theorem dX10_worth_22 : decode cX10_worth 22 = .ok (.ireturn, 1) := by decide +kernel
theorem dX10_worth_23 : decode cX10_worth 23 = .ok (.aload_n 0, 1) := by decide +kernel
theorem dX10_worth_24 : decode cX10_worth 24 = .ok (.invokevirtual 245, 3) := by decide +kernel
theorem dX10_worth_27 : decode cX10_worth 27 = .ok (.iload_n 1, 1) := by decide +kernel
theorem dX10_worth_28 : decode cX10_worth 28 = .ok (.ifCond .ne 11, 3) := by decide +kernel
theorem dX10_worth_31 : decode cX10_worth 31 = .ok (.aload_n 0, 1) := by decide +kernel
theorem dX10_worth_32 : decode cX10_worth 32 = .ok (.getfield 38, 3) := by decide +kernel
theorem dX10_worth_35 : decode cX10_worth 35 = .ok (.bipush 18, 2) := by decide +kernel
theorem dX10_worth_37 : decode cX10_worth 37 = .ok (.iconst 0, 1) := by decide +kernel
theorem dX10_worth_38 : decode cX10_worth 38 = .ok (.iastore, 1) := by decide +kernel
theorem dX10_worth_39 : decode cX10_worth 39 = .ok (.aload_n 0, 1) := by decide +kernel
theorem dX10_worth_40 : decode cX10_worth 40 = .ok (.invokevirtual 223, 3) := by decide +kernel
theorem dX10_worth_43 : decode cX10_worth 43 = .ok (.istore_n 3, 1) := by decide +kernel
theorem dX10_worth_44 : decode cX10_worth 44 = .ok (.iload_n 1, 1) := by decide +kernel
theorem dX10_worth_45 : decode cX10_worth 45 = .ok (.ifCond .ne 14, 3) := by decide +kernel
theorem dX10_worth_48 : decode cX10_worth 48 = .ok (.aload_n 0, 1) := by decide +kernel
theorem dX10_worth_49 : decode cX10_worth 49 = .ok (.getfield 38, 3) := by decide +kernel
theorem dX10_worth_52 : decode cX10_worth 52 = .ok (.bipush 18, 2) := by decide +kernel
theorem dX10_worth_54 : decode cX10_worth 54 = .ok (.iconst 1, 1) := by decide +kernel
theorem dX10_worth_55 : decode cX10_worth 55 = .ok (.iastore, 1) := by decide +kernel
theorem dX10_worth_56 : decode cX10_worth 56 = .ok (.goto 12, 3) := by decide +kernel
theorem dX10_worth_59 : decode cX10_worth 59 = .ok (.aload_n 0, 1) := by decide +kernel
theorem dX10_worth_60 : decode cX10_worth 60 = .ok (.getfield 38, 3) := by decide +kernel
theorem dX10_worth_63 : decode cX10_worth 63 = .ok (.bipush 19, 2) := by decide +kernel
theorem dX10_worth_65 : decode cX10_worth 65 = .ok (.bipush 9, 2) := by decide +kernel
theorem dX10_worth_67 : decode cX10_worth 67 = .ok (.iastore, 1) := by decide +kernel
theorem dX10_worth_68 : decode cX10_worth 68 = .ok (.aload_n 0, 1) := by decide +kernel
theorem dX10_worth_69 : decode cX10_worth 69 = .ok (.invokevirtual 223, 3) := by decide +kernel
theorem dX10_worth_72 : decode cX10_worth 72 = .ok (.istore 4, 2) := by decide +kernel
theorem dX10_worth_74 : decode cX10_worth 74 = .ok (.aload_n 0, 1) := by decide +kernel
theorem dX10_worth_75 : decode cX10_worth 75 = .ok (.invokevirtual 248, 3) := by decide +kernel
theorem dX10_worth_78 : decode cX10_worth 78 = .ok (.iload_n 2, 1) := by decide +kernel
theorem dX10_worth_79 : decode cX10_worth 79 = .ok (.iload_n 3, 1) := by decide +kernel
theorem dX10_worth_80 : decode cX10_worth 80 = .ok (.iload 4, 2) := by decide +kernel
theorem dX10_worth_82 : decode cX10_worth 82 = .ok (.isub, 1) := by decide +kernel
theorem dX10_worth_83 : decode cX10_worth 83 = .ok (.imul, 1) := by decide +kernel
theorem dX10_worth_84 : decode cX10_worth 84 = .ok (.ireturn, 1) := by decide +kernel
theorem dX10_apart_0 : decode cX10_apart 0 = .ok (.iload_n 1, 1) := by decide +kernel
theorem dX10_apart_1 : decode cX10_apart 1 = .ok (.iconst 0, 1) := by decide +kernel
theorem dX10_apart_2 : decode cX10_apart 2 = .ok (.iconst 1, 1) := by decide +kernel
theorem dX10_apart_3 : decode cX10_apart 3 = .ok (.invokestatic 108, 3) := by decide +kernel
theorem dX10_apart_6 : decode cX10_apart 6 = .ok (.ifCond .eq 13, 3) := by decide +kernel
theorem dX10_apart_9 : decode cX10_apart 9 = .ok (.iload_n 2, 1) := by decide +kernel
theorem dX10_apart_10 : decode cX10_apart 10 = .ok (.iconst 0, 1) := by decide +kernel
theorem dX10_apart_11 : decode cX10_apart 11 = .ok (.bipush 50, 2) := by decide +kernel
theorem dX10_apart_13 : decode cX10_apart 13 = .ok (.invokestatic 108, 3) := by decide +kernel
theorem dX10_apart_16 : decode cX10_apart 16 = .ok (.ifCond .ne 6, 3) := by decide +kernel
theorem dX10_apart_19 : decode cX10_apart 19 = .ok (.ldc 112, 2) := by decide +kernel
theorem dX10_apart_21 : decode cX10_apart 21 = .ok (.ireturn, 1) := by decide +kernel
theorem dX10_apart_22 : decode cX10_apart 22 = .ok (.aload_n 0, 1) := by decide +kernel
theorem dX10_apart_23 : decode cX10_apart 23 = .ok (.invokevirtual 245, 3) := by decide +kernel
theorem dX10_apart_26 : decode cX10_apart 26 = .ok (.iconst (-1), 1) := by decide +kernel
theorem dX10_apart_27 : decode cX10_apart 27 = .ok (.istore_n 3, 1) := by decide +kernel
theorem dX10_apart_28 : decode cX10_apart 28 = .ok (.iconst 0, 1) := by decide +kernel
theorem dX10_apart_29 : decode cX10_apart 29 = .ok (.istore 4, 2) := by decide +kernel
theorem dX10_apart_31 : decode cX10_apart 31 = .ok (.iload 4, 2) := by decide +kernel
theorem dX10_apart_33 : decode cX10_apart 33 = .ok (.aload_n 0, 1) := by decide +kernel
theorem dX10_apart_34 : decode cX10_apart 34 = .ok (.getfield 105, 3) := by decide +kernel
theorem dX10_apart_37 : decode cX10_apart 37 = .ok (.if_icmp .ge 48, 3) := by decide +kernel
theorem dX10_apart_40 : decode cX10_apart 40 = .ok (.aload_n 0, 1) := by decide +kernel
theorem dX10_apart_41 : decode cX10_apart 41 = .ok (.getfield 26, 3) := by decide +kernel
theorem dX10_apart_44 : decode cX10_apart 44 = .ok (.iload 4, 2) := by decide +kernel
theorem dX10_apart_46 : decode cX10_apart 46 = .ok (.iaload, 1) := by decide +kernel
theorem dX10_apart_47 : decode cX10_apart 47 = .ok (.iload_n 1, 1) := by decide +kernel
theorem dX10_apart_48 : decode cX10_apart 48 = .ok (.if_icmp .ne 29, 3) := by decide +kernel
theorem dX10_apart_51 : decode cX10_apart 51 = .ok (.iload_n 3, 1) := by decide +kernel
theorem dX10_apart_52 : decode cX10_apart 52 = .ok (.iconst (-1), 1) := by decide +kernel
theorem dX10_apart_53 : decode cX10_apart 53 = .ok (.if_icmp .eq 14, 3) := by decide +kernel
theorem dX10_apart_56 : decode cX10_apart 56 = .ok (.aload_n 0, 1) := by decide +kernel
theorem dX10_apart_57 : decode cX10_apart 57 = .ok (.getfield 38, 3) := by decide +kernel
theorem dX10_apart_60 : decode cX10_apart 60 = .ok (.iload 4, 2) := by decide +kernel
theorem dX10_apart_62 : decode cX10_apart 62 = .ok (.iaload, 1) := by decide +kernel
theorem dX10_apart_63 : decode cX10_apart 63 = .ok (.iload_n 3, 1) := by decide +kernel
theorem dX10_apart_64 : decode cX10_apart 64 = .ok (.if_icmp .ge 13, 3) := by decide +kernel
theorem dX10_apart_67 : decode cX10_apart 67 = .ok (.aload_n 0, 1) := by decide +kernel
theorem dX10_apart_68 : decode cX10_apart 68 = .ok (.getfield 38, 3) := by decide +kernel
theorem dX10_apart_71 : decode cX10_apart 71 = .ok (.iload 4, 2) := by decide +kernel
theorem dX10_apart_73 : decode cX10_apart 73 = .ok (.iaload, 1) := by decide +kernel
theorem dX10_apart_74 : decode cX10_apart 74 = .ok (.goto 4, 3) := by decide +kernel
theorem dX10_apart_77 : decode cX10_apart 77 = .ok (.iload_n 3, 1) := by decide +kernel
theorem dX10_apart_78 : decode cX10_apart 78 = .ok (.istore_n 3, 1) := by decide +kernel
theorem dX10_apart_79 : decode cX10_apart 79 = .ok (.iinc 4 1, 3) := by decide +kernel
theorem dX10_apart_82 : decode cX10_apart 82 = .ok (.goto (-51), 3) := by decide +kernel
theorem dX10_apart_85 : decode cX10_apart 85 = .ok (.iconst 0, 1) := by decide +kernel
theorem dX10_apart_86 : decode cX10_apart 86 = .ok (.istore 4, 2) := by decide +kernel
theorem dX10_apart_88 : decode cX10_apart 88 = .ok (.iconst 0, 1) := by decide +kernel
theorem dX10_apart_89 : decode cX10_apart 89 = .ok (.istore 5, 2) := by decide +kernel
theorem dX10_apart_91 : decode cX10_apart 91 = .ok (.iload 5, 2) := by decide +kernel
theorem dX10_apart_93 : decode cX10_apart 93 = .ok (.aload_n 0, 1) := by decide +kernel
theorem dX10_apart_94 : decode cX10_apart 94 = .ok (.getfield 105, 3) := by decide +kernel
theorem dX10_apart_97 : decode cX10_apart 97 = .ok (.if_icmp .ge 36, 3) := by decide +kernel
theorem dX10_apart_100 : decode cX10_apart 100 = .ok (.aload_n 0, 1) := by decide +kernel
theorem dX10_apart_101 : decode cX10_apart 101 = .ok (.getfield 26, 3) := by decide +kernel
theorem dX10_apart_104 : decode cX10_apart 104 = .ok (.iload 5, 2) := by decide +kernel
theorem dX10_apart_106 : decode cX10_apart 106 = .ok (.iaload, 1) := by decide +kernel
theorem dX10_apart_107 : decode cX10_apart 107 = .ok (.iload_n 1, 1) := by decide +kernel
theorem dX10_apart_108 : decode cX10_apart 108 = .ok (.if_icmp .ne 19, 3) := by decide +kernel
theorem dX10_apart_111 : decode cX10_apart 111 = .ok (.aload_n 0, 1) := by decide +kernel
theorem dX10_apart_112 : decode cX10_apart 112 = .ok (.getfield 38, 3) := by decide +kernel
theorem dX10_apart_115 : decode cX10_apart 115 = .ok (.iload 5, 2) := by decide +kernel
theorem dX10_apart_117 : decode cX10_apart 117 = .ok (.iload_n 3, 1) := by decide +kernel
theorem dX10_apart_118 : decode cX10_apart 118 = .ok (.iload_n 2, 1) := by decide +kernel
theorem dX10_apart_119 : decode cX10_apart 119 = .ok (.iload 4, 2) := by decide +kernel
theorem dX10_apart_121 : decode cX10_apart 121 = .ok (.imul, 1) := by decide +kernel
theorem dX10_apart_122 : decode cX10_apart 122 = .ok (.iadd, 1) := by decide +kernel
theorem dX10_apart_123 : decode cX10_apart 123 = .ok (.iastore, 1) := by decide +kernel
theorem dX10_apart_124 : decode cX10_apart 124 = .ok (.iinc 4 1, 3) := by decide +kernel
theorem dX10_apart_127 : decode cX10_apart 127 = .ok (.iinc 5 1, 3) := by decide +kernel
theorem dX10_apart_130 : decode cX10_apart 130 = .ok (.goto (-39), 3) := by decide +kernel
theorem dX10_apart_133 : decode cX10_apart 133 = .ok (.aload_n 0, 1) := by decide +kernel
theorem dX10_apart_134 : decode cX10_apart 134 = .ok (.invokevirtual 223, 3) := by decide +kernel
theorem dX10_apart_137 : decode cX10_apart 137 = .ok (.istore 5, 2) := by decide +kernel
theorem dX10_apart_139 : decode cX10_apart 139 = .ok (.aload_n 0, 1) := by decide +kernel
theorem dX10_apart_140 : decode cX10_apart 140 = .ok (.invokevirtual 248, 3) := by decide +kernel
theorem dX10_apart_143 : decode cX10_apart 143 = .ok (.iload 5, 2) := by decide +kernel
theorem dX10_apart_145 : decode cX10_apart 145 = .ok (.ireturn, 1) := by decide +kernel
theorem dX10_layPlaces_0 : decode cX10_layPlaces 0 = .ok (.iconst 0, 1) := by decide +kernel
theorem dX10_layPlaces_1 : decode cX10_layPlaces 1 = .ok (.istore_n 2, 1) := by decide +kernel
theorem dX10_layPlaces_2 : decode cX10_layPlaces 2 = .ok (.iconst 0, 1) := by decide +kernel
theorem dX10_layPlaces_3 : decode cX10_layPlaces 3 = .ok (.istore_n 3, 1) := by decide +kernel
theorem dX10_layPlaces_4 : decode cX10_layPlaces 4 = .ok (.iload_n 3, 1) := by decide +kernel
theorem dX10_layPlaces_5 : decode cX10_layPlaces 5 = .ok (.aload_n 0, 1) := by decide +kernel
theorem dX10_layPlaces_6 : decode cX10_layPlaces 6 = .ok (.getfield 105, 3) := by decide +kernel
theorem dX10_layPlaces_9 : decode cX10_layPlaces 9 = .ok (.if_icmp .ge 90, 3) := by decide +kernel
theorem dX10_layPlaces_12 : decode cX10_layPlaces 12 = .ok (.aload_n 0, 1) := by decide +kernel
theorem dX10_layPlaces_13 : decode cX10_layPlaces 13 = .ok (.getfield 26, 3) := by decide +kernel
theorem dX10_layPlaces_16 : decode cX10_layPlaces 16 = .ok (.iload_n 3, 1) := by decide +kernel
theorem dX10_layPlaces_17 : decode cX10_layPlaces 17 = .ok (.iaload, 1) := by decide +kernel
theorem dX10_layPlaces_18 : decode cX10_layPlaces 18 = .ok (.iload_n 1, 1) := by decide +kernel
theorem dX10_layPlaces_19 : decode cX10_layPlaces 19 = .ok (.if_icmp .ne 74, 3) := by decide +kernel
theorem dX10_layPlaces_22 : decode cX10_layPlaces 22 = .ok (.iload_n 2, 1) := by decide +kernel
theorem dX10_layPlaces_23 : decode cX10_layPlaces 23 = .ok (.istore 4, 2) := by decide +kernel
theorem dX10_layPlaces_25 : decode cX10_layPlaces 25 = .ok (.iload 4, 2) := by decide +kernel
theorem dX10_layPlaces_27 : decode cX10_layPlaces 27 = .ok (.ifCond .le 43, 3) := by decide +kernel
theorem dX10_layPlaces_30 : decode cX10_layPlaces 30 = .ok (.aload_n 0, 1) := by decide +kernel
theorem dX10_layPlaces_31 : decode cX10_layPlaces 31 = .ok (.getfield 96, 3) := by decide +kernel
theorem dX10_layPlaces_34 : decode cX10_layPlaces 34 = .ok (.iload 4, 2) := by decide +kernel
theorem dX10_layPlaces_36 : decode cX10_layPlaces 36 = .ok (.iconst 1, 1) := by decide +kernel
theorem dX10_layPlaces_37 : decode cX10_layPlaces 37 = .ok (.isub, 1) := by decide +kernel
theorem dX10_layPlaces_38 : decode cX10_layPlaces 38 = .ok (.iaload, 1) := by decide +kernel
theorem dX10_layPlaces_39 : decode cX10_layPlaces 39 = .ok (.aload_n 0, 1) := by decide +kernel
theorem dX10_layPlaces_40 : decode cX10_layPlaces 40 = .ok (.getfield 38, 3) := by decide +kernel
theorem dX10_layPlaces_43 : decode cX10_layPlaces 43 = .ok (.iload_n 3, 1) := by decide +kernel
theorem dX10_layPlaces_44 : decode cX10_layPlaces 44 = .ok (.iaload, 1) := by decide +kernel
theorem dX10_layPlaces_45 : decode cX10_layPlaces 45 = .ok (.if_icmp .le 25, 3) := by decide +kernel
theorem dX10_layPlaces_48 : decode cX10_layPlaces 48 = .ok (.aload_n 0, 1) := by decide +kernel
theorem dX10_layPlaces_49 : decode cX10_layPlaces 49 = .ok (.getfield 96, 3) := by decide +kernel
theorem dX10_layPlaces_52 : decode cX10_layPlaces 52 = .ok (.iload 4, 2) := by decide +kernel
theorem dX10_layPlaces_54 : decode cX10_layPlaces 54 = .ok (.aload_n 0, 1) := by decide +kernel
theorem dX10_layPlaces_55 : decode cX10_layPlaces 55 = .ok (.getfield 96, 3) := by decide +kernel
theorem dX10_layPlaces_58 : decode cX10_layPlaces 58 = .ok (.iload 4, 2) := by decide +kernel
theorem dX10_layPlaces_60 : decode cX10_layPlaces 60 = .ok (.iconst 1, 1) := by decide +kernel
theorem dX10_layPlaces_61 : decode cX10_layPlaces 61 = .ok (.isub, 1) := by decide +kernel
theorem dX10_layPlaces_62 : decode cX10_layPlaces 62 = .ok (.iaload, 1) := by decide +kernel
theorem dX10_layPlaces_63 : decode cX10_layPlaces 63 = .ok (.iastore, 1) := by decide +kernel
theorem dX10_layPlaces_64 : decode cX10_layPlaces 64 = .ok (.iinc 4 (-1), 3) := by decide +kernel
theorem dX10_layPlaces_67 : decode cX10_layPlaces 67 = .ok (.goto (-42), 3) := by decide +kernel
theorem dX10_layPlaces_70 : decode cX10_layPlaces 70 = .ok (.aload_n 0, 1) := by decide +kernel
theorem dX10_layPlaces_71 : decode cX10_layPlaces 71 = .ok (.getfield 96, 3) := by decide +kernel
theorem dX10_layPlaces_74 : decode cX10_layPlaces 74 = .ok (.iload 4, 2) := by decide +kernel
theorem dX10_layPlaces_76 : decode cX10_layPlaces 76 = .ok (.aload_n 0, 1) := by decide +kernel
theorem dX10_layPlaces_77 : decode cX10_layPlaces 77 = .ok (.getfield 38, 3) := by decide +kernel
theorem dX10_layPlaces_80 : decode cX10_layPlaces 80 = .ok (.iload_n 3, 1) := by decide +kernel
theorem dX10_layPlaces_81 : decode cX10_layPlaces 81 = .ok (.iaload, 1) := by decide +kernel
theorem dX10_layPlaces_82 : decode cX10_layPlaces 82 = .ok (.iastore, 1) := by decide +kernel
theorem dX10_layPlaces_83 : decode cX10_layPlaces 83 = .ok (.aload_n 0, 1) := by decide +kernel
theorem dX10_layPlaces_84 : decode cX10_layPlaces 84 = .ok (.getfield 93, 3) := by decide +kernel
theorem dX10_layPlaces_87 : decode cX10_layPlaces 87 = .ok (.iload_n 2, 1) := by decide +kernel
theorem dX10_layPlaces_88 : decode cX10_layPlaces 88 = .ok (.iload_n 3, 1) := by decide +kernel
theorem dX10_layPlaces_89 : decode cX10_layPlaces 89 = .ok (.iastore, 1) := by decide +kernel
theorem dX10_layPlaces_90 : decode cX10_layPlaces 90 = .ok (.iinc 2 1, 3) := by decide +kernel
theorem dX10_layPlaces_93 : decode cX10_layPlaces 93 = .ok (.iinc 3 1, 3) := by decide +kernel
theorem dX10_layPlaces_96 : decode cX10_layPlaces 96 = .ok (.goto (-92), 3) := by decide +kernel
theorem dX10_layPlaces_99 : decode cX10_layPlaces 99 = .ok (.iload_n 2, 1) := by decide +kernel
theorem dX10_layPlaces_100 : decode cX10_layPlaces 100 = .ok (.ireturn, 1) := by decide +kernel
theorem dX10_order_0 : decode cX10_order 0 = .ok (.iload_n 1, 1) := by decide +kernel
theorem dX10_order_1 : decode cX10_order 1 = .ok (.iconst 0, 1) := by decide +kernel
theorem dX10_order_2 : decode cX10_order 2 = .ok (.iconst 1, 1) := by decide +kernel
theorem dX10_order_3 : decode cX10_order 3 = .ok (.invokestatic 108, 3) := by decide +kernel
theorem dX10_order_6 : decode cX10_order 6 = .ok (.ifCond .ne 6, 3) := by decide +kernel
theorem dX10_order_9 : decode cX10_order 9 = .ok (.ldc 112, 2) := by decide +kernel
theorem dX10_order_11 : decode cX10_order 11 = .ok (.ireturn, 1) := by decide +kernel
theorem dX10_order_12 : decode cX10_order 12 = .ok (.aload_n 0, 1) := by decide +kernel
theorem dX10_order_13 : decode cX10_order 13 = .ok (.invokevirtual 245, 3) := by decide +kernel
theorem dX10_order_16 : decode cX10_order 16 = .ok (.aload_n 0, 1) := by decide +kernel
theorem dX10_order_17 : decode cX10_order 17 = .ok (.iload_n 1, 1) := by decide +kernel
theorem dX10_order_18 : decode cX10_order 18 = .ok (.invokevirtual 251, 3) := by decide +kernel
theorem dX10_order_21 : decode cX10_order 21 = .ok (.istore_n 3, 1) := by decide +kernel
theorem dX10_order_22 : decode cX10_order 22 = .ok (.iconst 1, 1) := by decide +kernel
theorem dX10_order_23 : decode cX10_order 23 = .ok (.istore 4, 2) := by decide +kernel
theorem dX10_order_25 : decode cX10_order 25 = .ok (.iconst 2, 1) := by decide +kernel
theorem dX10_order_26 : decode cX10_order 26 = .ok (.istore 5, 2) := by decide +kernel
theorem dX10_order_28 : decode cX10_order 28 = .ok (.iload 5, 2) := by decide +kernel
theorem dX10_order_30 : decode cX10_order 30 = .ok (.iload_n 3, 1) := by decide +kernel
theorem dX10_order_31 : decode cX10_order 31 = .ok (.if_icmp .gt 16, 3) := by decide +kernel
theorem dX10_order_34 : decode cX10_order 34 = .ok (.iload 4, 2) := by decide +kernel
theorem dX10_order_36 : decode cX10_order 36 = .ok (.iload 5, 2) := by decide +kernel
theorem dX10_order_38 : decode cX10_order 38 = .ok (.imul, 1) := by decide +kernel
theorem dX10_order_39 : decode cX10_order 39 = .ok (.istore 4, 2) := by decide +kernel
theorem dX10_order_41 : decode cX10_order 41 = .ok (.iinc 5 1, 3) := by decide +kernel
theorem dX10_order_44 : decode cX10_order 44 = .ok (.goto (-16), 3) := by decide +kernel
theorem dX10_order_47 : decode cX10_order 47 = .ok (.iconst (-1), 1) := by decide +kernel
theorem dX10_order_48 : decode cX10_order 48 = .ok (.istore 5, 2) := by decide +kernel
theorem dX10_order_50 : decode cX10_order 50 = .ok (.iconst 0, 1) := by decide +kernel
theorem dX10_order_51 : decode cX10_order 51 = .ok (.istore 6, 2) := by decide +kernel
theorem dX10_order_53 : decode cX10_order 53 = .ok (.iload 6, 2) := by decide +kernel
theorem dX10_order_55 : decode cX10_order 55 = .ok (.iload 4, 2) := by decide +kernel
theorem dX10_order_57 : decode cX10_order 57 = .ok (.if_icmp .ge 198, 3) := by decide +kernel
theorem dX10_order_60 : decode cX10_order 60 = .ok (.iload 6, 2) := by decide +kernel
theorem dX10_order_62 : decode cX10_order 62 = .ok (.istore 7, 2) := by decide +kernel
theorem dX10_order_64 : decode cX10_order 64 = .ok (.iconst 0, 1) := by decide +kernel
theorem dX10_order_65 : decode cX10_order 65 = .ok (.istore 8, 2) := by decide +kernel
theorem dX10_order_67 : decode cX10_order 67 = .ok (.iload 4, 2) := by decide +kernel
theorem dX10_order_69 : decode cX10_order 69 = .ok (.istore 9, 2) := by decide +kernel
theorem dX10_order_71 : decode cX10_order 71 = .ok (.iconst 0, 1) := by decide +kernel
theorem dX10_order_72 : decode cX10_order 72 = .ok (.istore 10, 2) := by decide +kernel
theorem dX10_order_74 : decode cX10_order 74 = .ok (.iload 10, 2) := by decide +kernel
theorem dX10_order_76 : decode cX10_order 76 = .ok (.iload_n 3, 1) := by decide +kernel
theorem dX10_order_77 : decode cX10_order 77 = .ok (.if_icmp .ge 120, 3) := by decide +kernel
theorem dX10_order_80 : decode cX10_order 80 = .ok (.iload 9, 2) := by decide +kernel
theorem dX10_order_82 : decode cX10_order 82 = .ok (.iload_n 3, 1) := by decide +kernel
theorem dX10_order_83 : decode cX10_order 83 = .ok (.iload 10, 2) := by decide +kernel
theorem dX10_order_85 : decode cX10_order 85 = .ok (.isub, 1) := by decide +kernel
theorem dX10_order_86 : decode cX10_order 86 = .ok (.idiv, 1) := by decide +kernel
theorem dX10_order_87 : decode cX10_order 87 = .ok (.istore 9, 2) := by decide +kernel
theorem dX10_order_89 : decode cX10_order 89 = .ok (.iload 7, 2) := by decide +kernel
theorem dX10_order_91 : decode cX10_order 91 = .ok (.iload 9, 2) := by decide +kernel
theorem dX10_order_93 : decode cX10_order 93 = .ok (.idiv, 1) := by decide +kernel
theorem dX10_order_94 : decode cX10_order 94 = .ok (.istore 11, 2) := by decide +kernel
theorem dX10_order_96 : decode cX10_order 96 = .ok (.iload 7, 2) := by decide +kernel
theorem dX10_order_98 : decode cX10_order 98 = .ok (.iload 9, 2) := by decide +kernel
theorem dX10_order_100 : decode cX10_order 100 = .ok (.irem, 1) := by decide +kernel
theorem dX10_order_101 : decode cX10_order 101 = .ok (.istore 7, 2) := by decide +kernel
theorem dX10_order_103 : decode cX10_order 103 = .ok (.iconst 0, 1) := by decide +kernel
theorem dX10_order_104 : decode cX10_order 104 = .ok (.istore 12, 2) := by decide +kernel
theorem dX10_order_106 : decode cX10_order 106 = .ok (.iload 8, 2) := by decide +kernel
theorem dX10_order_108 : decode cX10_order 108 = .ok (.iload 12, 2) := by decide +kernel
theorem dX10_order_110 : decode cX10_order 110 = .ok (.ishr, 1) := by decide +kernel
theorem dX10_order_111 : decode cX10_order 111 = .ok (.iconst 1, 1) := by decide +kernel
theorem dX10_order_112 : decode cX10_order 112 = .ok (.iand, 1) := by decide +kernel
theorem dX10_order_113 : decode cX10_order 113 = .ok (.iconst 1, 1) := by decide +kernel
theorem dX10_order_114 : decode cX10_order 114 = .ok (.if_icmp .eq 8, 3) := by decide +kernel
theorem dX10_order_117 : decode cX10_order 117 = .ok (.iload 11, 2) := by decide +kernel
theorem dX10_order_119 : decode cX10_order 119 = .ok (.ifCond .le 30, 3) := by decide +kernel
theorem dX10_order_122 : decode cX10_order 122 = .ok (.iload 11, 2) := by decide +kernel
theorem dX10_order_124 : decode cX10_order 124 = .ok (.iload 8, 2) := by decide +kernel
theorem dX10_order_126 : decode cX10_order 126 = .ok (.iload 12, 2) := by decide +kernel
theorem dX10_order_128 : decode cX10_order 128 = .ok (.ishr, 1) := by decide +kernel
theorem dX10_order_129 : decode cX10_order 129 = .ok (.iconst 1, 1) := by decide +kernel
theorem dX10_order_130 : decode cX10_order 130 = .ok (.iand, 1) := by decide +kernel
theorem dX10_order_131 : decode cX10_order 131 = .ok (.iconst 1, 1) := by decide +kernel
theorem dX10_order_132 : decode cX10_order 132 = .ok (.if_icmp .ne 7, 3) := by decide +kernel
theorem dX10_order_135 : decode cX10_order 135 = .ok (.iconst 0, 1) := by decide +kernel
theorem dX10_order_136 : decode cX10_order 136 = .ok (.goto 4, 3) := by decide +kernel
theorem dX10_order_139 : decode cX10_order 139 = .ok (.iconst 1, 1) := by decide +kernel
theorem dX10_order_140 : decode cX10_order 140 = .ok (.isub, 1) := by decide +kernel
theorem dX10_order_141 : decode cX10_order 141 = .ok (.istore 11, 2) := by decide +kernel
theorem dX10_order_143 : decode cX10_order 143 = .ok (.iinc 12 1, 3) := by decide +kernel
theorem dX10_order_146 : decode cX10_order 146 = .ok (.goto (-40), 3) := by decide +kernel
theorem dX10_order_149 : decode cX10_order 149 = .ok (.iload 8, 2) := by decide +kernel
theorem dX10_order_151 : decode cX10_order 151 = .ok (.iconst 1, 1) := by decide +kernel
theorem dX10_order_152 : decode cX10_order 152 = .ok (.iload 12, 2) := by decide +kernel
theorem dX10_order_154 : decode cX10_order 154 = .ok (.ishl, 1) := by decide +kernel
theorem dX10_order_155 : decode cX10_order 155 = .ok (.ior, 1) := by decide +kernel
theorem dX10_order_156 : decode cX10_order 156 = .ok (.istore 8, 2) := by decide +kernel
theorem dX10_order_158 : decode cX10_order 158 = .ok (.aload_n 0, 1) := by decide +kernel
theorem dX10_order_159 : decode cX10_order 159 = .ok (.getfield 38, 3) := by decide +kernel
theorem dX10_order_162 : decode cX10_order 162 = .ok (.aload_n 0, 1) := by decide +kernel
theorem dX10_order_163 : decode cX10_order 163 = .ok (.getfield 93, 3) := by decide +kernel
theorem dX10_order_166 : decode cX10_order 166 = .ok (.iload 12, 2) := by decide +kernel
theorem dX10_order_168 : decode cX10_order 168 = .ok (.iaload, 1) := by decide +kernel
theorem dX10_order_169 : decode cX10_order 169 = .ok (.aload_n 0, 1) := by decide +kernel
theorem dX10_order_170 : decode cX10_order 170 = .ok (.getfield 96, 3) := by decide +kernel
theorem dX10_order_173 : decode cX10_order 173 = .ok (.iload 10, 2) := by decide +kernel
theorem dX10_order_175 : decode cX10_order 175 = .ok (.iaload, 1) := by decide +kernel
theorem dX10_order_176 : decode cX10_order 176 = .ok (.iastore, 1) := by decide +kernel
theorem dX10_order_177 : decode cX10_order 177 = .ok (.aload_n 0, 1) := by decide +kernel
theorem dX10_order_178 : decode cX10_order 178 = .ok (.getfield 99, 3) := by decide +kernel
theorem dX10_order_181 : decode cX10_order 181 = .ok (.iload 10, 2) := by decide +kernel
theorem dX10_order_183 : decode cX10_order 183 = .ok (.aload_n 0, 1) := by decide +kernel
theorem dX10_order_184 : decode cX10_order 184 = .ok (.getfield 93, 3) := by decide +kernel
theorem dX10_order_187 : decode cX10_order 187 = .ok (.iload 12, 2) := by decide +kernel
theorem dX10_order_189 : decode cX10_order 189 = .ok (.iaload, 1) := by decide +kernel
theorem dX10_order_190 : decode cX10_order 190 = .ok (.iastore, 1) := by decide +kernel
theorem dX10_order_191 : decode cX10_order 191 = .ok (.iinc 10 1, 3) := by decide +kernel
theorem dX10_order_194 : decode cX10_order 194 = .ok (.goto (-120), 3) := by decide +kernel
theorem dX10_order_197 : decode cX10_order 197 = .ok (.aload_n 0, 1) := by decide +kernel
theorem dX10_order_198 : decode cX10_order 198 = .ok (.invokevirtual 223, 3) := by decide +kernel
theorem dX10_order_201 : decode cX10_order 201 = .ok (.istore 10, 2) := by decide +kernel
theorem dX10_order_203 : decode cX10_order 203 = .ok (.iload 5, 2) := by decide +kernel
theorem dX10_order_205 : decode cX10_order 205 = .ok (.iconst (-1), 1) := by decide +kernel
theorem dX10_order_206 : decode cX10_order 206 = .ok (.if_icmp .eq 10, 3) := by decide +kernel
theorem dX10_order_209 : decode cX10_order 209 = .ok (.iload 10, 2) := by decide +kernel
theorem dX10_order_211 : decode cX10_order 211 = .ok (.iload 5, 2) := by decide +kernel
theorem dX10_order_213 : decode cX10_order 213 = .ok (.if_icmp .ge 36, 3) := by decide +kernel
theorem dX10_order_216 : decode cX10_order 216 = .ok (.iload 10, 2) := by decide +kernel
theorem dX10_order_218 : decode cX10_order 218 = .ok (.istore 5, 2) := by decide +kernel
theorem dX10_order_220 : decode cX10_order 220 = .ok (.iconst 0, 1) := by decide +kernel
theorem dX10_order_221 : decode cX10_order 221 = .ok (.istore 11, 2) := by decide +kernel
theorem dX10_order_223 : decode cX10_order 223 = .ok (.iload 11, 2) := by decide +kernel
theorem dX10_order_225 : decode cX10_order 225 = .ok (.iload_n 3, 1) := by decide +kernel
theorem dX10_order_226 : decode cX10_order 226 = .ok (.if_icmp .ge 23, 3) := by decide +kernel
theorem dX10_order_229 : decode cX10_order 229 = .ok (.aload_n 0, 1) := by decide +kernel
theorem dX10_order_230 : decode cX10_order 230 = .ok (.getfield 90, 3) := by decide +kernel
theorem dX10_order_233 : decode cX10_order 233 = .ok (.iload 11, 2) := by decide +kernel
theorem dX10_order_235 : decode cX10_order 235 = .ok (.aload_n 0, 1) := by decide +kernel
theorem dX10_order_236 : decode cX10_order 236 = .ok (.getfield 99, 3) := by decide +kernel
theorem dX10_order_239 : decode cX10_order 239 = .ok (.iload 11, 2) := by decide +kernel
theorem dX10_order_241 : decode cX10_order 241 = .ok (.iaload, 1) := by decide +kernel
theorem dX10_order_242 : decode cX10_order 242 = .ok (.iastore, 1) := by decide +kernel
theorem dX10_order_243 : decode cX10_order 243 = .ok (.iinc 11 1, 3) := by decide +kernel
theorem dX10_order_246 : decode cX10_order 246 = .ok (.goto (-23), 3) := by decide +kernel
theorem dX10_order_249 : decode cX10_order 249 = .ok (.iinc 6 1, 3) := by decide +kernel
theorem dX10_order_252 : decode cX10_order 252 = .ok (.goto (-199), 3) := by decide +kernel
theorem dX10_order_255 : decode cX10_order 255 = .ok (.aload_n 0, 1) := by decide +kernel
theorem dX10_order_256 : decode cX10_order 256 = .ok (.invokevirtual 248, 3) := by decide +kernel
theorem dX10_order_259 : decode cX10_order 259 = .ok (.iload_n 2, 1) := by decide +kernel
theorem dX10_order_260 : decode cX10_order 260 = .ok (.iconst (-1), 1) := by decide +kernel
theorem dX10_order_261 : decode cX10_order 261 = .ok (.if_icmp .ne 8, 3) := by decide +kernel
theorem dX10_order_264 : decode cX10_order 264 = .ok (.iload 5, 2) := by decide +kernel
theorem dX10_order_266 : decode cX10_order 266 = .ok (.goto 24, 3) := by decide +kernel
theorem dX10_order_269 : decode cX10_order 269 = .ok (.iload_n 2, 1) := by decide +kernel
theorem dX10_order_270 : decode cX10_order 270 = .ok (.iconst 0, 1) := by decide +kernel
theorem dX10_order_271 : decode cX10_order 271 = .ok (.iload_n 3, 1) := by decide +kernel
theorem dX10_order_272 : decode cX10_order 272 = .ok (.iconst 1, 1) := by decide +kernel
theorem dX10_order_273 : decode cX10_order 273 = .ok (.isub, 1) := by decide +kernel
theorem dX10_order_274 : decode cX10_order 274 = .ok (.invokestatic 108, 3) := by decide +kernel
theorem dX10_order_277 : decode cX10_order 277 = .ok (.ifCond .eq 12, 3) := by decide +kernel
theorem dX10_order_280 : decode cX10_order 280 = .ok (.aload_n 0, 1) := by decide +kernel
theorem dX10_order_281 : decode cX10_order 281 = .ok (.getfield 90, 3) := by decide +kernel
theorem dX10_order_284 : decode cX10_order 284 = .ok (.iload_n 2, 1) := by decide +kernel
theorem dX10_order_285 : decode cX10_order 285 = .ok (.iaload, 1) := by decide +kernel
theorem dX10_order_286 : decode cX10_order 286 = .ok (.goto 4, 3) := by decide +kernel
theorem dX10_order_289 : decode cX10_order 289 = .ok (.iconst (-1), 1) := by decide +kernel
theorem dX10_order_290 : decode cX10_order 290 = .ok (.ireturn, 1) := by decide +kernel
theorem dX10_rests_0 : decode cX10_rests 0 = .ok (.aload_n 0, 1) := by decide +kernel
theorem dX10_rests_1 : decode cX10_rests 1 = .ok (.iload_n 1, 1) := by decide +kernel
theorem dX10_rests_2 : decode cX10_rests 2 = .ok (.invokevirtual 228, 3) := by decide +kernel
theorem dX10_rests_5 : decode cX10_rests 5 = .ok (.ifCond .eq 16, 3) := by decide +kernel
theorem dX10_rests_8 : decode cX10_rests 8 = .ok (.aload_n 0, 1) := by decide +kernel
theorem dX10_rests_9 : decode cX10_rests 9 = .ok (.iload_n 2, 1) := by decide +kernel
theorem dX10_rests_10 : decode cX10_rests 10 = .ok (.invokevirtual 228, 3) := by decide +kernel
theorem dX10_rests_13 : decode cX10_rests 13 = .ok (.ifCond .eq 8, 3) := by decide +kernel
theorem dX10_rests_16 : decode cX10_rests 16 = .ok (.iload_n 1, 1) := by decide +kernel
theorem dX10_rests_17 : decode cX10_rests 17 = .ok (.iload_n 2, 1) := by decide +kernel
theorem dX10_rests_18 : decode cX10_rests 18 = .ok (.if_icmp .ne 6, 3) := by decide +kernel
theorem dX10_rests_21 : decode cX10_rests 21 = .ok (.ldc 227, 2) := by decide +kernel
theorem dX10_rests_23 : decode cX10_rests 23 = .ok (.ireturn, 1) := by decide +kernel
theorem dX10_rests_24 : decode cX10_rests 24 = .ok (.aload_n 0, 1) := by decide +kernel
theorem dX10_rests_25 : decode cX10_rests 25 = .ok (.getfield 26, 3) := by decide +kernel
theorem dX10_rests_28 : decode cX10_rests 28 = .ok (.iload_n 1, 1) := by decide +kernel
theorem dX10_rests_29 : decode cX10_rests 29 = .ok (.iaload, 1) := by decide +kernel
theorem dX10_rests_30 : decode cX10_rests 30 = .ok (.aload_n 0, 1) := by decide +kernel
theorem dX10_rests_31 : decode cX10_rests 31 = .ok (.getfield 26, 3) := by decide +kernel
theorem dX10_rests_34 : decode cX10_rests 34 = .ok (.iload_n 2, 1) := by decide +kernel
theorem dX10_rests_35 : decode cX10_rests 35 = .ok (.iaload, 1) := by decide +kernel
theorem dX10_rests_36 : decode cX10_rests 36 = .ok (.if_icmp .ne 6, 3) := by decide +kernel
theorem dX10_rests_39 : decode cX10_rests 39 = .ok (.ldc 241, 2) := by decide +kernel
theorem dX10_rests_41 : decode cX10_rests 41 = .ok (.ireturn, 1) := by decide +kernel
theorem dX10_rests_42 : decode cX10_rests 42 = .ok (.iconst 0, 1) := by decide +kernel
theorem dX10_rests_43 : decode cX10_rests 43 = .ok (.istore_n 3, 1) := by decide +kernel
theorem dX10_rests_44 : decode cX10_rests 44 = .ok (.iconst 0, 1) := by decide +kernel
theorem dX10_rests_45 : decode cX10_rests 45 = .ok (.istore 4, 2) := by decide +kernel
theorem dX10_rests_47 : decode cX10_rests 47 = .ok (.iload 4, 2) := by decide +kernel
theorem dX10_rests_49 : decode cX10_rests 49 = .ok (.iconst 2, 1) := by decide +kernel
theorem dX10_rests_50 : decode cX10_rests 50 = .ok (.if_icmp .ge 102, 3) := by decide +kernel
theorem dX10_rests_53 : decode cX10_rests 53 = .ok (.iconst 0, 1) := by decide +kernel
theorem dX10_rests_54 : decode cX10_rests 54 = .ok (.istore 5, 2) := by decide +kernel
theorem dX10_rests_56 : decode cX10_rests 56 = .ok (.iload 5, 2) := by decide +kernel
theorem dX10_rests_58 : decode cX10_rests 58 = .ok (.iconst 2, 1) := by decide +kernel
theorem dX10_rests_59 : decode cX10_rests 59 = .ok (.if_icmp .ge 87, 3) := by decide +kernel
theorem dX10_rests_62 : decode cX10_rests 62 = .ok (.aload_n 0, 1) := by decide +kernel
theorem dX10_rests_63 : decode cX10_rests 63 = .ok (.iload_n 1, 1) := by decide +kernel
theorem dX10_rests_64 : decode cX10_rests 64 = .ok (.iload_n 2, 1) := by decide +kernel
theorem dX10_rests_65 : decode cX10_rests 65 = .ok (.iload 4, 2) := by decide +kernel
theorem dX10_rests_67 : decode cX10_rests 67 = .ok (.iload 5, 2) := by decide +kernel
theorem dX10_rests_69 : decode cX10_rests 69 = .ok (.invokevirtual 254, 3) := by decide +kernel
theorem dX10_rests_72 : decode cX10_rests 72 = .ok (.aload_n 0, 1) := by decide +kernel
theorem dX10_rests_73 : decode cX10_rests 73 = .ok (.iload_n 1, 1) := by decide +kernel
theorem dX10_rests_74 : decode cX10_rests 74 = .ok (.iload_n 2, 1) := by decide +kernel
theorem dX10_rests_75 : decode cX10_rests 75 = .ok (.iconst 1, 1) := by decide +kernel
theorem dX10_rests_76 : decode cX10_rests 76 = .ok (.iload 4, 2) := by decide +kernel
theorem dX10_rests_78 : decode cX10_rests 78 = .ok (.isub, 1) := by decide +kernel
theorem dX10_rests_79 : decode cX10_rests 79 = .ok (.iload 5, 2) := by decide +kernel
theorem dX10_rests_81 : decode cX10_rests 81 = .ok (.invokevirtual 254, 3) := by decide +kernel
theorem dX10_rests_84 : decode cX10_rests 84 = .ok (.if_icmp .gt 32, 3) := by decide +kernel
theorem dX10_rests_87 : decode cX10_rests 87 = .ok (.aload_n 0, 1) := by decide +kernel
theorem dX10_rests_88 : decode cX10_rests 88 = .ok (.iload_n 2, 1) := by decide +kernel
theorem dX10_rests_89 : decode cX10_rests 89 = .ok (.iload_n 1, 1) := by decide +kernel
theorem dX10_rests_90 : decode cX10_rests 90 = .ok (.iload 5, 2) := by decide +kernel
theorem dX10_rests_92 : decode cX10_rests 92 = .ok (.iload 4, 2) := by decide +kernel
theorem dX10_rests_94 : decode cX10_rests 94 = .ok (.invokevirtual 254, 3) := by decide +kernel
theorem dX10_rests_97 : decode cX10_rests 97 = .ok (.aload_n 0, 1) := by decide +kernel
theorem dX10_rests_98 : decode cX10_rests 98 = .ok (.iload_n 2, 1) := by decide +kernel
theorem dX10_rests_99 : decode cX10_rests 99 = .ok (.iload_n 1, 1) := by decide +kernel
theorem dX10_rests_100 : decode cX10_rests 100 = .ok (.iconst 1, 1) := by decide +kernel
theorem dX10_rests_101 : decode cX10_rests 101 = .ok (.iload 5, 2) := by decide +kernel
theorem dX10_rests_103 : decode cX10_rests 103 = .ok (.isub, 1) := by decide +kernel
theorem dX10_rests_104 : decode cX10_rests 104 = .ok (.iload 4, 2) := by decide +kernel
theorem dX10_rests_106 : decode cX10_rests 106 = .ok (.invokevirtual 254, 3) := by decide +kernel
theorem dX10_rests_109 : decode cX10_rests 109 = .ok (.if_icmp .gt 7, 3) := by decide +kernel
theorem dX10_rests_112 : decode cX10_rests 112 = .ok (.iconst 1, 1) := by decide +kernel
theorem dX10_rests_113 : decode cX10_rests 113 = .ok (.goto 4, 3) := by decide +kernel
theorem dX10_rests_116 : decode cX10_rests 116 = .ok (.iconst 0, 1) := by decide +kernel
theorem dX10_rests_117 : decode cX10_rests 117 = .ok (.istore 6, 2) := by decide +kernel
theorem dX10_rests_119 : decode cX10_rests 119 = .ok (.iload_n 3, 1) := by decide +kernel
theorem dX10_rests_120 : decode cX10_rests 120 = .ok (.iload 6, 2) := by decide +kernel
theorem dX10_rests_122 : decode cX10_rests 122 = .ok (.ifCond .eq 15, 3) := by decide +kernel
theorem dX10_rests_125 : decode cX10_rests 125 = .ok (.iconst 1, 1) := by decide +kernel
theorem dX10_rests_126 : decode cX10_rests 126 = .ok (.iconst 2, 1) := by decide +kernel
theorem dX10_rests_127 : decode cX10_rests 127 = .ok (.iload 4, 2) := by decide +kernel
theorem dX10_rests_129 : decode cX10_rests 129 = .ok (.imul, 1) := by decide +kernel
theorem dX10_rests_130 : decode cX10_rests 130 = .ok (.iload 5, 2) := by decide +kernel
theorem dX10_rests_132 : decode cX10_rests 132 = .ok (.iadd, 1) := by decide +kernel
theorem dX10_rests_133 : decode cX10_rests 133 = .ok (.ishl, 1) := by decide +kernel
theorem dX10_rests_134 : decode cX10_rests 134 = .ok (.goto 4, 3) := by decide +kernel
theorem dX10_rests_137 : decode cX10_rests 137 = .ok (.iconst 0, 1) := by decide +kernel
theorem dX10_rests_138 : decode cX10_rests 138 = .ok (.ior, 1) := by decide +kernel
theorem dX10_rests_139 : decode cX10_rests 139 = .ok (.istore_n 3, 1) := by decide +kernel
theorem dX10_rests_140 : decode cX10_rests 140 = .ok (.iinc 5 1, 3) := by decide +kernel
theorem dX10_rests_143 : decode cX10_rests 143 = .ok (.goto (-87), 3) := by decide +kernel
theorem dX10_rests_146 : decode cX10_rests 146 = .ok (.iinc 4 1, 3) := by decide +kernel
theorem dX10_rests_149 : decode cX10_rests 149 = .ok (.goto (-102), 3) := by decide +kernel
theorem dX10_rests_152 : decode cX10_rests 152 = .ok (.iload_n 3, 1) := by decide +kernel
theorem dX10_rests_153 : decode cX10_rests 153 = .ok (.ireturn, 1) := by decide +kernel
theorem dX10_loss_0 : decode cX10_loss 0 = .ok (.iload_n 3, 1) := by decide +kernel
theorem dX10_loss_1 : decode cX10_loss 1 = .ok (.ifCond .ne 22, 3) := by decide +kernel
theorem dX10_loss_4 : decode cX10_loss 4 = .ok (.iload 4, 2) := by decide +kernel
theorem dX10_loss_6 : decode cX10_loss 6 = .ok (.ifCond .ne 15, 3) := by decide +kernel
theorem dX10_loss_9 : decode cX10_loss 9 = .ok (.aload_n 0, 1) := by decide +kernel
theorem dX10_loss_10 : decode cX10_loss 10 = .ok (.getfield 32, 3) := by decide +kernel
theorem dX10_loss_13 : decode cX10_loss 13 = .ok (.iload_n 1, 1) := by decide +kernel
theorem dX10_loss_14 : decode cX10_loss 14 = .ok (.iaload, 1) := by decide +kernel
theorem dX10_loss_15 : decode cX10_loss 15 = .ok (.bipush 20, 2) := by decide +kernel
theorem dX10_loss_17 : decode cX10_loss 17 = .ok (.iadd, 1) := by decide +kernel
theorem dX10_loss_18 : decode cX10_loss 18 = .ok (.goto 4, 3) := by decide +kernel
theorem dX10_loss_21 : decode cX10_loss 21 = .ok (.iconst 0, 1) := by decide +kernel
theorem dX10_loss_22 : decode cX10_loss 22 = .ok (.ireturn, 1) := by decide +kernel
theorem dX10_loss_23 : decode cX10_loss 23 = .ok (.iload 4, 2) := by decide +kernel
theorem dX10_loss_25 : decode cX10_loss 25 = .ok (.ifCond .ne 12, 3) := by decide +kernel
theorem dX10_loss_28 : decode cX10_loss 28 = .ok (.aload_n 0, 1) := by decide +kernel
theorem dX10_loss_29 : decode cX10_loss 29 = .ok (.getfield 29, 3) := by decide +kernel
theorem dX10_loss_32 : decode cX10_loss 32 = .ok (.iload_n 2, 1) := by decide +kernel
theorem dX10_loss_33 : decode cX10_loss 33 = .ok (.iaload, 1) := by decide +kernel
theorem dX10_loss_34 : decode cX10_loss 34 = .ok (.goto 5, 3) := by decide +kernel
theorem dX10_loss_37 : decode cX10_loss 37 = .ok (.bipush 9, 2) := by decide +kernel
theorem dX10_loss_39 : decode cX10_loss 39 = .ok (.ireturn, 1) := by decide +kernel
theorem dX10_stack_0 : decode cX10_stack 0 = .ok (.iload_n 1, 1) := by decide +kernel
theorem dX10_stack_1 : decode cX10_stack 1 = .ok (.iconst 0, 1) := by decide +kernel
theorem dX10_stack_2 : decode cX10_stack 2 = .ok (.bipush 100, 2) := by decide +kernel
theorem dX10_stack_4 : decode cX10_stack 4 = .ok (.invokestatic 108, 3) := by decide +kernel
theorem dX10_stack_7 : decode cX10_stack 7 = .ok (.ifCond .ne 6, 3) := by decide +kernel
theorem dX10_stack_10 : decode cX10_stack 10 = .ok (.ldc 112, 2) := by decide +kernel
theorem dX10_stack_12 : decode cX10_stack 12 = .ok (.ireturn, 1) := by decide +kernel
theorem dX10_stack_13 : decode cX10_stack 13 = .ok (.iconst 0, 1) := by decide +kernel
theorem dX10_stack_14 : decode cX10_stack 14 = .ok (.istore_n 2, 1) := by decide +kernel
theorem dX10_stack_15 : decode cX10_stack 15 = .ok (.iconst (-1), 1) := by decide +kernel
theorem dX10_stack_16 : decode cX10_stack 16 = .ok (.istore_n 3, 1) := by decide +kernel
theorem dX10_stack_17 : decode cX10_stack 17 = .ok (.iconst 1, 1) := by decide +kernel
theorem dX10_stack_18 : decode cX10_stack 18 = .ok (.istore 4, 2) := by decide +kernel
theorem dX10_stack_20 : decode cX10_stack 20 = .ok (.iload 4, 2) := by decide +kernel
theorem dX10_stack_22 : decode cX10_stack 22 = .ok (.bipush 10, 2) := by decide +kernel
theorem dX10_stack_24 : decode cX10_stack 24 = .ok (.if_icmp .ge 60, 3) := by decide +kernel
theorem dX10_stack_27 : decode cX10_stack 27 = .ok (.bipush 100, 2) := by decide +kernel
theorem dX10_stack_29 : decode cX10_stack 29 = .ok (.iload_n 1, 1) := by decide +kernel
theorem dX10_stack_30 : decode cX10_stack 30 = .ok (.iload 4, 2) := by decide +kernel
theorem dX10_stack_32 : decode cX10_stack 32 = .ok (.imul, 1) := by decide +kernel
theorem dX10_stack_33 : decode cX10_stack 33 = .ok (.isub, 1) := by decide +kernel
theorem dX10_stack_34 : decode cX10_stack 34 = .ok (.istore 5, 2) := by decide +kernel
theorem dX10_stack_36 : decode cX10_stack 36 = .ok (.iload 5, 2) := by decide +kernel
theorem dX10_stack_38 : decode cX10_stack 38 = .ok (.ifCond .ge 7, 3) := by decide +kernel
theorem dX10_stack_41 : decode cX10_stack 41 = .ok (.iconst 0, 1) := by decide +kernel
theorem dX10_stack_42 : decode cX10_stack 42 = .ok (.goto 8, 3) := by decide +kernel
theorem dX10_stack_45 : decode cX10_stack 45 = .ok (.iload 4, 2) := by decide +kernel
theorem dX10_stack_47 : decode cX10_stack 47 = .ok (.iload 5, 2) := by decide +kernel
theorem dX10_stack_49 : decode cX10_stack 49 = .ok (.imul, 1) := by decide +kernel
theorem dX10_stack_50 : decode cX10_stack 50 = .ok (.istore 5, 2) := by decide +kernel
theorem dX10_stack_52 : decode cX10_stack 52 = .ok (.iload 5, 2) := by decide +kernel
theorem dX10_stack_54 : decode cX10_stack 54 = .ok (.iload_n 3, 1) := by decide +kernel
theorem dX10_stack_55 : decode cX10_stack 55 = .ok (.if_icmp .le 8, 3) := by decide +kernel
theorem dX10_stack_58 : decode cX10_stack 58 = .ok (.iload 4, 2) := by decide +kernel
theorem dX10_stack_60 : decode cX10_stack 60 = .ok (.goto 4, 3) := by decide +kernel
theorem dX10_stack_63 : decode cX10_stack 63 = .ok (.iload_n 2, 1) := by decide +kernel
theorem dX10_stack_64 : decode cX10_stack 64 = .ok (.istore_n 2, 1) := by decide +kernel
theorem dX10_stack_65 : decode cX10_stack 65 = .ok (.iload 5, 2) := by decide +kernel
theorem dX10_stack_67 : decode cX10_stack 67 = .ok (.iload_n 3, 1) := by decide +kernel
theorem dX10_stack_68 : decode cX10_stack 68 = .ok (.if_icmp .le 8, 3) := by decide +kernel
theorem dX10_stack_71 : decode cX10_stack 71 = .ok (.iload 5, 2) := by decide +kernel
theorem dX10_stack_73 : decode cX10_stack 73 = .ok (.goto 4, 3) := by decide +kernel
theorem dX10_stack_76 : decode cX10_stack 76 = .ok (.iload_n 3, 1) := by decide +kernel
theorem dX10_stack_77 : decode cX10_stack 77 = .ok (.istore_n 3, 1) := by decide +kernel
theorem dX10_stack_78 : decode cX10_stack 78 = .ok (.iinc 4 1, 3) := by decide +kernel
theorem dX10_stack_81 : decode cX10_stack 81 = .ok (.goto (-61), 3) := by decide +kernel
theorem dX10_stack_84 : decode cX10_stack 84 = .ok (.iload_n 2, 1) := by decide +kernel
theorem dX10_stack_85 : decode cX10_stack 85 = .ok (.ireturn, 1) := by decide +kernel
theorem dX10_until_0 : decode cX10_until 0 = .ok (.iload_n 1, 1) := by decide +kernel
theorem dX10_until_1 : decode cX10_until 1 = .ok (.iconst 0, 1) := by decide +kernel
theorem dX10_until_2 : decode cX10_until 2 = .ok (.sipush 1000, 3) := by decide +kernel
theorem dX10_until_5 : decode cX10_until 5 = .ok (.invokestatic 108, 3) := by decide +kernel
theorem dX10_until_8 : decode cX10_until 8 = .ok (.ifCond .eq 13, 3) := by decide +kernel
theorem dX10_until_11 : decode cX10_until 11 = .ok (.iload_n 2, 1) := by decide +kernel
theorem dX10_until_12 : decode cX10_until 12 = .ok (.iconst 0, 1) := by decide +kernel
theorem dX10_until_13 : decode cX10_until 13 = .ok (.bipush 100, 2) := by decide +kernel
theorem dX10_until_15 : decode cX10_until 15 = .ok (.invokestatic 108, 3) := by decide +kernel
theorem dX10_until_18 : decode cX10_until 18 = .ok (.ifCond .ne 6, 3) := by decide +kernel
theorem dX10_until_21 : decode cX10_until 21 = .ok (.ldc 112, 2) := by decide +kernel
theorem dX10_until_23 : decode cX10_until 23 = .ok (.ireturn, 1) := by decide +kernel
theorem dX10_until_24 : decode cX10_until 24 = .ok (.ldc2_w 258, 3) := by decide +kernel
theorem dX10_until_27 : decode cX10_until 27 = .ok (.lstore_n 3, 1) := by decide +kernel
theorem dX10_until_28 : decode cX10_until 28 = .ok (.iload_n 2, 1) := by decide +kernel
theorem dX10_until_29 : decode cX10_until 29 = .ok (.i2l, 1) := by decide +kernel
theorem dX10_until_30 : decode cX10_until 30 = .ok (.ldc2_w 260, 3) := by decide +kernel
theorem dX10_until_33 : decode cX10_until 33 = .ok (.lmul, 1) := by decide +kernel
theorem dX10_until_34 : decode cX10_until 34 = .ok (.lstore 5, 2) := by decide +kernel
theorem dX10_until_36 : decode cX10_until 36 = .ok (.iconst 0, 1) := by decide +kernel
theorem dX10_until_37 : decode cX10_until 37 = .ok (.istore 7, 2) := by decide +kernel
theorem dX10_until_39 : decode cX10_until 39 = .ok (.iload 7, 2) := by decide +kernel
theorem dX10_until_41 : decode cX10_until 41 = .ok (.sipush 10000, 3) := by decide +kernel
theorem dX10_until_44 : decode cX10_until 44 = .ok (.if_icmp .ge 32, 3) := by decide +kernel
theorem dX10_until_47 : decode cX10_until 47 = .ok (.lload_n 3, 1) := by decide +kernel
theorem dX10_until_48 : decode cX10_until 48 = .ok (.lload 5, 2) := by decide +kernel
theorem dX10_until_50 : decode cX10_until 50 = .ok (.lcmp, 1) := by decide +kernel
theorem dX10_until_51 : decode cX10_until 51 = .ok (.ifCond .gt 6, 3) := by decide +kernel
theorem dX10_until_54 : decode cX10_until 54 = .ok (.iload 7, 2) := by decide +kernel
theorem dX10_until_56 : decode cX10_until 56 = .ok (.ireturn, 1) := by decide +kernel
theorem dX10_until_57 : decode cX10_until 57 = .ok (.lload_n 3, 1) := by decide +kernel
theorem dX10_until_58 : decode cX10_until 58 = .ok (.sipush 1000, 3) := by decide +kernel
theorem dX10_until_61 : decode cX10_until 61 = .ok (.iload_n 1, 1) := by decide +kernel
theorem dX10_until_62 : decode cX10_until 62 = .ok (.isub, 1) := by decide +kernel
theorem dX10_until_63 : decode cX10_until 63 = .ok (.i2l, 1) := by decide +kernel
theorem dX10_until_64 : decode cX10_until 64 = .ok (.lmul, 1) := by decide +kernel
theorem dX10_until_65 : decode cX10_until 65 = .ok (.ldc2_w 262, 3) := by decide +kernel
theorem dX10_until_68 : decode cX10_until 68 = .ok (.ldiv, 1) := by decide +kernel
theorem dX10_until_69 : decode cX10_until 69 = .ok (.lstore_n 3, 1) := by decide +kernel
theorem dX10_until_70 : decode cX10_until 70 = .ok (.iinc 7 1, 3) := by decide +kernel
theorem dX10_until_73 : decode cX10_until 73 = .ok (.goto (-34), 3) := by decide +kernel
theorem dX10_until_76 : decode cX10_until 76 = .ok (.iconst (-1), 1) := by decide +kernel
theorem dX10_until_77 : decode cX10_until 77 = .ok (.ireturn, 1) := by decide +kernel
theorem dX10_unheard_0 : decode cX10_unheard 0 = .ok (.iload_n 1, 1) := by decide +kernel
theorem dX10_unheard_1 : decode cX10_unheard 1 = .ok (.iconst 0, 1) := by decide +kernel
theorem dX10_unheard_2 : decode cX10_unheard 2 = .ok (.bipush 100, 2) := by decide +kernel
theorem dX10_unheard_4 : decode cX10_unheard 4 = .ok (.invokestatic 108, 3) := by decide +kernel
theorem dX10_unheard_7 : decode cX10_unheard 7 = .ok (.ifCond .eq 22, 3) := by decide +kernel
theorem dX10_unheard_10 : decode cX10_unheard 10 = .ok (.iload_n 2, 1) := by decide +kernel
theorem dX10_unheard_11 : decode cX10_unheard 11 = .ok (.iconst 0, 1) := by decide +kernel
theorem dX10_unheard_12 : decode cX10_unheard 12 = .ok (.bipush 100, 2) := by decide +kernel
theorem dX10_unheard_14 : decode cX10_unheard 14 = .ok (.invokestatic 108, 3) := by decide +kernel
theorem dX10_unheard_17 : decode cX10_unheard 17 = .ok (.ifCond .eq 12, 3) := by decide +kernel
theorem dX10_unheard_20 : decode cX10_unheard 20 = .ok (.iload_n 3, 1) := by decide +kernel
theorem dX10_unheard_21 : decode cX10_unheard 21 = .ok (.iconst 0, 1) := by decide +kernel
theorem dX10_unheard_22 : decode cX10_unheard 22 = .ok (.iconst 1, 1) := by decide +kernel
theorem dX10_unheard_23 : decode cX10_unheard 23 = .ok (.invokestatic 108, 3) := by decide +kernel
theorem dX10_unheard_26 : decode cX10_unheard 26 = .ok (.ifCond .ne 6, 3) := by decide +kernel
theorem dX10_unheard_29 : decode cX10_unheard 29 = .ok (.ldc 112, 2) := by decide +kernel
theorem dX10_unheard_31 : decode cX10_unheard 31 = .ok (.ireturn, 1) := by decide +kernel
theorem dX10_unheard_32 : decode cX10_unheard 32 = .ok (.bipush 100, 2) := by decide +kernel
theorem dX10_unheard_34 : decode cX10_unheard 34 = .ok (.iload_n 1, 1) := by decide +kernel
theorem dX10_unheard_35 : decode cX10_unheard 35 = .ok (.imul, 1) := by decide +kernel
theorem dX10_unheard_36 : decode cX10_unheard 36 = .ok (.istore 4, 2) := by decide +kernel
theorem dX10_unheard_38 : decode cX10_unheard 38 = .ok (.iload 4, 2) := by decide +kernel
theorem dX10_unheard_40 : decode cX10_unheard 40 = .ok (.bipush 100, 2) := by decide +kernel
theorem dX10_unheard_42 : decode cX10_unheard 42 = .ok (.iload_n 1, 1) := by decide +kernel
theorem dX10_unheard_43 : decode cX10_unheard 43 = .ok (.isub, 1) := by decide +kernel
theorem dX10_unheard_44 : decode cX10_unheard 44 = .ok (.iload_n 2, 1) := by decide +kernel
theorem dX10_unheard_45 : decode cX10_unheard 45 = .ok (.imul, 1) := by decide +kernel
theorem dX10_unheard_46 : decode cX10_unheard 46 = .ok (.iadd, 1) := by decide +kernel
theorem dX10_unheard_47 : decode cX10_unheard 47 = .ok (.istore 5, 2) := by decide +kernel
theorem dX10_unheard_49 : decode cX10_unheard 49 = .ok (.iload 5, 2) := by decide +kernel
theorem dX10_unheard_51 : decode cX10_unheard 51 = .ok (.ifCond .ne 6, 3) := by decide +kernel
theorem dX10_unheard_54 : decode cX10_unheard 54 = .ok (.ldc 241, 2) := by decide +kernel
theorem dX10_unheard_56 : decode cX10_unheard 56 = .ok (.ireturn, 1) := by decide +kernel
theorem dX10_unheard_57 : decode cX10_unheard 57 = .ok (.iload 4, 2) := by decide +kernel
theorem dX10_unheard_59 : decode cX10_unheard 59 = .ok (.istore 6, 2) := by decide +kernel
theorem dX10_unheard_61 : decode cX10_unheard 61 = .ok (.iload 5, 2) := by decide +kernel
theorem dX10_unheard_63 : decode cX10_unheard 63 = .ok (.istore 7, 2) := by decide +kernel
theorem dX10_unheard_65 : decode cX10_unheard 65 = .ok (.iload 7, 2) := by decide +kernel
theorem dX10_unheard_67 : decode cX10_unheard 67 = .ok (.ifCond .le 21, 3) := by decide +kernel
theorem dX10_unheard_70 : decode cX10_unheard 70 = .ok (.iload 6, 2) := by decide +kernel
theorem dX10_unheard_72 : decode cX10_unheard 72 = .ok (.iload 7, 2) := by decide +kernel
theorem dX10_unheard_74 : decode cX10_unheard 74 = .ok (.irem, 1) := by decide +kernel
theorem dX10_unheard_75 : decode cX10_unheard 75 = .ok (.istore 8, 2) := by decide +kernel
theorem dX10_unheard_77 : decode cX10_unheard 77 = .ok (.iload 7, 2) := by decide +kernel
theorem dX10_unheard_79 : decode cX10_unheard 79 = .ok (.istore 6, 2) := by decide +kernel
theorem dX10_unheard_81 : decode cX10_unheard 81 = .ok (.iload 8, 2) := by decide +kernel
theorem dX10_unheard_83 : decode cX10_unheard 83 = .ok (.istore 7, 2) := by decide +kernel
theorem dX10_unheard_85 : decode cX10_unheard 85 = .ok (.goto (-20), 3) := by decide +kernel
theorem dX10_unheard_88 : decode cX10_unheard 88 = .ok (.iload_n 3, 1) := by decide +kernel
theorem dX10_unheard_89 : decode cX10_unheard 89 = .ok (.ifCond .ne 8, 3) := by decide +kernel
theorem dX10_unheard_92 : decode cX10_unheard 92 = .ok (.iload 4, 2) := by decide +kernel
theorem dX10_unheard_94 : decode cX10_unheard 94 = .ok (.goto 5, 3) := by decide +kernel
theorem dX10_unheard_97 : decode cX10_unheard 97 = .ok (.iload 5, 2) := by decide +kernel
theorem dX10_unheard_99 : decode cX10_unheard 99 = .ok (.iload 6, 2) := by decide +kernel
theorem dX10_unheard_101 : decode cX10_unheard 101 = .ok (.idiv, 1) := by decide +kernel
theorem dX10_unheard_102 : decode cX10_unheard 102 = .ok (.ireturn, 1) := by decide +kernel
theorem dX10_learns_0 : decode cX10_learns 0 = .ok (.aload_n 0, 1) := by decide +kernel
theorem dX10_learns_1 : decode cX10_learns 1 = .ok (.iload_n 1, 1) := by decide +kernel
theorem dX10_learns_2 : decode cX10_learns 2 = .ok (.invokevirtual 228, 3) := by decide +kernel
theorem dX10_learns_5 : decode cX10_learns 5 = .ok (.ifCond .ne 6, 3) := by decide +kernel
theorem dX10_learns_8 : decode cX10_learns 8 = .ok (.ldc 227, 2) := by decide +kernel
theorem dX10_learns_10 : decode cX10_learns 10 = .ok (.ireturn, 1) := by decide +kernel
theorem dX10_learns_11 : decode cX10_learns 11 = .ok (.iload_n 2, 1) := by decide +kernel
theorem dX10_learns_12 : decode cX10_learns 12 = .ok (.iconst 1, 1) := by decide +kernel
theorem dX10_learns_13 : decode cX10_learns 13 = .ok (.bipush 9, 2) := by decide +kernel
theorem dX10_learns_15 : decode cX10_learns 15 = .ok (.invokestatic 108, 3) := by decide +kernel
theorem dX10_learns_18 : decode cX10_learns 18 = .ok (.ifCond .ne 6, 3) := by decide +kernel
theorem dX10_learns_21 : decode cX10_learns 21 = .ok (.ldc 112, 2) := by decide +kernel
theorem dX10_learns_23 : decode cX10_learns 23 = .ok (.ireturn, 1) := by decide +kernel
theorem dX10_learns_24 : decode cX10_learns 24 = .ok (.aload_n 0, 1) := by decide +kernel
theorem dX10_learns_25 : decode cX10_learns 25 = .ok (.invokevirtual 245, 3) := by decide +kernel
theorem dX10_learns_28 : decode cX10_learns 28 = .ok (.aload_n 0, 1) := by decide +kernel
theorem dX10_learns_29 : decode cX10_learns 29 = .ok (.getfield 38, 3) := by decide +kernel
theorem dX10_learns_32 : decode cX10_learns 32 = .ok (.bipush 6, 2) := by decide +kernel
theorem dX10_learns_34 : decode cX10_learns 34 = .ok (.iload_n 1, 1) := by decide +kernel
theorem dX10_learns_35 : decode cX10_learns 35 = .ok (.iadd, 1) := by decide +kernel
theorem dX10_learns_36 : decode cX10_learns 36 = .ok (.iconst 1, 1) := by decide +kernel
theorem dX10_learns_37 : decode cX10_learns 37 = .ok (.iastore, 1) := by decide +kernel
theorem dX10_learns_38 : decode cX10_learns 38 = .ok (.aload_n 0, 1) := by decide +kernel
theorem dX10_learns_39 : decode cX10_learns 39 = .ok (.invokevirtual 223, 3) := by decide +kernel
theorem dX10_learns_42 : decode cX10_learns 42 = .ok (.pop, 1) := by decide +kernel
theorem dX10_learns_43 : decode cX10_learns 43 = .ok (.aload_n 0, 1) := by decide +kernel
theorem dX10_learns_44 : decode cX10_learns 44 = .ok (.getfield 48, 3) := by decide +kernel
theorem dX10_learns_47 : decode cX10_learns 47 = .ok (.iload_n 1, 1) := by decide +kernel
theorem dX10_learns_48 : decode cX10_learns 48 = .ok (.iaload, 1) := by decide +kernel
theorem dX10_learns_49 : decode cX10_learns 49 = .ok (.bipush 6, 2) := by decide +kernel
theorem dX10_learns_51 : decode cX10_learns 51 = .ok (.if_icmp .ne 7, 3) := by decide +kernel
theorem dX10_learns_54 : decode cX10_learns 54 = .ok (.iconst 2, 1) := by decide +kernel
theorem dX10_learns_55 : decode cX10_learns 55 = .ok (.goto 18, 3) := by decide +kernel
theorem dX10_learns_58 : decode cX10_learns 58 = .ok (.aload_n 0, 1) := by decide +kernel
theorem dX10_learns_59 : decode cX10_learns 59 = .ok (.getfield 48, 3) := by decide +kernel
theorem dX10_learns_62 : decode cX10_learns 62 = .ok (.iload_n 1, 1) := by decide +kernel
theorem dX10_learns_63 : decode cX10_learns 63 = .ok (.iaload, 1) := by decide +kernel
theorem dX10_learns_64 : decode cX10_learns 64 = .ok (.iconst 5, 1) := by decide +kernel
theorem dX10_learns_65 : decode cX10_learns 65 = .ok (.if_icmp .ne 7, 3) := by decide +kernel
theorem dX10_learns_68 : decode cX10_learns 68 = .ok (.iconst 1, 1) := by decide +kernel
theorem dX10_learns_69 : decode cX10_learns 69 = .ok (.goto 4, 3) := by decide +kernel
theorem dX10_learns_72 : decode cX10_learns 72 = .ok (.iconst 0, 1) := by decide +kernel
theorem dX10_learns_73 : decode cX10_learns 73 = .ok (.istore_n 3, 1) := by decide +kernel
theorem dX10_learns_74 : decode cX10_learns 74 = .ok (.aload_n 0, 1) := by decide +kernel
theorem dX10_learns_75 : decode cX10_learns 75 = .ok (.invokevirtual 248, 3) := by decide +kernel
theorem dX10_learns_78 : decode cX10_learns 78 = .ok (.iload_n 3, 1) := by decide +kernel
theorem dX10_learns_79 : decode cX10_learns 79 = .ok (.ifCond .ne 7, 3) := by decide +kernel
theorem dX10_learns_82 : decode cX10_learns 82 = .ok (.iconst (-1), 1) := by decide +kernel
theorem dX10_learns_83 : decode cX10_learns 83 = .ok (.goto 10, 3) := by decide +kernel
theorem dX10_learns_86 : decode cX10_learns 86 = .ok (.iload_n 2, 1) := by decide +kernel
theorem dX10_learns_87 : decode cX10_learns 87 = .ok (.iload_n 3, 1) := by decide +kernel
theorem dX10_learns_88 : decode cX10_learns 88 = .ok (.iadd, 1) := by decide +kernel
theorem dX10_learns_89 : decode cX10_learns 89 = .ok (.iconst 1, 1) := by decide +kernel
theorem dX10_learns_90 : decode cX10_learns 90 = .ok (.isub, 1) := by decide +kernel
theorem dX10_learns_91 : decode cX10_learns 91 = .ok (.iload_n 3, 1) := by decide +kernel
theorem dX10_learns_92 : decode cX10_learns 92 = .ok (.idiv, 1) := by decide +kernel
theorem dX10_learns_93 : decode cX10_learns 93 = .ok (.ireturn, 1) := by decide +kernel
theorem dX10_write_0 : decode cX10_write 0 = .ok (.aload_n 0, 1) := by decide +kernel
theorem dX10_write_1 : decode cX10_write 1 = .ok (.iload_n 1, 1) := by decide +kernel
theorem dX10_write_2 : decode cX10_write 2 = .ok (.invokevirtual 228, 3) := by decide +kernel
theorem dX10_write_5 : decode cX10_write 5 = .ok (.ifCond .ne 6, 3) := by decide +kernel
theorem dX10_write_8 : decode cX10_write 8 = .ok (.ldc 227, 2) := by decide +kernel
theorem dX10_write_10 : decode cX10_write 10 = .ok (.ireturn, 1) := by decide +kernel
theorem dX10_write_11 : decode cX10_write 11 = .ok (.iload_n 2, 1) := by decide +kernel
theorem dX10_write_12 : decode cX10_write 12 = .ok (.iconst 0, 1) := by decide +kernel
theorem dX10_write_13 : decode cX10_write 13 = .ok (.bipush 6, 2) := by decide +kernel
theorem dX10_write_15 : decode cX10_write 15 = .ok (.invokestatic 108, 3) := by decide +kernel
theorem dX10_write_18 : decode cX10_write 18 = .ok (.ifCond .ne 6, 3) := by decide +kernel
theorem dX10_write_21 : decode cX10_write 21 = .ok (.ldc 112, 2) := by decide +kernel
theorem dX10_write_23 : decode cX10_write 23 = .ok (.ireturn, 1) := by decide +kernel
theorem dX10_write_24 : decode cX10_write 24 = .ok (.aload_n 0, 1) := by decide +kernel
theorem dX10_write_25 : decode cX10_write 25 = .ok (.getfield 181, 3) := by decide +kernel
theorem dX10_write_28 : decode cX10_write 28 = .ok (.bipush 20, 2) := by decide +kernel
theorem dX10_write_30 : decode cX10_write 30 = .ok (.if_icmp .ne 6, 3) := by decide +kernel
theorem dX10_write_33 : decode cX10_write 33 = .ok (.ldc 116, 2) := by decide +kernel
theorem dX10_write_35 : decode cX10_write 35 = .ok (.ireturn, 1) := by decide +kernel
theorem dX10_write_36 : decode cX10_write 36 = .ok (.aload_n 0, 1) := by decide +kernel
theorem dX10_write_37 : decode cX10_write 37 = .ok (.getfield 102, 3) := by decide +kernel
theorem dX10_write_40 : decode cX10_write 40 = .ok (.iconst 2, 1) := by decide +kernel
theorem dX10_write_41 : decode cX10_write 41 = .ok (.aload_n 0, 1) := by decide +kernel
theorem dX10_write_42 : decode cX10_write 42 = .ok (.getfield 181, 3) := by decide +kernel
theorem dX10_write_45 : decode cX10_write 45 = .ok (.imul, 1) := by decide +kernel
theorem dX10_write_46 : decode cX10_write 46 = .ok (.iload_n 1, 1) := by decide +kernel
theorem dX10_write_47 : decode cX10_write 47 = .ok (.iastore, 1) := by decide +kernel
theorem dX10_write_48 : decode cX10_write 48 = .ok (.aload_n 0, 1) := by decide +kernel
theorem dX10_write_49 : decode cX10_write 49 = .ok (.getfield 102, 3) := by decide +kernel
theorem dX10_write_52 : decode cX10_write 52 = .ok (.iconst 2, 1) := by decide +kernel
theorem dX10_write_53 : decode cX10_write 53 = .ok (.aload_n 0, 1) := by decide +kernel
theorem dX10_write_54 : decode cX10_write 54 = .ok (.getfield 181, 3) := by decide +kernel
theorem dX10_write_57 : decode cX10_write 57 = .ok (.imul, 1) := by decide +kernel
theorem dX10_write_58 : decode cX10_write 58 = .ok (.iconst 1, 1) := by decide +kernel
theorem dX10_write_59 : decode cX10_write 59 = .ok (.iadd, 1) := by decide +kernel
theorem dX10_write_60 : decode cX10_write 60 = .ok (.iload_n 2, 1) := by decide +kernel
theorem dX10_write_61 : decode cX10_write 61 = .ok (.iastore, 1) := by decide +kernel
theorem dX10_write_62 : decode cX10_write 62 = .ok (.aload_n 0, 1) := by decide +kernel
theorem dX10_write_63 : decode cX10_write 63 = .ok (.dup, 1) := by decide +kernel
theorem dX10_write_64 : decode cX10_write 64 = .ok (.getfield 181, 3) := by decide +kernel
theorem dX10_write_67 : decode cX10_write 67 = .ok (.iconst 1, 1) := by decide +kernel
theorem dX10_write_68 : decode cX10_write 68 = .ok (.iadd, 1) := by decide +kernel
theorem dX10_write_69 : decode cX10_write 69 = .ok (.putfield 181, 3) := by decide +kernel
theorem dX10_write_72 : decode cX10_write 72 = .ok (.aload_n 0, 1) := by decide +kernel
theorem dX10_write_73 : decode cX10_write 73 = .ok (.getfield 181, 3) := by decide +kernel
theorem dX10_write_76 : decode cX10_write 76 = .ok (.ireturn, 1) := by decide +kernel
theorem dX10_tear_0 : decode cX10_tear 0 = .ok (.aload_n 0, 1) := by decide +kernel
theorem dX10_tear_1 : decode cX10_tear 1 = .ok (.getfield 181, 3) := by decide +kernel
theorem dX10_tear_4 : decode cX10_tear 4 = .ok (.istore_n 1, 1) := by decide +kernel
theorem dX10_tear_5 : decode cX10_tear 5 = .ok (.aload_n 0, 1) := by decide +kernel
theorem dX10_tear_6 : decode cX10_tear 6 = .ok (.iconst 0, 1) := by decide +kernel
theorem dX10_tear_7 : decode cX10_tear 7 = .ok (.putfield 181, 3) := by decide +kernel
theorem dX10_tear_10 : decode cX10_tear 10 = .ok (.iload_n 1, 1) := by decide +kernel
theorem dX10_tear_11 : decode cX10_tear 11 = .ok (.ireturn, 1) := by decide +kernel
theorem dX10_judge_0 : decode cX10_judge 0 = .ok (.aload_n 0, 1) := by decide +kernel
theorem dX10_judge_1 : decode cX10_judge 1 = .ok (.invokevirtual 223, 3) := by decide +kernel
theorem dX10_judge_4 : decode cX10_judge 4 = .ok (.pop, 1) := by decide +kernel
theorem dX10_judge_5 : decode cX10_judge 5 = .ok (.iconst 0, 1) := by decide +kernel
theorem dX10_judge_6 : decode cX10_judge 6 = .ok (.istore_n 1, 1) := by decide +kernel
theorem dX10_judge_7 : decode cX10_judge 7 = .ok (.iload_n 1, 1) := by decide +kernel
theorem dX10_judge_8 : decode cX10_judge 8 = .ok (.aload_n 0, 1) := by decide +kernel
theorem dX10_judge_9 : decode cX10_judge 9 = .ok (.getfield 181, 3) := by decide +kernel
theorem dX10_judge_12 : decode cX10_judge 12 = .ok (.if_icmp .ge 37, 3) := by decide +kernel
theorem dX10_judge_15 : decode cX10_judge 15 = .ok (.aload_n 0, 1) := by decide +kernel
theorem dX10_judge_16 : decode cX10_judge 16 = .ok (.getfield 48, 3) := by decide +kernel
theorem dX10_judge_19 : decode cX10_judge 19 = .ok (.aload_n 0, 1) := by decide +kernel
theorem dX10_judge_20 : decode cX10_judge 20 = .ok (.getfield 102, 3) := by decide +kernel
theorem dX10_judge_23 : decode cX10_judge 23 = .ok (.iconst 2, 1) := by decide +kernel
theorem dX10_judge_24 : decode cX10_judge 24 = .ok (.iload_n 1, 1) := by decide +kernel
theorem dX10_judge_25 : decode cX10_judge 25 = .ok (.imul, 1) := by decide +kernel
theorem dX10_judge_26 : decode cX10_judge 26 = .ok (.iaload, 1) := by decide +kernel
theorem dX10_judge_27 : decode cX10_judge 27 = .ok (.iaload, 1) := by decide +kernel
theorem dX10_judge_28 : decode cX10_judge 28 = .ok (.aload_n 0, 1) := by decide +kernel
theorem dX10_judge_29 : decode cX10_judge 29 = .ok (.getfield 102, 3) := by decide +kernel
theorem dX10_judge_32 : decode cX10_judge 32 = .ok (.iconst 2, 1) := by decide +kernel
theorem dX10_judge_33 : decode cX10_judge 33 = .ok (.iload_n 1, 1) := by decide +kernel
theorem dX10_judge_34 : decode cX10_judge 34 = .ok (.imul, 1) := by decide +kernel
theorem dX10_judge_35 : decode cX10_judge 35 = .ok (.iconst 1, 1) := by decide +kernel
theorem dX10_judge_36 : decode cX10_judge 36 = .ok (.iadd, 1) := by decide +kernel
theorem dX10_judge_37 : decode cX10_judge 37 = .ok (.iaload, 1) := by decide +kernel
theorem dX10_judge_38 : decode cX10_judge 38 = .ok (.if_icmp .eq 5, 3) := by decide +kernel
theorem dX10_judge_41 : decode cX10_judge 41 = .ok (.iload_n 1, 1) := by decide +kernel
theorem dX10_judge_42 : decode cX10_judge 42 = .ok (.ireturn, 1) := by decide +kernel
theorem dX10_judge_43 : decode cX10_judge 43 = .ok (.iinc 1 1, 3) := by decide +kernel
theorem dX10_judge_46 : decode cX10_judge 46 = .ok (.goto (-39), 3) := by decide +kernel
theorem dX10_judge_49 : decode cX10_judge 49 = .ok (.iconst (-1), 1) := by decide +kernel
theorem dX10_judge_50 : decode cX10_judge 50 = .ok (.ireturn, 1) := by decide +kernel
theorem dX10_seed_0 : decode cX10_seed 0 = .ok (.iload_n 1, 1) := by decide +kernel
theorem dX10_seed_1 : decode cX10_seed 1 = .ok (.ifCond .lt 13, 3) := by decide +kernel
theorem dX10_seed_4 : decode cX10_seed 4 = .ok (.aload_n 0, 1) := by decide +kernel
theorem dX10_seed_5 : decode cX10_seed 5 = .ok (.bipush 20, 2) := by decide +kernel
theorem dX10_seed_7 : decode cX10_seed 7 = .ok (.iload_n 1, 1) := by decide +kernel
theorem dX10_seed_8 : decode cX10_seed 8 = .ok (.invokevirtual 231, 3) := by decide +kernel
theorem dX10_seed_11 : decode cX10_seed 11 = .ok (.goto 5, 3) := by decide +kernel
theorem dX10_seed_14 : decode cX10_seed 14 = .ok (.ldc 112, 2) := by decide +kernel
theorem dX10_seed_16 : decode cX10_seed 16 = .ok (.ireturn, 1) := by decide +kernel
theorem dX10_keep_0 : decode cX10_keep 0 = .ok (.iload_n 1, 1) := by decide +kernel
theorem dX10_keep_1 : decode cX10_keep 1 = .ok (.iconst 0, 1) := by decide +kernel
theorem dX10_keep_2 : decode cX10_keep 2 = .ok (.iconst 1, 1) := by decide +kernel
theorem dX10_keep_3 : decode cX10_keep 3 = .ok (.invokestatic 108, 3) := by decide +kernel
theorem dX10_keep_6 : decode cX10_keep 6 = .ok (.ifCond .ne 6, 3) := by decide +kernel
theorem dX10_keep_9 : decode cX10_keep 9 = .ok (.ldc 227, 2) := by decide +kernel
theorem dX10_keep_11 : decode cX10_keep 11 = .ok (.ireturn, 1) := by decide +kernel
theorem dX10_keep_12 : decode cX10_keep 12 = .ok (.iconst 0, 1) := by decide +kernel
theorem dX10_keep_13 : decode cX10_keep 13 = .ok (.istore_n 2, 1) := by decide +kernel
theorem dX10_keep_14 : decode cX10_keep 14 = .ok (.iload_n 2, 1) := by decide +kernel
theorem dX10_keep_15 : decode cX10_keep 15 = .ok (.bipush 21, 2) := by decide +kernel
theorem dX10_keep_17 : decode cX10_keep 17 = .ok (.if_icmp .ge 26, 3) := by decide +kernel
theorem dX10_keep_20 : decode cX10_keep 20 = .ok (.aload_n 0, 1) := by decide +kernel
theorem dX10_keep_21 : decode cX10_keep 21 = .ok (.getfield 41, 3) := by decide +kernel
theorem dX10_keep_24 : decode cX10_keep 24 = .ok (.bipush 21, 2) := by decide +kernel
theorem dX10_keep_26 : decode cX10_keep 26 = .ok (.iload_n 1, 1) := by decide +kernel
theorem dX10_keep_27 : decode cX10_keep 27 = .ok (.imul, 1) := by decide +kernel
theorem dX10_keep_28 : decode cX10_keep 28 = .ok (.iload_n 2, 1) := by decide +kernel
theorem dX10_keep_29 : decode cX10_keep 29 = .ok (.iadd, 1) := by decide +kernel
theorem dX10_keep_30 : decode cX10_keep 30 = .ok (.aload_n 0, 1) := by decide +kernel
theorem dX10_keep_31 : decode cX10_keep 31 = .ok (.getfield 38, 3) := by decide +kernel
theorem dX10_keep_34 : decode cX10_keep 34 = .ok (.iload_n 2, 1) := by decide +kernel
theorem dX10_keep_35 : decode cX10_keep 35 = .ok (.iaload, 1) := by decide +kernel
theorem dX10_keep_36 : decode cX10_keep 36 = .ok (.iastore, 1) := by decide +kernel
theorem dX10_keep_37 : decode cX10_keep 37 = .ok (.iinc 2 1, 3) := by decide +kernel
theorem dX10_keep_40 : decode cX10_keep 40 = .ok (.goto (-26), 3) := by decide +kernel
theorem dX10_keep_43 : decode cX10_keep 43 = .ok (.aload_n 0, 1) := by decide +kernel
theorem dX10_keep_44 : decode cX10_keep 44 = .ok (.getfield 44, 3) := by decide +kernel
theorem dX10_keep_47 : decode cX10_keep 47 = .ok (.iload_n 1, 1) := by decide +kernel
theorem dX10_keep_48 : decode cX10_keep 48 = .ok (.iconst 1, 1) := by decide +kernel
theorem dX10_keep_49 : decode cX10_keep 49 = .ok (.bastore, 1) := by decide +kernel
theorem dX10_keep_50 : decode cX10_keep 50 = .ok (.iconst 1, 1) := by decide +kernel
theorem dX10_keep_51 : decode cX10_keep 51 = .ok (.ireturn, 1) := by decide +kernel
theorem dX10_goBack_0 : decode cX10_goBack 0 = .ok (.iload_n 1, 1) := by decide +kernel
theorem dX10_goBack_1 : decode cX10_goBack 1 = .ok (.iconst 0, 1) := by decide +kernel
theorem dX10_goBack_2 : decode cX10_goBack 2 = .ok (.iconst 1, 1) := by decide +kernel
theorem dX10_goBack_3 : decode cX10_goBack 3 = .ok (.invokestatic 108, 3) := by decide +kernel
theorem dX10_goBack_6 : decode cX10_goBack 6 = .ok (.ifCond .ne 6, 3) := by decide +kernel
theorem dX10_goBack_9 : decode cX10_goBack 9 = .ok (.ldc 227, 2) := by decide +kernel
theorem dX10_goBack_11 : decode cX10_goBack 11 = .ok (.ireturn, 1) := by decide +kernel
theorem dX10_goBack_12 : decode cX10_goBack 12 = .ok (.aload_n 0, 1) := by decide +kernel
theorem dX10_goBack_13 : decode cX10_goBack 13 = .ok (.getfield 44, 3) := by decide +kernel
theorem dX10_goBack_16 : decode cX10_goBack 16 = .ok (.iload_n 1, 1) := by decide +kernel
theorem dX10_goBack_17 : decode cX10_goBack 17 = .ok (.baload, 1) := by decide +kernel
theorem dX10_goBack_18 : decode cX10_goBack 18 = .ok (.ifCond .ne 6, 3) := by decide +kernel
theorem dX10_goBack_21 : decode cX10_goBack 21 = .ok (.ldc 241, 2) := by decide +kernel
theorem dX10_goBack_23 : decode cX10_goBack 23 = .ok (.ireturn, 1) := by decide +kernel
theorem dX10_goBack_24 : decode cX10_goBack 24 = .ok (.iconst 0, 1) := by decide +kernel
theorem dX10_goBack_25 : decode cX10_goBack 25 = .ok (.istore_n 2, 1) := by decide +kernel
theorem dX10_goBack_26 : decode cX10_goBack 26 = .ok (.iload_n 2, 1) := by decide +kernel
theorem dX10_goBack_27 : decode cX10_goBack 27 = .ok (.bipush 21, 2) := by decide +kernel
theorem dX10_goBack_29 : decode cX10_goBack 29 = .ok (.if_icmp .ge 26, 3) := by decide +kernel
theorem dX10_goBack_32 : decode cX10_goBack 32 = .ok (.aload_n 0, 1) := by decide +kernel
theorem dX10_goBack_33 : decode cX10_goBack 33 = .ok (.getfield 38, 3) := by decide +kernel
theorem dX10_goBack_36 : decode cX10_goBack 36 = .ok (.iload_n 2, 1) := by decide +kernel
theorem dX10_goBack_37 : decode cX10_goBack 37 = .ok (.aload_n 0, 1) := by decide +kernel
theorem dX10_goBack_38 : decode cX10_goBack 38 = .ok (.getfield 41, 3) := by decide +kernel
theorem dX10_goBack_41 : decode cX10_goBack 41 = .ok (.bipush 21, 2) := by decide +kernel
theorem dX10_goBack_43 : decode cX10_goBack 43 = .ok (.iload_n 1, 1) := by decide +kernel
theorem dX10_goBack_44 : decode cX10_goBack 44 = .ok (.imul, 1) := by decide +kernel
theorem dX10_goBack_45 : decode cX10_goBack 45 = .ok (.iload_n 2, 1) := by decide +kernel
theorem dX10_goBack_46 : decode cX10_goBack 46 = .ok (.iadd, 1) := by decide +kernel
theorem dX10_goBack_47 : decode cX10_goBack 47 = .ok (.iaload, 1) := by decide +kernel
theorem dX10_goBack_48 : decode cX10_goBack 48 = .ok (.iastore, 1) := by decide +kernel
theorem dX10_goBack_49 : decode cX10_goBack 49 = .ok (.iinc 2 1, 3) := by decide +kernel
theorem dX10_goBack_52 : decode cX10_goBack 52 = .ok (.goto (-26), 3) := by decide +kernel
theorem dX10_goBack_55 : decode cX10_goBack 55 = .ok (.iconst 1, 1) := by decide +kernel
theorem dX10_goBack_56 : decode cX10_goBack 56 = .ok (.ireturn, 1) := by decide +kernel
theorem dL_law_0 : decode cL_law 0 = .ok (.new 7, 3) := by decide +kernel
theorem dL_law_3 : decode cL_law 3 = .ok (.dup, 1) := by decide +kernel
theorem dL_law_4 : decode cL_law 4 = .ok (.invokespecial 9, 3) := by decide +kernel
theorem dL_law_7 : decode cL_law 7 = .ok (.astore_n 1, 1) := by decide +kernel
theorem dL_law_8 : decode cL_law 8 = .ok (.new 10, 3) := by decide +kernel
theorem dL_law_11 : decode cL_law 11 = .ok (.dup, 1) := by decide +kernel
theorem dL_law_12 : decode cL_law 12 = .ok (.invokespecial 12, 3) := by decide +kernel
theorem dL_law_15 : decode cL_law 15 = .ok (.astore_n 2, 1) := by decide +kernel
theorem dL_law_16 : decode cL_law 16 = .ok (.iconst 0, 1) := by decide +kernel
theorem dL_law_17 : decode cL_law 17 = .ok (.istore_n 3, 1) := by decide +kernel
theorem dL_law_18 : decode cL_law 18 = .ok (.iload_n 3, 1) := by decide +kernel
theorem dL_law_19 : decode cL_law 19 = .ok (.aload_n 0, 1) := by decide +kernel
theorem dL_law_20 : decode cL_law 20 = .ok (.arraylength, 1) := by decide +kernel
theorem dL_law_21 : decode cL_law 21 = .ok (.iconst 4, 1) := by decide +kernel
theorem dL_law_22 : decode cL_law 22 = .ok (.isub, 1) := by decide +kernel
theorem dL_law_23 : decode cL_law 23 = .ok (.if_icmp .gt 1061, 3) := by decide +kernel
theorem dL_law_26 : decode cL_law 26 = .ok (.aload_n 0, 1) := by decide +kernel
theorem dL_law_27 : decode cL_law 27 = .ok (.iload_n 3, 1) := by decide +kernel
theorem dL_law_28 : decode cL_law 28 = .ok (.iaload, 1) := by decide +kernel
theorem dL_law_29 : decode cL_law 29 = .ok (.bipush 31, 2) := by decide +kernel
theorem dL_law_31 : decode cL_law 31 = .ok (.iand, 1) := by decide +kernel
theorem dL_law_32 : decode cL_law 32 = .ok (.tableswitch 1046 0 31 #[144, 167, 180, 193, 216, 249, 282, 315, 348, 381, 420, 443, 466, 499, 532, 555, 578, 611, 654, 687, 720, 753, 786, 809, 842, 885, 918, 951, 964, 977, 1000, 1023], 144) := by decide +kernel
theorem dL_law_176 : decode cL_law 176 = .ok (.aload_n 1, 1) := by decide +kernel
theorem dL_law_177 : decode cL_law 177 = .ok (.aload_n 0, 1) := by decide +kernel
theorem dL_law_178 : decode cL_law 178 = .ok (.iload_n 3, 1) := by decide +kernel
theorem dL_law_179 : decode cL_law 179 = .ok (.iconst 1, 1) := by decide +kernel
theorem dL_law_180 : decode cL_law 180 = .ok (.iadd, 1) := by decide +kernel
theorem dL_law_181 : decode cL_law 181 = .ok (.iaload, 1) := by decide +kernel
theorem dL_law_182 : decode cL_law 182 = .ok (.invokevirtual 13, 3) := by decide +kernel
theorem dL_law_185 : decode cL_law 185 = .ok (.aload_n 2, 1) := by decide +kernel
theorem dL_law_186 : decode cL_law 186 = .ok (.aload_n 0, 1) := by decide +kernel
theorem dL_law_187 : decode cL_law 187 = .ok (.iload_n 3, 1) := by decide +kernel
theorem dL_law_188 : decode cL_law 188 = .ok (.iconst 1, 1) := by decide +kernel
theorem dL_law_189 : decode cL_law 189 = .ok (.iadd, 1) := by decide +kernel
theorem dL_law_190 : decode cL_law 190 = .ok (.iaload, 1) := by decide +kernel
theorem dL_law_191 : decode cL_law 191 = .ok (.invokevirtual 17, 3) := by decide +kernel
theorem dL_law_194 : decode cL_law 194 = .ok (.if_icmp .eq 884, 3) := by decide +kernel
theorem dL_law_197 : decode cL_law 197 = .ok (.iconst 0, 1) := by decide +kernel
theorem dL_law_198 : decode cL_law 198 = .ok (.ireturn, 1) := by decide +kernel
theorem dL_law_199 : decode cL_law 199 = .ok (.aload_n 1, 1) := by decide +kernel
theorem dL_law_200 : decode cL_law 200 = .ok (.invokevirtual 18, 3) := by decide +kernel
theorem dL_law_203 : decode cL_law 203 = .ok (.aload_n 2, 1) := by decide +kernel
theorem dL_law_204 : decode cL_law 204 = .ok (.invokevirtual 22, 3) := by decide +kernel
theorem dL_law_207 : decode cL_law 207 = .ok (.if_icmp .eq 871, 3) := by decide +kernel
theorem dL_law_210 : decode cL_law 210 = .ok (.iconst 0, 1) := by decide +kernel
theorem dL_law_211 : decode cL_law 211 = .ok (.ireturn, 1) := by decide +kernel
theorem dL_law_212 : decode cL_law 212 = .ok (.aload_n 1, 1) := by decide +kernel
theorem dL_law_213 : decode cL_law 213 = .ok (.invokevirtual 23, 3) := by decide +kernel
theorem dL_law_216 : decode cL_law 216 = .ok (.aload_n 2, 1) := by decide +kernel
theorem dL_law_217 : decode cL_law 217 = .ok (.invokevirtual 26, 3) := by decide +kernel
theorem dL_law_220 : decode cL_law 220 = .ok (.if_icmp .eq 858, 3) := by decide +kernel
theorem dL_law_223 : decode cL_law 223 = .ok (.iconst 0, 1) := by decide +kernel
theorem dL_law_224 : decode cL_law 224 = .ok (.ireturn, 1) := by decide +kernel
theorem dL_law_225 : decode cL_law 225 = .ok (.aload_n 1, 1) := by decide +kernel
theorem dL_law_226 : decode cL_law 226 = .ok (.aload_n 0, 1) := by decide +kernel
theorem dL_law_227 : decode cL_law 227 = .ok (.iload_n 3, 1) := by decide +kernel
theorem dL_law_228 : decode cL_law 228 = .ok (.iconst 1, 1) := by decide +kernel
theorem dL_law_229 : decode cL_law 229 = .ok (.iadd, 1) := by decide +kernel
theorem dL_law_230 : decode cL_law 230 = .ok (.iaload, 1) := by decide +kernel
theorem dL_law_231 : decode cL_law 231 = .ok (.invokevirtual 27, 3) := by decide +kernel
theorem dL_law_234 : decode cL_law 234 = .ok (.aload_n 2, 1) := by decide +kernel
theorem dL_law_235 : decode cL_law 235 = .ok (.aload_n 0, 1) := by decide +kernel
theorem dL_law_236 : decode cL_law 236 = .ok (.iload_n 3, 1) := by decide +kernel
theorem dL_law_237 : decode cL_law 237 = .ok (.iconst 1, 1) := by decide +kernel
theorem dL_law_238 : decode cL_law 238 = .ok (.iadd, 1) := by decide +kernel
theorem dL_law_239 : decode cL_law 239 = .ok (.iaload, 1) := by decide +kernel
theorem dL_law_240 : decode cL_law 240 = .ok (.invokevirtual 30, 3) := by decide +kernel
theorem dL_law_243 : decode cL_law 243 = .ok (.if_icmp .eq 835, 3) := by decide +kernel
theorem dL_law_246 : decode cL_law 246 = .ok (.iconst 0, 1) := by decide +kernel
theorem dL_law_247 : decode cL_law 247 = .ok (.ireturn, 1) := by decide +kernel
theorem dL_law_248 : decode cL_law 248 = .ok (.aload_n 1, 1) := by decide +kernel
theorem dL_law_249 : decode cL_law 249 = .ok (.aload_n 0, 1) := by decide +kernel
theorem dL_law_250 : decode cL_law 250 = .ok (.iload_n 3, 1) := by decide +kernel
theorem dL_law_251 : decode cL_law 251 = .ok (.iconst 1, 1) := by decide +kernel
theorem dL_law_252 : decode cL_law 252 = .ok (.iadd, 1) := by decide +kernel
theorem dL_law_253 : decode cL_law 253 = .ok (.iaload, 1) := by decide +kernel
theorem dL_law_254 : decode cL_law 254 = .ok (.aload_n 0, 1) := by decide +kernel
theorem dL_law_255 : decode cL_law 255 = .ok (.iload_n 3, 1) := by decide +kernel
theorem dL_law_256 : decode cL_law 256 = .ok (.iconst 2, 1) := by decide +kernel
theorem dL_law_257 : decode cL_law 257 = .ok (.iadd, 1) := by decide +kernel
theorem dL_law_258 : decode cL_law 258 = .ok (.iaload, 1) := by decide +kernel
theorem dL_law_259 : decode cL_law 259 = .ok (.invokevirtual 31, 3) := by decide +kernel
theorem dL_law_262 : decode cL_law 262 = .ok (.aload_n 2, 1) := by decide +kernel
theorem dL_law_263 : decode cL_law 263 = .ok (.aload_n 0, 1) := by decide +kernel
theorem dL_law_264 : decode cL_law 264 = .ok (.iload_n 3, 1) := by decide +kernel
theorem dL_law_265 : decode cL_law 265 = .ok (.iconst 1, 1) := by decide +kernel
theorem dL_law_266 : decode cL_law 266 = .ok (.iadd, 1) := by decide +kernel
theorem dL_law_267 : decode cL_law 267 = .ok (.iaload, 1) := by decide +kernel
theorem dL_law_268 : decode cL_law 268 = .ok (.aload_n 0, 1) := by decide +kernel
theorem dL_law_269 : decode cL_law 269 = .ok (.iload_n 3, 1) := by decide +kernel
theorem dL_law_270 : decode cL_law 270 = .ok (.iconst 2, 1) := by decide +kernel
theorem dL_law_271 : decode cL_law 271 = .ok (.iadd, 1) := by decide +kernel
theorem dL_law_272 : decode cL_law 272 = .ok (.iaload, 1) := by decide +kernel
theorem dL_law_273 : decode cL_law 273 = .ok (.invokevirtual 35, 3) := by decide +kernel
theorem dL_law_276 : decode cL_law 276 = .ok (.if_icmp .eq 802, 3) := by decide +kernel
theorem dL_law_279 : decode cL_law 279 = .ok (.iconst 0, 1) := by decide +kernel
theorem dL_law_280 : decode cL_law 280 = .ok (.ireturn, 1) := by decide +kernel
theorem dL_law_281 : decode cL_law 281 = .ok (.aload_n 1, 1) := by decide +kernel
theorem dL_law_282 : decode cL_law 282 = .ok (.aload_n 0, 1) := by decide +kernel
theorem dL_law_283 : decode cL_law 283 = .ok (.iload_n 3, 1) := by decide +kernel
theorem dL_law_284 : decode cL_law 284 = .ok (.iconst 1, 1) := by decide +kernel
theorem dL_law_285 : decode cL_law 285 = .ok (.iadd, 1) := by decide +kernel
theorem dL_law_286 : decode cL_law 286 = .ok (.iaload, 1) := by decide +kernel
theorem dL_law_287 : decode cL_law 287 = .ok (.aload_n 0, 1) := by decide +kernel
theorem dL_law_288 : decode cL_law 288 = .ok (.iload_n 3, 1) := by decide +kernel
theorem dL_law_289 : decode cL_law 289 = .ok (.iconst 2, 1) := by decide +kernel
theorem dL_law_290 : decode cL_law 290 = .ok (.iadd, 1) := by decide +kernel
theorem dL_law_291 : decode cL_law 291 = .ok (.iaload, 1) := by decide +kernel
theorem dL_law_292 : decode cL_law 292 = .ok (.invokevirtual 36, 3) := by decide +kernel
theorem dL_law_295 : decode cL_law 295 = .ok (.aload_n 2, 1) := by decide +kernel
theorem dL_law_296 : decode cL_law 296 = .ok (.aload_n 0, 1) := by decide +kernel
theorem dL_law_297 : decode cL_law 297 = .ok (.iload_n 3, 1) := by decide +kernel
theorem dL_law_298 : decode cL_law 298 = .ok (.iconst 1, 1) := by decide +kernel
theorem dL_law_299 : decode cL_law 299 = .ok (.iadd, 1) := by decide +kernel
theorem dL_law_300 : decode cL_law 300 = .ok (.iaload, 1) := by decide +kernel
theorem dL_law_301 : decode cL_law 301 = .ok (.aload_n 0, 1) := by decide +kernel
theorem dL_law_302 : decode cL_law 302 = .ok (.iload_n 3, 1) := by decide +kernel
theorem dL_law_303 : decode cL_law 303 = .ok (.iconst 2, 1) := by decide +kernel
theorem dL_law_304 : decode cL_law 304 = .ok (.iadd, 1) := by decide +kernel
theorem dL_law_305 : decode cL_law 305 = .ok (.iaload, 1) := by decide +kernel
theorem dL_law_306 : decode cL_law 306 = .ok (.invokevirtual 39, 3) := by decide +kernel
theorem dL_law_309 : decode cL_law 309 = .ok (.if_icmp .eq 769, 3) := by decide +kernel
theorem dL_law_312 : decode cL_law 312 = .ok (.iconst 0, 1) := by decide +kernel
theorem dL_law_313 : decode cL_law 313 = .ok (.ireturn, 1) := by decide +kernel
theorem dL_law_314 : decode cL_law 314 = .ok (.aload_n 1, 1) := by decide +kernel
theorem dL_law_315 : decode cL_law 315 = .ok (.aload_n 0, 1) := by decide +kernel
theorem dL_law_316 : decode cL_law 316 = .ok (.iload_n 3, 1) := by decide +kernel
theorem dL_law_317 : decode cL_law 317 = .ok (.iconst 1, 1) := by decide +kernel
theorem dL_law_318 : decode cL_law 318 = .ok (.iadd, 1) := by decide +kernel
theorem dL_law_319 : decode cL_law 319 = .ok (.iaload, 1) := by decide +kernel
theorem dL_law_320 : decode cL_law 320 = .ok (.aload_n 0, 1) := by decide +kernel
theorem dL_law_321 : decode cL_law 321 = .ok (.iload_n 3, 1) := by decide +kernel
theorem dL_law_322 : decode cL_law 322 = .ok (.iconst 2, 1) := by decide +kernel
theorem dL_law_323 : decode cL_law 323 = .ok (.iadd, 1) := by decide +kernel
theorem dL_law_324 : decode cL_law 324 = .ok (.iaload, 1) := by decide +kernel
theorem dL_law_325 : decode cL_law 325 = .ok (.invokevirtual 40, 3) := by decide +kernel
theorem dL_law_328 : decode cL_law 328 = .ok (.aload_n 2, 1) := by decide +kernel
theorem dL_law_329 : decode cL_law 329 = .ok (.aload_n 0, 1) := by decide +kernel
theorem dL_law_330 : decode cL_law 330 = .ok (.iload_n 3, 1) := by decide +kernel
theorem dL_law_331 : decode cL_law 331 = .ok (.iconst 1, 1) := by decide +kernel
theorem dL_law_332 : decode cL_law 332 = .ok (.iadd, 1) := by decide +kernel
theorem dL_law_333 : decode cL_law 333 = .ok (.iaload, 1) := by decide +kernel
theorem dL_law_334 : decode cL_law 334 = .ok (.aload_n 0, 1) := by decide +kernel
theorem dL_law_335 : decode cL_law 335 = .ok (.iload_n 3, 1) := by decide +kernel
theorem dL_law_336 : decode cL_law 336 = .ok (.iconst 2, 1) := by decide +kernel
theorem dL_law_337 : decode cL_law 337 = .ok (.iadd, 1) := by decide +kernel
theorem dL_law_338 : decode cL_law 338 = .ok (.iaload, 1) := by decide +kernel
theorem dL_law_339 : decode cL_law 339 = .ok (.invokevirtual 43, 3) := by decide +kernel
theorem dL_law_342 : decode cL_law 342 = .ok (.if_icmp .eq 736, 3) := by decide +kernel
theorem dL_law_345 : decode cL_law 345 = .ok (.iconst 0, 1) := by decide +kernel
theorem dL_law_346 : decode cL_law 346 = .ok (.ireturn, 1) := by decide +kernel
theorem dL_law_347 : decode cL_law 347 = .ok (.aload_n 1, 1) := by decide +kernel
theorem dL_law_348 : decode cL_law 348 = .ok (.aload_n 0, 1) := by decide +kernel
theorem dL_law_349 : decode cL_law 349 = .ok (.iload_n 3, 1) := by decide +kernel
theorem dL_law_350 : decode cL_law 350 = .ok (.iconst 1, 1) := by decide +kernel
theorem dL_law_351 : decode cL_law 351 = .ok (.iadd, 1) := by decide +kernel
theorem dL_law_352 : decode cL_law 352 = .ok (.iaload, 1) := by decide +kernel
theorem dL_law_353 : decode cL_law 353 = .ok (.aload_n 0, 1) := by decide +kernel
theorem dL_law_354 : decode cL_law 354 = .ok (.iload_n 3, 1) := by decide +kernel
theorem dL_law_355 : decode cL_law 355 = .ok (.iconst 2, 1) := by decide +kernel
theorem dL_law_356 : decode cL_law 356 = .ok (.iadd, 1) := by decide +kernel
theorem dL_law_357 : decode cL_law 357 = .ok (.iaload, 1) := by decide +kernel
theorem dL_law_358 : decode cL_law 358 = .ok (.invokevirtual 44, 3) := by decide +kernel
theorem dL_law_361 : decode cL_law 361 = .ok (.aload_n 2, 1) := by decide +kernel
theorem dL_law_362 : decode cL_law 362 = .ok (.aload_n 0, 1) := by decide +kernel
theorem dL_law_363 : decode cL_law 363 = .ok (.iload_n 3, 1) := by decide +kernel
theorem dL_law_364 : decode cL_law 364 = .ok (.iconst 1, 1) := by decide +kernel
theorem dL_law_365 : decode cL_law 365 = .ok (.iadd, 1) := by decide +kernel
theorem dL_law_366 : decode cL_law 366 = .ok (.iaload, 1) := by decide +kernel
theorem dL_law_367 : decode cL_law 367 = .ok (.aload_n 0, 1) := by decide +kernel
theorem dL_law_368 : decode cL_law 368 = .ok (.iload_n 3, 1) := by decide +kernel
theorem dL_law_369 : decode cL_law 369 = .ok (.iconst 2, 1) := by decide +kernel
theorem dL_law_370 : decode cL_law 370 = .ok (.iadd, 1) := by decide +kernel
theorem dL_law_371 : decode cL_law 371 = .ok (.iaload, 1) := by decide +kernel
theorem dL_law_372 : decode cL_law 372 = .ok (.invokevirtual 47, 3) := by decide +kernel
theorem dL_law_375 : decode cL_law 375 = .ok (.if_icmp .eq 703, 3) := by decide +kernel
theorem dL_law_378 : decode cL_law 378 = .ok (.iconst 0, 1) := by decide +kernel
theorem dL_law_379 : decode cL_law 379 = .ok (.ireturn, 1) := by decide +kernel
theorem dL_law_380 : decode cL_law 380 = .ok (.aload_n 1, 1) := by decide +kernel
theorem dL_law_381 : decode cL_law 381 = .ok (.aload_n 0, 1) := by decide +kernel
theorem dL_law_382 : decode cL_law 382 = .ok (.iload_n 3, 1) := by decide +kernel
theorem dL_law_383 : decode cL_law 383 = .ok (.iconst 1, 1) := by decide +kernel
theorem dL_law_384 : decode cL_law 384 = .ok (.iadd, 1) := by decide +kernel
theorem dL_law_385 : decode cL_law 385 = .ok (.iaload, 1) := by decide +kernel
theorem dL_law_386 : decode cL_law 386 = .ok (.aload_n 0, 1) := by decide +kernel
theorem dL_law_387 : decode cL_law 387 = .ok (.iload_n 3, 1) := by decide +kernel
theorem dL_law_388 : decode cL_law 388 = .ok (.iconst 2, 1) := by decide +kernel
theorem dL_law_389 : decode cL_law 389 = .ok (.iadd, 1) := by decide +kernel
theorem dL_law_390 : decode cL_law 390 = .ok (.iaload, 1) := by decide +kernel
theorem dL_law_391 : decode cL_law 391 = .ok (.invokevirtual 48, 3) := by decide +kernel
theorem dL_law_394 : decode cL_law 394 = .ok (.aload_n 2, 1) := by decide +kernel
theorem dL_law_395 : decode cL_law 395 = .ok (.aload_n 0, 1) := by decide +kernel
theorem dL_law_396 : decode cL_law 396 = .ok (.iload_n 3, 1) := by decide +kernel
theorem dL_law_397 : decode cL_law 397 = .ok (.iconst 1, 1) := by decide +kernel
theorem dL_law_398 : decode cL_law 398 = .ok (.iadd, 1) := by decide +kernel
theorem dL_law_399 : decode cL_law 399 = .ok (.iaload, 1) := by decide +kernel
theorem dL_law_400 : decode cL_law 400 = .ok (.aload_n 0, 1) := by decide +kernel
theorem dL_law_401 : decode cL_law 401 = .ok (.iload_n 3, 1) := by decide +kernel
theorem dL_law_402 : decode cL_law 402 = .ok (.iconst 2, 1) := by decide +kernel
theorem dL_law_403 : decode cL_law 403 = .ok (.iadd, 1) := by decide +kernel
theorem dL_law_404 : decode cL_law 404 = .ok (.iaload, 1) := by decide +kernel
theorem dL_law_405 : decode cL_law 405 = .ok (.invokevirtual 51, 3) := by decide +kernel
theorem dL_law_408 : decode cL_law 408 = .ok (.if_icmp .eq 670, 3) := by decide +kernel
theorem dL_law_411 : decode cL_law 411 = .ok (.iconst 0, 1) := by decide +kernel
theorem dL_law_412 : decode cL_law 412 = .ok (.ireturn, 1) := by decide +kernel
theorem dL_law_413 : decode cL_law 413 = .ok (.aload_n 1, 1) := by decide +kernel
theorem dL_law_414 : decode cL_law 414 = .ok (.aload_n 0, 1) := by decide +kernel
theorem dL_law_415 : decode cL_law 415 = .ok (.iload_n 3, 1) := by decide +kernel
theorem dL_law_416 : decode cL_law 416 = .ok (.iconst 1, 1) := by decide +kernel
theorem dL_law_417 : decode cL_law 417 = .ok (.iadd, 1) := by decide +kernel
theorem dL_law_418 : decode cL_law 418 = .ok (.iaload, 1) := by decide +kernel
theorem dL_law_419 : decode cL_law 419 = .ok (.ifCond .eq 7, 3) := by decide +kernel
theorem dL_law_422 : decode cL_law 422 = .ok (.iconst 1, 1) := by decide +kernel
theorem dL_law_423 : decode cL_law 423 = .ok (.goto 4, 3) := by decide +kernel
theorem dL_law_426 : decode cL_law 426 = .ok (.iconst 0, 1) := by decide +kernel
theorem dL_law_427 : decode cL_law 427 = .ok (.invokevirtual 52, 3) := by decide +kernel
theorem dL_law_430 : decode cL_law 430 = .ok (.aload_n 2, 1) := by decide +kernel
theorem dL_law_431 : decode cL_law 431 = .ok (.aload_n 0, 1) := by decide +kernel
theorem dL_law_432 : decode cL_law 432 = .ok (.iload_n 3, 1) := by decide +kernel
theorem dL_law_433 : decode cL_law 433 = .ok (.iconst 1, 1) := by decide +kernel
theorem dL_law_434 : decode cL_law 434 = .ok (.iadd, 1) := by decide +kernel
theorem dL_law_435 : decode cL_law 435 = .ok (.iaload, 1) := by decide +kernel
theorem dL_law_436 : decode cL_law 436 = .ok (.ifCond .eq 7, 3) := by decide +kernel
theorem dL_law_439 : decode cL_law 439 = .ok (.iconst 1, 1) := by decide +kernel
theorem dL_law_440 : decode cL_law 440 = .ok (.goto 4, 3) := by decide +kernel
theorem dL_law_443 : decode cL_law 443 = .ok (.iconst 0, 1) := by decide +kernel
theorem dL_law_444 : decode cL_law 444 = .ok (.invokevirtual 56, 3) := by decide +kernel
theorem dL_law_447 : decode cL_law 447 = .ok (.if_icmp .eq 631, 3) := by decide +kernel
theorem dL_law_450 : decode cL_law 450 = .ok (.iconst 0, 1) := by decide +kernel
theorem dL_law_451 : decode cL_law 451 = .ok (.ireturn, 1) := by decide +kernel
theorem dL_law_452 : decode cL_law 452 = .ok (.aload_n 1, 1) := by decide +kernel
theorem dL_law_453 : decode cL_law 453 = .ok (.aload_n 0, 1) := by decide +kernel
theorem dL_law_454 : decode cL_law 454 = .ok (.iload_n 3, 1) := by decide +kernel
theorem dL_law_455 : decode cL_law 455 = .ok (.iconst 1, 1) := by decide +kernel
theorem dL_law_456 : decode cL_law 456 = .ok (.iadd, 1) := by decide +kernel
theorem dL_law_457 : decode cL_law 457 = .ok (.iaload, 1) := by decide +kernel
theorem dL_law_458 : decode cL_law 458 = .ok (.invokevirtual 57, 3) := by decide +kernel
theorem dL_law_461 : decode cL_law 461 = .ok (.aload_n 2, 1) := by decide +kernel
theorem dL_law_462 : decode cL_law 462 = .ok (.aload_n 0, 1) := by decide +kernel
theorem dL_law_463 : decode cL_law 463 = .ok (.iload_n 3, 1) := by decide +kernel
theorem dL_law_464 : decode cL_law 464 = .ok (.iconst 1, 1) := by decide +kernel
theorem dL_law_465 : decode cL_law 465 = .ok (.iadd, 1) := by decide +kernel
theorem dL_law_466 : decode cL_law 466 = .ok (.iaload, 1) := by decide +kernel
theorem dL_law_467 : decode cL_law 467 = .ok (.invokevirtual 60, 3) := by decide +kernel
theorem dL_law_470 : decode cL_law 470 = .ok (.if_icmp .eq 608, 3) := by decide +kernel
theorem dL_law_473 : decode cL_law 473 = .ok (.iconst 0, 1) := by decide +kernel
theorem dL_law_474 : decode cL_law 474 = .ok (.ireturn, 1) := by decide +kernel
theorem dL_law_475 : decode cL_law 475 = .ok (.aload_n 1, 1) := by decide +kernel
theorem dL_law_476 : decode cL_law 476 = .ok (.aload_n 0, 1) := by decide +kernel
theorem dL_law_477 : decode cL_law 477 = .ok (.iload_n 3, 1) := by decide +kernel
theorem dL_law_478 : decode cL_law 478 = .ok (.iconst 1, 1) := by decide +kernel
theorem dL_law_479 : decode cL_law 479 = .ok (.iadd, 1) := by decide +kernel
theorem dL_law_480 : decode cL_law 480 = .ok (.iaload, 1) := by decide +kernel
theorem dL_law_481 : decode cL_law 481 = .ok (.invokevirtual 61, 3) := by decide +kernel
theorem dL_law_484 : decode cL_law 484 = .ok (.aload_n 2, 1) := by decide +kernel
theorem dL_law_485 : decode cL_law 485 = .ok (.aload_n 0, 1) := by decide +kernel
theorem dL_law_486 : decode cL_law 486 = .ok (.iload_n 3, 1) := by decide +kernel
theorem dL_law_487 : decode cL_law 487 = .ok (.iconst 1, 1) := by decide +kernel
theorem dL_law_488 : decode cL_law 488 = .ok (.iadd, 1) := by decide +kernel
theorem dL_law_489 : decode cL_law 489 = .ok (.iaload, 1) := by decide +kernel
theorem dL_law_490 : decode cL_law 490 = .ok (.invokevirtual 64, 3) := by decide +kernel
theorem dL_law_493 : decode cL_law 493 = .ok (.if_icmp .eq 585, 3) := by decide +kernel
theorem dL_law_496 : decode cL_law 496 = .ok (.iconst 0, 1) := by decide +kernel
theorem dL_law_497 : decode cL_law 497 = .ok (.ireturn, 1) := by decide +kernel
theorem dL_law_498 : decode cL_law 498 = .ok (.aload_n 1, 1) := by decide +kernel
theorem dL_law_499 : decode cL_law 499 = .ok (.aload_n 0, 1) := by decide +kernel
theorem dL_law_500 : decode cL_law 500 = .ok (.iload_n 3, 1) := by decide +kernel
theorem dL_law_501 : decode cL_law 501 = .ok (.iconst 1, 1) := by decide +kernel
theorem dL_law_502 : decode cL_law 502 = .ok (.iadd, 1) := by decide +kernel
theorem dL_law_503 : decode cL_law 503 = .ok (.iaload, 1) := by decide +kernel
theorem dL_law_504 : decode cL_law 504 = .ok (.aload_n 0, 1) := by decide +kernel
theorem dL_law_505 : decode cL_law 505 = .ok (.iload_n 3, 1) := by decide +kernel
theorem dL_law_506 : decode cL_law 506 = .ok (.iconst 2, 1) := by decide +kernel
theorem dL_law_507 : decode cL_law 507 = .ok (.iadd, 1) := by decide +kernel
theorem dL_law_508 : decode cL_law 508 = .ok (.iaload, 1) := by decide +kernel
theorem dL_law_509 : decode cL_law 509 = .ok (.invokevirtual 65, 3) := by decide +kernel
theorem dL_law_512 : decode cL_law 512 = .ok (.aload_n 2, 1) := by decide +kernel
theorem dL_law_513 : decode cL_law 513 = .ok (.aload_n 0, 1) := by decide +kernel
theorem dL_law_514 : decode cL_law 514 = .ok (.iload_n 3, 1) := by decide +kernel
theorem dL_law_515 : decode cL_law 515 = .ok (.iconst 1, 1) := by decide +kernel
theorem dL_law_516 : decode cL_law 516 = .ok (.iadd, 1) := by decide +kernel
theorem dL_law_517 : decode cL_law 517 = .ok (.iaload, 1) := by decide +kernel
theorem dL_law_518 : decode cL_law 518 = .ok (.aload_n 0, 1) := by decide +kernel
theorem dL_law_519 : decode cL_law 519 = .ok (.iload_n 3, 1) := by decide +kernel
theorem dL_law_520 : decode cL_law 520 = .ok (.iconst 2, 1) := by decide +kernel
theorem dL_law_521 : decode cL_law 521 = .ok (.iadd, 1) := by decide +kernel
theorem dL_law_522 : decode cL_law 522 = .ok (.iaload, 1) := by decide +kernel
theorem dL_law_523 : decode cL_law 523 = .ok (.invokevirtual 68, 3) := by decide +kernel
theorem dL_law_526 : decode cL_law 526 = .ok (.if_icmp .eq 552, 3) := by decide +kernel
theorem dL_law_529 : decode cL_law 529 = .ok (.iconst 0, 1) := by decide +kernel
theorem dL_law_530 : decode cL_law 530 = .ok (.ireturn, 1) := by decide +kernel
theorem dL_law_531 : decode cL_law 531 = .ok (.aload_n 1, 1) := by decide +kernel
theorem dL_law_532 : decode cL_law 532 = .ok (.aload_n 0, 1) := by decide +kernel
theorem dL_law_533 : decode cL_law 533 = .ok (.iload_n 3, 1) := by decide +kernel
theorem dL_law_534 : decode cL_law 534 = .ok (.iconst 1, 1) := by decide +kernel
theorem dL_law_535 : decode cL_law 535 = .ok (.iadd, 1) := by decide +kernel
theorem dL_law_536 : decode cL_law 536 = .ok (.iaload, 1) := by decide +kernel
theorem dL_law_537 : decode cL_law 537 = .ok (.aload_n 0, 1) := by decide +kernel
theorem dL_law_538 : decode cL_law 538 = .ok (.iload_n 3, 1) := by decide +kernel
theorem dL_law_539 : decode cL_law 539 = .ok (.iconst 2, 1) := by decide +kernel
theorem dL_law_540 : decode cL_law 540 = .ok (.iadd, 1) := by decide +kernel
theorem dL_law_541 : decode cL_law 541 = .ok (.iaload, 1) := by decide +kernel
theorem dL_law_542 : decode cL_law 542 = .ok (.invokevirtual 69, 3) := by decide +kernel
theorem dL_law_545 : decode cL_law 545 = .ok (.aload_n 2, 1) := by decide +kernel
theorem dL_law_546 : decode cL_law 546 = .ok (.aload_n 0, 1) := by decide +kernel
theorem dL_law_547 : decode cL_law 547 = .ok (.iload_n 3, 1) := by decide +kernel
theorem dL_law_548 : decode cL_law 548 = .ok (.iconst 1, 1) := by decide +kernel
theorem dL_law_549 : decode cL_law 549 = .ok (.iadd, 1) := by decide +kernel
theorem dL_law_550 : decode cL_law 550 = .ok (.iaload, 1) := by decide +kernel
theorem dL_law_551 : decode cL_law 551 = .ok (.aload_n 0, 1) := by decide +kernel
theorem dL_law_552 : decode cL_law 552 = .ok (.iload_n 3, 1) := by decide +kernel
theorem dL_law_553 : decode cL_law 553 = .ok (.iconst 2, 1) := by decide +kernel
theorem dL_law_554 : decode cL_law 554 = .ok (.iadd, 1) := by decide +kernel
theorem dL_law_555 : decode cL_law 555 = .ok (.iaload, 1) := by decide +kernel
theorem dL_law_556 : decode cL_law 556 = .ok (.invokevirtual 72, 3) := by decide +kernel
theorem dL_law_559 : decode cL_law 559 = .ok (.if_icmp .eq 519, 3) := by decide +kernel
theorem dL_law_562 : decode cL_law 562 = .ok (.iconst 0, 1) := by decide +kernel
theorem dL_law_563 : decode cL_law 563 = .ok (.ireturn, 1) := by decide +kernel
theorem dL_law_564 : decode cL_law 564 = .ok (.aload_n 1, 1) := by decide +kernel
theorem dL_law_565 : decode cL_law 565 = .ok (.aload_n 0, 1) := by decide +kernel
theorem dL_law_566 : decode cL_law 566 = .ok (.iload_n 3, 1) := by decide +kernel
theorem dL_law_567 : decode cL_law 567 = .ok (.iconst 1, 1) := by decide +kernel
theorem dL_law_568 : decode cL_law 568 = .ok (.iadd, 1) := by decide +kernel
theorem dL_law_569 : decode cL_law 569 = .ok (.iaload, 1) := by decide +kernel
theorem dL_law_570 : decode cL_law 570 = .ok (.invokevirtual 73, 3) := by decide +kernel
theorem dL_law_573 : decode cL_law 573 = .ok (.aload_n 2, 1) := by decide +kernel
theorem dL_law_574 : decode cL_law 574 = .ok (.aload_n 0, 1) := by decide +kernel
theorem dL_law_575 : decode cL_law 575 = .ok (.iload_n 3, 1) := by decide +kernel
theorem dL_law_576 : decode cL_law 576 = .ok (.iconst 1, 1) := by decide +kernel
theorem dL_law_577 : decode cL_law 577 = .ok (.iadd, 1) := by decide +kernel
theorem dL_law_578 : decode cL_law 578 = .ok (.iaload, 1) := by decide +kernel
theorem dL_law_579 : decode cL_law 579 = .ok (.invokevirtual 76, 3) := by decide +kernel
theorem dL_law_582 : decode cL_law 582 = .ok (.if_icmp .eq 496, 3) := by decide +kernel
theorem dL_law_585 : decode cL_law 585 = .ok (.iconst 0, 1) := by decide +kernel
theorem dL_law_586 : decode cL_law 586 = .ok (.ireturn, 1) := by decide +kernel
theorem dL_law_587 : decode cL_law 587 = .ok (.aload_n 1, 1) := by decide +kernel
theorem dL_law_588 : decode cL_law 588 = .ok (.aload_n 0, 1) := by decide +kernel
theorem dL_law_589 : decode cL_law 589 = .ok (.iload_n 3, 1) := by decide +kernel
theorem dL_law_590 : decode cL_law 590 = .ok (.iconst 1, 1) := by decide +kernel
theorem dL_law_591 : decode cL_law 591 = .ok (.iadd, 1) := by decide +kernel
theorem dL_law_592 : decode cL_law 592 = .ok (.iaload, 1) := by decide +kernel
theorem dL_law_593 : decode cL_law 593 = .ok (.invokevirtual 77, 3) := by decide +kernel
theorem dL_law_596 : decode cL_law 596 = .ok (.aload_n 2, 1) := by decide +kernel
theorem dL_law_597 : decode cL_law 597 = .ok (.aload_n 0, 1) := by decide +kernel
theorem dL_law_598 : decode cL_law 598 = .ok (.iload_n 3, 1) := by decide +kernel
theorem dL_law_599 : decode cL_law 599 = .ok (.iconst 1, 1) := by decide +kernel
theorem dL_law_600 : decode cL_law 600 = .ok (.iadd, 1) := by decide +kernel
theorem dL_law_601 : decode cL_law 601 = .ok (.iaload, 1) := by decide +kernel
theorem dL_law_602 : decode cL_law 602 = .ok (.invokevirtual 80, 3) := by decide +kernel
theorem dL_law_605 : decode cL_law 605 = .ok (.if_icmp .eq 473, 3) := by decide +kernel
theorem dL_law_608 : decode cL_law 608 = .ok (.iconst 0, 1) := by decide +kernel
theorem dL_law_609 : decode cL_law 609 = .ok (.ireturn, 1) := by decide +kernel
theorem dL_law_610 : decode cL_law 610 = .ok (.aload_n 1, 1) := by decide +kernel
theorem dL_law_611 : decode cL_law 611 = .ok (.aload_n 0, 1) := by decide +kernel
theorem dL_law_612 : decode cL_law 612 = .ok (.iload_n 3, 1) := by decide +kernel
theorem dL_law_613 : decode cL_law 613 = .ok (.iconst 1, 1) := by decide +kernel
theorem dL_law_614 : decode cL_law 614 = .ok (.iadd, 1) := by decide +kernel
theorem dL_law_615 : decode cL_law 615 = .ok (.iaload, 1) := by decide +kernel
theorem dL_law_616 : decode cL_law 616 = .ok (.aload_n 0, 1) := by decide +kernel
theorem dL_law_617 : decode cL_law 617 = .ok (.iload_n 3, 1) := by decide +kernel
theorem dL_law_618 : decode cL_law 618 = .ok (.iconst 2, 1) := by decide +kernel
theorem dL_law_619 : decode cL_law 619 = .ok (.iadd, 1) := by decide +kernel
theorem dL_law_620 : decode cL_law 620 = .ok (.iaload, 1) := by decide +kernel
theorem dL_law_621 : decode cL_law 621 = .ok (.invokevirtual 81, 3) := by decide +kernel
theorem dL_law_624 : decode cL_law 624 = .ok (.aload_n 2, 1) := by decide +kernel
theorem dL_law_625 : decode cL_law 625 = .ok (.aload_n 0, 1) := by decide +kernel
theorem dL_law_626 : decode cL_law 626 = .ok (.iload_n 3, 1) := by decide +kernel
theorem dL_law_627 : decode cL_law 627 = .ok (.iconst 1, 1) := by decide +kernel
theorem dL_law_628 : decode cL_law 628 = .ok (.iadd, 1) := by decide +kernel
theorem dL_law_629 : decode cL_law 629 = .ok (.iaload, 1) := by decide +kernel
theorem dL_law_630 : decode cL_law 630 = .ok (.aload_n 0, 1) := by decide +kernel
theorem dL_law_631 : decode cL_law 631 = .ok (.iload_n 3, 1) := by decide +kernel
theorem dL_law_632 : decode cL_law 632 = .ok (.iconst 2, 1) := by decide +kernel
theorem dL_law_633 : decode cL_law 633 = .ok (.iadd, 1) := by decide +kernel
theorem dL_law_634 : decode cL_law 634 = .ok (.iaload, 1) := by decide +kernel
theorem dL_law_635 : decode cL_law 635 = .ok (.invokevirtual 84, 3) := by decide +kernel
theorem dL_law_638 : decode cL_law 638 = .ok (.if_icmp .eq 440, 3) := by decide +kernel
theorem dL_law_641 : decode cL_law 641 = .ok (.iconst 0, 1) := by decide +kernel
theorem dL_law_642 : decode cL_law 642 = .ok (.ireturn, 1) := by decide +kernel
theorem dL_law_643 : decode cL_law 643 = .ok (.aload_n 1, 1) := by decide +kernel
theorem dL_law_644 : decode cL_law 644 = .ok (.aload_n 0, 1) := by decide +kernel
theorem dL_law_645 : decode cL_law 645 = .ok (.iload_n 3, 1) := by decide +kernel
theorem dL_law_646 : decode cL_law 646 = .ok (.iconst 1, 1) := by decide +kernel
theorem dL_law_647 : decode cL_law 647 = .ok (.iadd, 1) := by decide +kernel
theorem dL_law_648 : decode cL_law 648 = .ok (.iaload, 1) := by decide +kernel
theorem dL_law_649 : decode cL_law 649 = .ok (.aload_n 0, 1) := by decide +kernel
theorem dL_law_650 : decode cL_law 650 = .ok (.iload_n 3, 1) := by decide +kernel
theorem dL_law_651 : decode cL_law 651 = .ok (.iconst 2, 1) := by decide +kernel
theorem dL_law_652 : decode cL_law 652 = .ok (.iadd, 1) := by decide +kernel
theorem dL_law_653 : decode cL_law 653 = .ok (.iaload, 1) := by decide +kernel
theorem dL_law_654 : decode cL_law 654 = .ok (.aload_n 0, 1) := by decide +kernel
theorem dL_law_655 : decode cL_law 655 = .ok (.iload_n 3, 1) := by decide +kernel
theorem dL_law_656 : decode cL_law 656 = .ok (.iconst 3, 1) := by decide +kernel
theorem dL_law_657 : decode cL_law 657 = .ok (.iadd, 1) := by decide +kernel
theorem dL_law_658 : decode cL_law 658 = .ok (.iaload, 1) := by decide +kernel
theorem dL_law_659 : decode cL_law 659 = .ok (.invokevirtual 85, 3) := by decide +kernel
theorem dL_law_662 : decode cL_law 662 = .ok (.aload_n 2, 1) := by decide +kernel
theorem dL_law_663 : decode cL_law 663 = .ok (.aload_n 0, 1) := by decide +kernel
theorem dL_law_664 : decode cL_law 664 = .ok (.iload_n 3, 1) := by decide +kernel
theorem dL_law_665 : decode cL_law 665 = .ok (.iconst 1, 1) := by decide +kernel
theorem dL_law_666 : decode cL_law 666 = .ok (.iadd, 1) := by decide +kernel
theorem dL_law_667 : decode cL_law 667 = .ok (.iaload, 1) := by decide +kernel
theorem dL_law_668 : decode cL_law 668 = .ok (.aload_n 0, 1) := by decide +kernel
theorem dL_law_669 : decode cL_law 669 = .ok (.iload_n 3, 1) := by decide +kernel
theorem dL_law_670 : decode cL_law 670 = .ok (.iconst 2, 1) := by decide +kernel
theorem dL_law_671 : decode cL_law 671 = .ok (.iadd, 1) := by decide +kernel
theorem dL_law_672 : decode cL_law 672 = .ok (.iaload, 1) := by decide +kernel
theorem dL_law_673 : decode cL_law 673 = .ok (.aload_n 0, 1) := by decide +kernel
theorem dL_law_674 : decode cL_law 674 = .ok (.iload_n 3, 1) := by decide +kernel
theorem dL_law_675 : decode cL_law 675 = .ok (.iconst 3, 1) := by decide +kernel
theorem dL_law_676 : decode cL_law 676 = .ok (.iadd, 1) := by decide +kernel
theorem dL_law_677 : decode cL_law 677 = .ok (.iaload, 1) := by decide +kernel
theorem dL_law_678 : decode cL_law 678 = .ok (.invokevirtual 89, 3) := by decide +kernel
theorem dL_law_681 : decode cL_law 681 = .ok (.if_icmp .eq 397, 3) := by decide +kernel
theorem dL_law_684 : decode cL_law 684 = .ok (.iconst 0, 1) := by decide +kernel
theorem dL_law_685 : decode cL_law 685 = .ok (.ireturn, 1) := by decide +kernel
theorem dL_law_686 : decode cL_law 686 = .ok (.aload_n 1, 1) := by decide +kernel
theorem dL_law_687 : decode cL_law 687 = .ok (.aload_n 0, 1) := by decide +kernel
theorem dL_law_688 : decode cL_law 688 = .ok (.iload_n 3, 1) := by decide +kernel
theorem dL_law_689 : decode cL_law 689 = .ok (.iconst 1, 1) := by decide +kernel
theorem dL_law_690 : decode cL_law 690 = .ok (.iadd, 1) := by decide +kernel
theorem dL_law_691 : decode cL_law 691 = .ok (.iaload, 1) := by decide +kernel
theorem dL_law_692 : decode cL_law 692 = .ok (.aload_n 0, 1) := by decide +kernel
theorem dL_law_693 : decode cL_law 693 = .ok (.iload_n 3, 1) := by decide +kernel
theorem dL_law_694 : decode cL_law 694 = .ok (.iconst 2, 1) := by decide +kernel
theorem dL_law_695 : decode cL_law 695 = .ok (.iadd, 1) := by decide +kernel
theorem dL_law_696 : decode cL_law 696 = .ok (.iaload, 1) := by decide +kernel
theorem dL_law_697 : decode cL_law 697 = .ok (.invokevirtual 90, 3) := by decide +kernel
theorem dL_law_700 : decode cL_law 700 = .ok (.aload_n 2, 1) := by decide +kernel
theorem dL_law_701 : decode cL_law 701 = .ok (.aload_n 0, 1) := by decide +kernel
theorem dL_law_702 : decode cL_law 702 = .ok (.iload_n 3, 1) := by decide +kernel
theorem dL_law_703 : decode cL_law 703 = .ok (.iconst 1, 1) := by decide +kernel
theorem dL_law_704 : decode cL_law 704 = .ok (.iadd, 1) := by decide +kernel
theorem dL_law_705 : decode cL_law 705 = .ok (.iaload, 1) := by decide +kernel
theorem dL_law_706 : decode cL_law 706 = .ok (.aload_n 0, 1) := by decide +kernel
theorem dL_law_707 : decode cL_law 707 = .ok (.iload_n 3, 1) := by decide +kernel
theorem dL_law_708 : decode cL_law 708 = .ok (.iconst 2, 1) := by decide +kernel
theorem dL_law_709 : decode cL_law 709 = .ok (.iadd, 1) := by decide +kernel
theorem dL_law_710 : decode cL_law 710 = .ok (.iaload, 1) := by decide +kernel
theorem dL_law_711 : decode cL_law 711 = .ok (.invokevirtual 93, 3) := by decide +kernel
theorem dL_law_714 : decode cL_law 714 = .ok (.if_icmp .eq 364, 3) := by decide +kernel
theorem dL_law_717 : decode cL_law 717 = .ok (.iconst 0, 1) := by decide +kernel
theorem dL_law_718 : decode cL_law 718 = .ok (.ireturn, 1) := by decide +kernel
theorem dL_law_719 : decode cL_law 719 = .ok (.aload_n 1, 1) := by decide +kernel
theorem dL_law_720 : decode cL_law 720 = .ok (.aload_n 0, 1) := by decide +kernel
theorem dL_law_721 : decode cL_law 721 = .ok (.iload_n 3, 1) := by decide +kernel
theorem dL_law_722 : decode cL_law 722 = .ok (.iconst 1, 1) := by decide +kernel
theorem dL_law_723 : decode cL_law 723 = .ok (.iadd, 1) := by decide +kernel
theorem dL_law_724 : decode cL_law 724 = .ok (.iaload, 1) := by decide +kernel
theorem dL_law_725 : decode cL_law 725 = .ok (.aload_n 0, 1) := by decide +kernel
theorem dL_law_726 : decode cL_law 726 = .ok (.iload_n 3, 1) := by decide +kernel
theorem dL_law_727 : decode cL_law 727 = .ok (.iconst 2, 1) := by decide +kernel
theorem dL_law_728 : decode cL_law 728 = .ok (.iadd, 1) := by decide +kernel
theorem dL_law_729 : decode cL_law 729 = .ok (.iaload, 1) := by decide +kernel
theorem dL_law_730 : decode cL_law 730 = .ok (.invokevirtual 94, 3) := by decide +kernel
theorem dL_law_733 : decode cL_law 733 = .ok (.aload_n 2, 1) := by decide +kernel
theorem dL_law_734 : decode cL_law 734 = .ok (.aload_n 0, 1) := by decide +kernel
theorem dL_law_735 : decode cL_law 735 = .ok (.iload_n 3, 1) := by decide +kernel
theorem dL_law_736 : decode cL_law 736 = .ok (.iconst 1, 1) := by decide +kernel
theorem dL_law_737 : decode cL_law 737 = .ok (.iadd, 1) := by decide +kernel
theorem dL_law_738 : decode cL_law 738 = .ok (.iaload, 1) := by decide +kernel
theorem dL_law_739 : decode cL_law 739 = .ok (.aload_n 0, 1) := by decide +kernel
theorem dL_law_740 : decode cL_law 740 = .ok (.iload_n 3, 1) := by decide +kernel
theorem dL_law_741 : decode cL_law 741 = .ok (.iconst 2, 1) := by decide +kernel
theorem dL_law_742 : decode cL_law 742 = .ok (.iadd, 1) := by decide +kernel
theorem dL_law_743 : decode cL_law 743 = .ok (.iaload, 1) := by decide +kernel
theorem dL_law_744 : decode cL_law 744 = .ok (.invokevirtual 97, 3) := by decide +kernel
theorem dL_law_747 : decode cL_law 747 = .ok (.if_icmp .eq 331, 3) := by decide +kernel
theorem dL_law_750 : decode cL_law 750 = .ok (.iconst 0, 1) := by decide +kernel
theorem dL_law_751 : decode cL_law 751 = .ok (.ireturn, 1) := by decide +kernel
theorem dL_law_752 : decode cL_law 752 = .ok (.aload_n 1, 1) := by decide +kernel
theorem dL_law_753 : decode cL_law 753 = .ok (.aload_n 0, 1) := by decide +kernel
theorem dL_law_754 : decode cL_law 754 = .ok (.iload_n 3, 1) := by decide +kernel
theorem dL_law_755 : decode cL_law 755 = .ok (.iconst 1, 1) := by decide +kernel
theorem dL_law_756 : decode cL_law 756 = .ok (.iadd, 1) := by decide +kernel
theorem dL_law_757 : decode cL_law 757 = .ok (.iaload, 1) := by decide +kernel
theorem dL_law_758 : decode cL_law 758 = .ok (.aload_n 0, 1) := by decide +kernel
theorem dL_law_759 : decode cL_law 759 = .ok (.iload_n 3, 1) := by decide +kernel
theorem dL_law_760 : decode cL_law 760 = .ok (.iconst 2, 1) := by decide +kernel
theorem dL_law_761 : decode cL_law 761 = .ok (.iadd, 1) := by decide +kernel
theorem dL_law_762 : decode cL_law 762 = .ok (.iaload, 1) := by decide +kernel
theorem dL_law_763 : decode cL_law 763 = .ok (.invokevirtual 98, 3) := by decide +kernel
theorem dL_law_766 : decode cL_law 766 = .ok (.aload_n 2, 1) := by decide +kernel
theorem dL_law_767 : decode cL_law 767 = .ok (.aload_n 0, 1) := by decide +kernel
theorem dL_law_768 : decode cL_law 768 = .ok (.iload_n 3, 1) := by decide +kernel
theorem dL_law_769 : decode cL_law 769 = .ok (.iconst 1, 1) := by decide +kernel
theorem dL_law_770 : decode cL_law 770 = .ok (.iadd, 1) := by decide +kernel
theorem dL_law_771 : decode cL_law 771 = .ok (.iaload, 1) := by decide +kernel
theorem dL_law_772 : decode cL_law 772 = .ok (.aload_n 0, 1) := by decide +kernel
theorem dL_law_773 : decode cL_law 773 = .ok (.iload_n 3, 1) := by decide +kernel
theorem dL_law_774 : decode cL_law 774 = .ok (.iconst 2, 1) := by decide +kernel
theorem dL_law_775 : decode cL_law 775 = .ok (.iadd, 1) := by decide +kernel
theorem dL_law_776 : decode cL_law 776 = .ok (.iaload, 1) := by decide +kernel
theorem dL_law_777 : decode cL_law 777 = .ok (.invokevirtual 101, 3) := by decide +kernel
theorem dL_law_780 : decode cL_law 780 = .ok (.if_icmp .eq 298, 3) := by decide +kernel
theorem dL_law_783 : decode cL_law 783 = .ok (.iconst 0, 1) := by decide +kernel
theorem dL_law_784 : decode cL_law 784 = .ok (.ireturn, 1) := by decide +kernel
theorem dL_law_785 : decode cL_law 785 = .ok (.aload_n 1, 1) := by decide +kernel
theorem dL_law_786 : decode cL_law 786 = .ok (.aload_n 0, 1) := by decide +kernel
theorem dL_law_787 : decode cL_law 787 = .ok (.iload_n 3, 1) := by decide +kernel
theorem dL_law_788 : decode cL_law 788 = .ok (.iconst 1, 1) := by decide +kernel
theorem dL_law_789 : decode cL_law 789 = .ok (.iadd, 1) := by decide +kernel
theorem dL_law_790 : decode cL_law 790 = .ok (.iaload, 1) := by decide +kernel
theorem dL_law_791 : decode cL_law 791 = .ok (.aload_n 0, 1) := by decide +kernel
theorem dL_law_792 : decode cL_law 792 = .ok (.iload_n 3, 1) := by decide +kernel
theorem dL_law_793 : decode cL_law 793 = .ok (.iconst 2, 1) := by decide +kernel
theorem dL_law_794 : decode cL_law 794 = .ok (.iadd, 1) := by decide +kernel
theorem dL_law_795 : decode cL_law 795 = .ok (.iaload, 1) := by decide +kernel
theorem dL_law_796 : decode cL_law 796 = .ok (.invokevirtual 102, 3) := by decide +kernel
theorem dL_law_799 : decode cL_law 799 = .ok (.aload_n 2, 1) := by decide +kernel
theorem dL_law_800 : decode cL_law 800 = .ok (.aload_n 0, 1) := by decide +kernel
theorem dL_law_801 : decode cL_law 801 = .ok (.iload_n 3, 1) := by decide +kernel
theorem dL_law_802 : decode cL_law 802 = .ok (.iconst 1, 1) := by decide +kernel
theorem dL_law_803 : decode cL_law 803 = .ok (.iadd, 1) := by decide +kernel
theorem dL_law_804 : decode cL_law 804 = .ok (.iaload, 1) := by decide +kernel
theorem dL_law_805 : decode cL_law 805 = .ok (.aload_n 0, 1) := by decide +kernel
theorem dL_law_806 : decode cL_law 806 = .ok (.iload_n 3, 1) := by decide +kernel
theorem dL_law_807 : decode cL_law 807 = .ok (.iconst 2, 1) := by decide +kernel
theorem dL_law_808 : decode cL_law 808 = .ok (.iadd, 1) := by decide +kernel
theorem dL_law_809 : decode cL_law 809 = .ok (.iaload, 1) := by decide +kernel
theorem dL_law_810 : decode cL_law 810 = .ok (.invokevirtual 105, 3) := by decide +kernel
theorem dL_law_813 : decode cL_law 813 = .ok (.if_icmp .eq 265, 3) := by decide +kernel
theorem dL_law_816 : decode cL_law 816 = .ok (.iconst 0, 1) := by decide +kernel
theorem dL_law_817 : decode cL_law 817 = .ok (.ireturn, 1) := by decide +kernel
theorem dL_law_818 : decode cL_law 818 = .ok (.aload_n 1, 1) := by decide +kernel
theorem dL_law_819 : decode cL_law 819 = .ok (.aload_n 0, 1) := by decide +kernel
theorem dL_law_820 : decode cL_law 820 = .ok (.iload_n 3, 1) := by decide +kernel
theorem dL_law_821 : decode cL_law 821 = .ok (.iconst 1, 1) := by decide +kernel
theorem dL_law_822 : decode cL_law 822 = .ok (.iadd, 1) := by decide +kernel
theorem dL_law_823 : decode cL_law 823 = .ok (.iaload, 1) := by decide +kernel
theorem dL_law_824 : decode cL_law 824 = .ok (.invokevirtual 106, 3) := by decide +kernel
theorem dL_law_827 : decode cL_law 827 = .ok (.aload_n 2, 1) := by decide +kernel
theorem dL_law_828 : decode cL_law 828 = .ok (.aload_n 0, 1) := by decide +kernel
theorem dL_law_829 : decode cL_law 829 = .ok (.iload_n 3, 1) := by decide +kernel
theorem dL_law_830 : decode cL_law 830 = .ok (.iconst 1, 1) := by decide +kernel
theorem dL_law_831 : decode cL_law 831 = .ok (.iadd, 1) := by decide +kernel
theorem dL_law_832 : decode cL_law 832 = .ok (.iaload, 1) := by decide +kernel
theorem dL_law_833 : decode cL_law 833 = .ok (.invokevirtual 109, 3) := by decide +kernel
theorem dL_law_836 : decode cL_law 836 = .ok (.if_icmp .eq 242, 3) := by decide +kernel
theorem dL_law_839 : decode cL_law 839 = .ok (.iconst 0, 1) := by decide +kernel
theorem dL_law_840 : decode cL_law 840 = .ok (.ireturn, 1) := by decide +kernel
theorem dL_law_841 : decode cL_law 841 = .ok (.aload_n 1, 1) := by decide +kernel
theorem dL_law_842 : decode cL_law 842 = .ok (.aload_n 0, 1) := by decide +kernel
theorem dL_law_843 : decode cL_law 843 = .ok (.iload_n 3, 1) := by decide +kernel
theorem dL_law_844 : decode cL_law 844 = .ok (.iconst 1, 1) := by decide +kernel
theorem dL_law_845 : decode cL_law 845 = .ok (.iadd, 1) := by decide +kernel
theorem dL_law_846 : decode cL_law 846 = .ok (.iaload, 1) := by decide +kernel
theorem dL_law_847 : decode cL_law 847 = .ok (.aload_n 0, 1) := by decide +kernel
theorem dL_law_848 : decode cL_law 848 = .ok (.iload_n 3, 1) := by decide +kernel
theorem dL_law_849 : decode cL_law 849 = .ok (.iconst 2, 1) := by decide +kernel
theorem dL_law_850 : decode cL_law 850 = .ok (.iadd, 1) := by decide +kernel
theorem dL_law_851 : decode cL_law 851 = .ok (.iaload, 1) := by decide +kernel
theorem dL_law_852 : decode cL_law 852 = .ok (.invokevirtual 110, 3) := by decide +kernel
theorem dL_law_855 : decode cL_law 855 = .ok (.aload_n 2, 1) := by decide +kernel
theorem dL_law_856 : decode cL_law 856 = .ok (.aload_n 0, 1) := by decide +kernel
theorem dL_law_857 : decode cL_law 857 = .ok (.iload_n 3, 1) := by decide +kernel
theorem dL_law_858 : decode cL_law 858 = .ok (.iconst 1, 1) := by decide +kernel
theorem dL_law_859 : decode cL_law 859 = .ok (.iadd, 1) := by decide +kernel
theorem dL_law_860 : decode cL_law 860 = .ok (.iaload, 1) := by decide +kernel
theorem dL_law_861 : decode cL_law 861 = .ok (.aload_n 0, 1) := by decide +kernel
theorem dL_law_862 : decode cL_law 862 = .ok (.iload_n 3, 1) := by decide +kernel
theorem dL_law_863 : decode cL_law 863 = .ok (.iconst 2, 1) := by decide +kernel
theorem dL_law_864 : decode cL_law 864 = .ok (.iadd, 1) := by decide +kernel
theorem dL_law_865 : decode cL_law 865 = .ok (.iaload, 1) := by decide +kernel
theorem dL_law_866 : decode cL_law 866 = .ok (.invokevirtual 113, 3) := by decide +kernel
theorem dL_law_869 : decode cL_law 869 = .ok (.if_icmp .eq 209, 3) := by decide +kernel
theorem dL_law_872 : decode cL_law 872 = .ok (.iconst 0, 1) := by decide +kernel
theorem dL_law_873 : decode cL_law 873 = .ok (.ireturn, 1) := by decide +kernel
theorem dL_law_874 : decode cL_law 874 = .ok (.aload_n 1, 1) := by decide +kernel
theorem dL_law_875 : decode cL_law 875 = .ok (.aload_n 0, 1) := by decide +kernel
theorem dL_law_876 : decode cL_law 876 = .ok (.iload_n 3, 1) := by decide +kernel
theorem dL_law_877 : decode cL_law 877 = .ok (.iconst 1, 1) := by decide +kernel
theorem dL_law_878 : decode cL_law 878 = .ok (.iadd, 1) := by decide +kernel
theorem dL_law_879 : decode cL_law 879 = .ok (.iaload, 1) := by decide +kernel
theorem dL_law_880 : decode cL_law 880 = .ok (.aload_n 0, 1) := by decide +kernel
theorem dL_law_881 : decode cL_law 881 = .ok (.iload_n 3, 1) := by decide +kernel
theorem dL_law_882 : decode cL_law 882 = .ok (.iconst 2, 1) := by decide +kernel
theorem dL_law_883 : decode cL_law 883 = .ok (.iadd, 1) := by decide +kernel
theorem dL_law_884 : decode cL_law 884 = .ok (.iaload, 1) := by decide +kernel
theorem dL_law_885 : decode cL_law 885 = .ok (.aload_n 0, 1) := by decide +kernel
theorem dL_law_886 : decode cL_law 886 = .ok (.iload_n 3, 1) := by decide +kernel
theorem dL_law_887 : decode cL_law 887 = .ok (.iconst 3, 1) := by decide +kernel
theorem dL_law_888 : decode cL_law 888 = .ok (.iadd, 1) := by decide +kernel
theorem dL_law_889 : decode cL_law 889 = .ok (.iaload, 1) := by decide +kernel
theorem dL_law_890 : decode cL_law 890 = .ok (.invokevirtual 114, 3) := by decide +kernel
theorem dL_law_893 : decode cL_law 893 = .ok (.aload_n 2, 1) := by decide +kernel
theorem dL_law_894 : decode cL_law 894 = .ok (.aload_n 0, 1) := by decide +kernel
theorem dL_law_895 : decode cL_law 895 = .ok (.iload_n 3, 1) := by decide +kernel
theorem dL_law_896 : decode cL_law 896 = .ok (.iconst 1, 1) := by decide +kernel
theorem dL_law_897 : decode cL_law 897 = .ok (.iadd, 1) := by decide +kernel
theorem dL_law_898 : decode cL_law 898 = .ok (.iaload, 1) := by decide +kernel
theorem dL_law_899 : decode cL_law 899 = .ok (.aload_n 0, 1) := by decide +kernel
theorem dL_law_900 : decode cL_law 900 = .ok (.iload_n 3, 1) := by decide +kernel
theorem dL_law_901 : decode cL_law 901 = .ok (.iconst 2, 1) := by decide +kernel
theorem dL_law_902 : decode cL_law 902 = .ok (.iadd, 1) := by decide +kernel
theorem dL_law_903 : decode cL_law 903 = .ok (.iaload, 1) := by decide +kernel
theorem dL_law_904 : decode cL_law 904 = .ok (.aload_n 0, 1) := by decide +kernel
theorem dL_law_905 : decode cL_law 905 = .ok (.iload_n 3, 1) := by decide +kernel
theorem dL_law_906 : decode cL_law 906 = .ok (.iconst 3, 1) := by decide +kernel
theorem dL_law_907 : decode cL_law 907 = .ok (.iadd, 1) := by decide +kernel
theorem dL_law_908 : decode cL_law 908 = .ok (.iaload, 1) := by decide +kernel
theorem dL_law_909 : decode cL_law 909 = .ok (.invokevirtual 117, 3) := by decide +kernel
theorem dL_law_912 : decode cL_law 912 = .ok (.if_icmp .eq 166, 3) := by decide +kernel
theorem dL_law_915 : decode cL_law 915 = .ok (.iconst 0, 1) := by decide +kernel
theorem dL_law_916 : decode cL_law 916 = .ok (.ireturn, 1) := by decide +kernel
theorem dL_law_917 : decode cL_law 917 = .ok (.aload_n 1, 1) := by decide +kernel
theorem dL_law_918 : decode cL_law 918 = .ok (.aload_n 0, 1) := by decide +kernel
theorem dL_law_919 : decode cL_law 919 = .ok (.iload_n 3, 1) := by decide +kernel
theorem dL_law_920 : decode cL_law 920 = .ok (.iconst 1, 1) := by decide +kernel
theorem dL_law_921 : decode cL_law 921 = .ok (.iadd, 1) := by decide +kernel
theorem dL_law_922 : decode cL_law 922 = .ok (.iaload, 1) := by decide +kernel
theorem dL_law_923 : decode cL_law 923 = .ok (.aload_n 0, 1) := by decide +kernel
theorem dL_law_924 : decode cL_law 924 = .ok (.iload_n 3, 1) := by decide +kernel
theorem dL_law_925 : decode cL_law 925 = .ok (.iconst 2, 1) := by decide +kernel
theorem dL_law_926 : decode cL_law 926 = .ok (.iadd, 1) := by decide +kernel
theorem dL_law_927 : decode cL_law 927 = .ok (.iaload, 1) := by decide +kernel
theorem dL_law_928 : decode cL_law 928 = .ok (.invokevirtual 118, 3) := by decide +kernel
theorem dL_law_931 : decode cL_law 931 = .ok (.aload_n 2, 1) := by decide +kernel
theorem dL_law_932 : decode cL_law 932 = .ok (.aload_n 0, 1) := by decide +kernel
theorem dL_law_933 : decode cL_law 933 = .ok (.iload_n 3, 1) := by decide +kernel
theorem dL_law_934 : decode cL_law 934 = .ok (.iconst 1, 1) := by decide +kernel
theorem dL_law_935 : decode cL_law 935 = .ok (.iadd, 1) := by decide +kernel
theorem dL_law_936 : decode cL_law 936 = .ok (.iaload, 1) := by decide +kernel
theorem dL_law_937 : decode cL_law 937 = .ok (.aload_n 0, 1) := by decide +kernel
theorem dL_law_938 : decode cL_law 938 = .ok (.iload_n 3, 1) := by decide +kernel
theorem dL_law_939 : decode cL_law 939 = .ok (.iconst 2, 1) := by decide +kernel
theorem dL_law_940 : decode cL_law 940 = .ok (.iadd, 1) := by decide +kernel
theorem dL_law_941 : decode cL_law 941 = .ok (.iaload, 1) := by decide +kernel
theorem dL_law_942 : decode cL_law 942 = .ok (.invokevirtual 121, 3) := by decide +kernel
theorem dL_law_945 : decode cL_law 945 = .ok (.if_icmp .eq 133, 3) := by decide +kernel
theorem dL_law_948 : decode cL_law 948 = .ok (.iconst 0, 1) := by decide +kernel
theorem dL_law_949 : decode cL_law 949 = .ok (.ireturn, 1) := by decide +kernel
theorem dL_law_950 : decode cL_law 950 = .ok (.aload_n 1, 1) := by decide +kernel
theorem dL_law_951 : decode cL_law 951 = .ok (.aload_n 0, 1) := by decide +kernel
theorem dL_law_952 : decode cL_law 952 = .ok (.iload_n 3, 1) := by decide +kernel
theorem dL_law_953 : decode cL_law 953 = .ok (.iconst 1, 1) := by decide +kernel
theorem dL_law_954 : decode cL_law 954 = .ok (.iadd, 1) := by decide +kernel
theorem dL_law_955 : decode cL_law 955 = .ok (.iaload, 1) := by decide +kernel
theorem dL_law_956 : decode cL_law 956 = .ok (.aload_n 0, 1) := by decide +kernel
theorem dL_law_957 : decode cL_law 957 = .ok (.iload_n 3, 1) := by decide +kernel
theorem dL_law_958 : decode cL_law 958 = .ok (.iconst 2, 1) := by decide +kernel
theorem dL_law_959 : decode cL_law 959 = .ok (.iadd, 1) := by decide +kernel
theorem dL_law_960 : decode cL_law 960 = .ok (.iaload, 1) := by decide +kernel
theorem dL_law_961 : decode cL_law 961 = .ok (.invokevirtual 122, 3) := by decide +kernel
theorem dL_law_964 : decode cL_law 964 = .ok (.aload_n 2, 1) := by decide +kernel
theorem dL_law_965 : decode cL_law 965 = .ok (.aload_n 0, 1) := by decide +kernel
theorem dL_law_966 : decode cL_law 966 = .ok (.iload_n 3, 1) := by decide +kernel
theorem dL_law_967 : decode cL_law 967 = .ok (.iconst 1, 1) := by decide +kernel
theorem dL_law_968 : decode cL_law 968 = .ok (.iadd, 1) := by decide +kernel
theorem dL_law_969 : decode cL_law 969 = .ok (.iaload, 1) := by decide +kernel
theorem dL_law_970 : decode cL_law 970 = .ok (.aload_n 0, 1) := by decide +kernel
theorem dL_law_971 : decode cL_law 971 = .ok (.iload_n 3, 1) := by decide +kernel
theorem dL_law_972 : decode cL_law 972 = .ok (.iconst 2, 1) := by decide +kernel
theorem dL_law_973 : decode cL_law 973 = .ok (.iadd, 1) := by decide +kernel
theorem dL_law_974 : decode cL_law 974 = .ok (.iaload, 1) := by decide +kernel
theorem dL_law_975 : decode cL_law 975 = .ok (.invokevirtual 125, 3) := by decide +kernel
theorem dL_law_978 : decode cL_law 978 = .ok (.if_icmp .eq 100, 3) := by decide +kernel
theorem dL_law_981 : decode cL_law 981 = .ok (.iconst 0, 1) := by decide +kernel
theorem dL_law_982 : decode cL_law 982 = .ok (.ireturn, 1) := by decide +kernel
theorem dL_law_983 : decode cL_law 983 = .ok (.aload_n 1, 1) := by decide +kernel
theorem dL_law_984 : decode cL_law 984 = .ok (.invokevirtual 126, 3) := by decide +kernel
theorem dL_law_987 : decode cL_law 987 = .ok (.aload_n 2, 1) := by decide +kernel
theorem dL_law_988 : decode cL_law 988 = .ok (.invokevirtual 129, 3) := by decide +kernel
theorem dL_law_991 : decode cL_law 991 = .ok (.if_icmp .eq 87, 3) := by decide +kernel
theorem dL_law_994 : decode cL_law 994 = .ok (.iconst 0, 1) := by decide +kernel
theorem dL_law_995 : decode cL_law 995 = .ok (.ireturn, 1) := by decide +kernel
theorem dL_law_996 : decode cL_law 996 = .ok (.aload_n 1, 1) := by decide +kernel
theorem dL_law_997 : decode cL_law 997 = .ok (.invokevirtual 130, 3) := by decide +kernel
theorem dL_law_1000 : decode cL_law 1000 = .ok (.aload_n 2, 1) := by decide +kernel
theorem dL_law_1001 : decode cL_law 1001 = .ok (.invokevirtual 133, 3) := by decide +kernel
theorem dL_law_1004 : decode cL_law 1004 = .ok (.if_icmp .eq 74, 3) := by decide +kernel
theorem dL_law_1007 : decode cL_law 1007 = .ok (.iconst 0, 1) := by decide +kernel
theorem dL_law_1008 : decode cL_law 1008 = .ok (.ireturn, 1) := by decide +kernel
theorem dL_law_1009 : decode cL_law 1009 = .ok (.aload_n 1, 1) := by decide +kernel
theorem dL_law_1010 : decode cL_law 1010 = .ok (.aload_n 0, 1) := by decide +kernel
theorem dL_law_1011 : decode cL_law 1011 = .ok (.iload_n 3, 1) := by decide +kernel
theorem dL_law_1012 : decode cL_law 1012 = .ok (.iconst 1, 1) := by decide +kernel
theorem dL_law_1013 : decode cL_law 1013 = .ok (.iadd, 1) := by decide +kernel
theorem dL_law_1014 : decode cL_law 1014 = .ok (.iaload, 1) := by decide +kernel
theorem dL_law_1015 : decode cL_law 1015 = .ok (.invokevirtual 134, 3) := by decide +kernel
theorem dL_law_1018 : decode cL_law 1018 = .ok (.aload_n 2, 1) := by decide +kernel
theorem dL_law_1019 : decode cL_law 1019 = .ok (.aload_n 0, 1) := by decide +kernel
theorem dL_law_1020 : decode cL_law 1020 = .ok (.iload_n 3, 1) := by decide +kernel
theorem dL_law_1021 : decode cL_law 1021 = .ok (.iconst 1, 1) := by decide +kernel
theorem dL_law_1022 : decode cL_law 1022 = .ok (.iadd, 1) := by decide +kernel
theorem dL_law_1023 : decode cL_law 1023 = .ok (.iaload, 1) := by decide +kernel
theorem dL_law_1024 : decode cL_law 1024 = .ok (.invokevirtual 137, 3) := by decide +kernel
theorem dL_law_1027 : decode cL_law 1027 = .ok (.if_icmp .eq 51, 3) := by decide +kernel
theorem dL_law_1030 : decode cL_law 1030 = .ok (.iconst 0, 1) := by decide +kernel
theorem dL_law_1031 : decode cL_law 1031 = .ok (.ireturn, 1) := by decide +kernel
theorem dL_law_1032 : decode cL_law 1032 = .ok (.aload_n 1, 1) := by decide +kernel
theorem dL_law_1033 : decode cL_law 1033 = .ok (.aload_n 0, 1) := by decide +kernel
theorem dL_law_1034 : decode cL_law 1034 = .ok (.iload_n 3, 1) := by decide +kernel
theorem dL_law_1035 : decode cL_law 1035 = .ok (.iconst 1, 1) := by decide +kernel
theorem dL_law_1036 : decode cL_law 1036 = .ok (.iadd, 1) := by decide +kernel
theorem dL_law_1037 : decode cL_law 1037 = .ok (.iaload, 1) := by decide +kernel
theorem dL_law_1038 : decode cL_law 1038 = .ok (.invokevirtual 138, 3) := by decide +kernel
theorem dL_law_1041 : decode cL_law 1041 = .ok (.aload_n 2, 1) := by decide +kernel
theorem dL_law_1042 : decode cL_law 1042 = .ok (.aload_n 0, 1) := by decide +kernel
theorem dL_law_1043 : decode cL_law 1043 = .ok (.iload_n 3, 1) := by decide +kernel
theorem dL_law_1044 : decode cL_law 1044 = .ok (.iconst 1, 1) := by decide +kernel
theorem dL_law_1045 : decode cL_law 1045 = .ok (.iadd, 1) := by decide +kernel
theorem dL_law_1046 : decode cL_law 1046 = .ok (.iaload, 1) := by decide +kernel
theorem dL_law_1047 : decode cL_law 1047 = .ok (.invokevirtual 141, 3) := by decide +kernel
theorem dL_law_1050 : decode cL_law 1050 = .ok (.if_icmp .eq 28, 3) := by decide +kernel
theorem dL_law_1053 : decode cL_law 1053 = .ok (.iconst 0, 1) := by decide +kernel
theorem dL_law_1054 : decode cL_law 1054 = .ok (.ireturn, 1) := by decide +kernel
theorem dL_law_1055 : decode cL_law 1055 = .ok (.aload_n 1, 1) := by decide +kernel
theorem dL_law_1056 : decode cL_law 1056 = .ok (.aload_n 0, 1) := by decide +kernel
theorem dL_law_1057 : decode cL_law 1057 = .ok (.iload_n 3, 1) := by decide +kernel
theorem dL_law_1058 : decode cL_law 1058 = .ok (.iconst 1, 1) := by decide +kernel
theorem dL_law_1059 : decode cL_law 1059 = .ok (.iadd, 1) := by decide +kernel
theorem dL_law_1060 : decode cL_law 1060 = .ok (.iaload, 1) := by decide +kernel
theorem dL_law_1061 : decode cL_law 1061 = .ok (.invokevirtual 142, 3) := by decide +kernel
theorem dL_law_1064 : decode cL_law 1064 = .ok (.aload_n 2, 1) := by decide +kernel
theorem dL_law_1065 : decode cL_law 1065 = .ok (.aload_n 0, 1) := by decide +kernel
theorem dL_law_1066 : decode cL_law 1066 = .ok (.iload_n 3, 1) := by decide +kernel
theorem dL_law_1067 : decode cL_law 1067 = .ok (.iconst 1, 1) := by decide +kernel
theorem dL_law_1068 : decode cL_law 1068 = .ok (.iadd, 1) := by decide +kernel
theorem dL_law_1069 : decode cL_law 1069 = .ok (.iaload, 1) := by decide +kernel
theorem dL_law_1070 : decode cL_law 1070 = .ok (.invokevirtual 145, 3) := by decide +kernel
theorem dL_law_1073 : decode cL_law 1073 = .ok (.if_icmp .eq 5, 3) := by decide +kernel
theorem dL_law_1076 : decode cL_law 1076 = .ok (.iconst 0, 1) := by decide +kernel
theorem dL_law_1077 : decode cL_law 1077 = .ok (.ireturn, 1) := by decide +kernel
theorem dL_law_1078 : decode cL_law 1078 = .ok (.iinc 3 4, 3) := by decide +kernel
theorem dL_law_1081 : decode cL_law 1081 = .ok (.goto (-1063), 3) := by decide +kernel
theorem dL_law_1084 : decode cL_law 1084 = .ok (.iconst 1, 1) := by decide +kernel
theorem dL_law_1085 : decode cL_law 1085 = .ok (.ireturn, 1) := by decide +kernel
end
section

abbrev zM : Type := MethodName × ByteArray × Nat × Option FieldType × Room
abbrev zy (M : zM) : MethodName := M.1
abbrev zcc (M : zM) : ByteArray := M.2.1
abbrev znL (M : zM) : Nat := M.2.2.1
abbrev zrt (M : zM) : Option FieldType := M.2.2.2.1
abbrev zrm (M : zM) : Room := M.2.2.2.2
def zT : List Cond := lw_tbl.filter goodWord
def zws (M : zM) : List Cond := Cond.code (zy M) (zcc M) (znL M) (zrt M) :: zT
theorem zT_mem {w : Cond} {i : Nat} (h : tables_1[i]? = some w) (hg : goodWord w = true) : w ∈ zT := List.mem_filter.mpr ⟨List.mem_append_right _ (List.mem_of_getElem? h), hg⟩
theorem zT_memS {w : Cond} {i : Nat} (h : (k2_sels lw_privs)[i]? = some w) (hg : goodWord w = true) : w ∈ zT := List.mem_filter.mpr ⟨List.mem_append_left _ (List.mem_of_getElem? h), hg⟩
theorem zT_good {w : Cond} (h : w ∈ zT) : (w.onTables && w.keeps) = true ∨ ∃ ty, w = .arrayClass ty := good_of_word (List.mem_filter.mp h).2
/-- base; numbers and slots of the types; array types; the constant row; the script: its cell, length, ints -/
abbrev zG : Type := Nat × (Nat → ClassId) × (Nat → Nat → Nat) × (Nat → ClassId) × Nat × Nat × Nat × (Nat → Int32)
abbrev zga (G : zG) : Nat := G.1
abbrev zgD (G : zG) : va_G := (G.2.1, G.2.2.1)
abbrev zgt (G : zG) : Nat → ClassId := G.2.2.2.1
abbrev zgo (G : zG) : Nat := G.2.2.2.2.1
abbrev zgb (G : zG) : Nat := G.2.2.2.2.2.1
abbrev zgL (G : zG) : Nat := G.2.2.2.2.2.2.1
abbrev zgx (G : zG) : Nat → Int32 := G.2.2.2.2.2.2.2
abbrev zcl : List vw_C := [(RX0, TX0, 4), (RX1, TX1, 7), (RX2, TX2, 3), (RX3, TX3, 6), (RX4, TX4, 5), (RX5, TX5, 11), (RX6, TX6, 4), (RX7, TX7, 8), (RX8, TX8, 7), (RX9, TX9, 11), (RX10, TX10, 47)]
abbrev ztys (t : Nat → ClassId) : List (ClassId × FieldType) := [(t 0, .int), (t 1, .boolean), (t 2, .object RX2), (t 3, .object RX3), (t 4, .object RX7)]
abbrev zA (G : zG) : Nat → Prop := fun q => zga G ≤ q
def zord : Nat → Int32 := fun k => [1, 1, 2, 6, 24, 120, 720].getD k 0
abbrev znl : List (String × Nat × MethodName × String) := [("SwingLeaves", 9, ⟨"SwingLeaves$Reader", "<init>", "()V"⟩, "SwingLeaves"), ("SwingLeaves$Reader", 20, ⟨"SwingLeaves$Plan", "<init>", "()V"⟩, "SwingLeaves"), ("SwingLeaves", 25, ⟨"SwingLeaves$Plan", "<init>", "()V"⟩, "SwingLeaves"), ("SwingLeaves$Evening", 31, ⟨"SwingLeaves$Swing", "<init>", "()V"⟩, "SwingLeaves"), ("SwingLeaves$Evening", 32, ⟨"SwingLeaves$Passage", "<init>", "()V"⟩, "SwingLeaves"), ("SwingLeaves$Trials", 11, ⟨"SwingLeaves$Plan", "<init>", "()V"⟩, "SwingLeaves"), ("SwingLeaves$Trials", 20, ⟨"SwingLeaves$Seating", "<init>", "()V"⟩, "SwingLeaves"), ("SwingLeaves", 72, ⟨"SwingLeaves$Image", "<init>", "()V"⟩, "SwingLeaves"), ("SwingLeaves$Image", 9, ⟨"SwingLeaves$Plan", "<init>", "()V"⟩, "SwingLeaves")]
def zNests (U : State) : Prop := ∀ q ∈ znl, va_Nw (.methodLinkNest q.1 q.2.1 q.2.2.1 q.2.2.2) U
def zOvers (U : State) : Prop := va_AO RX2 U ∧ va_AO RX3 U ∧ va_AO RX7 U
def zEnv (G : zG) (U : State) : Prop :=
  va_K (zgD G) zcl (ztys (zgt G)) U ∧ va_Z RX6 "ORDERS" "[I" (.ref (zgo G)) (zA G) U U.heap ∧ va_T .int (zgo G) 7 (fun j => .int (zord j)) (zA G) U U.heap ∧ va_X (zgb G) (zgL G) (zgx G) U U.heap ∧ zgb G < zga G ∧ zNests U ∧ zOvers U
theorem zEnv.at {G : zG} {s U : State} {H : Heap} {locs : List Loc} (h : zEnv G s) (hS : va_S (zA G) s.heap H locs) (hU : U.heap = H) (hW : s.WarmedH U.vm) : zEnv G U := by
  obtain ⟨h1, h2, h3, h4, h5, h6, h7, h8, h9⟩ := h
  have hk : ∀ a : Nat, a < s.heap.size → ¬ zA G a → U.heap[a]? = s.heap[a]? := fun a ha hn => by rw [hU]; exact hS.2.1 a ha hn
  refine ⟨va_K.moved hW.alike h1, (h2.kept hk).moved hW.alike, (h3.kept hk).moved hW.alike, (h4.kept ?_).moved hW.alike, h5, fun q hq => va_Nw.warmM hW (h6 q hq), h7.moved hW.alike, h8.moved hW.alike, h9.moved hW.alike⟩
  obtain ⟨scr, hc, -⟩ := h4
  exact hk _ (Array.getElem?_eq_some_iff.mp hc).1 (Nat.not_le.mpr h5)
theorem zEnv.blind {G : zG} {U : State} (h : zEnv G U) (g : JFrame) (mk : MethodId) (a : Array Value) : zEnv G (U.calling g mk a) := by
  obtain ⟨h1, h2, h3, h4, h5, h6, h7, h8, h9⟩ := h
  have e : U.vm.Alike (U.calling g mk a).vm := Vm.Alike.refl U.vm
  exact ⟨va_K.moved e h1, va_Z.moved (H := U.heap) e h2, va_T.moved (H := U.heap) e h3, va_X.moved (H := U.heap) e h4, h5, fun q hq => va_Nw.same rfl (u := U) rfl (h6 q hq), h7.moved e, h8.moved e, h9.moved e⟩
abbrev zC : Type := (Nat × Nat × ((Nat → Int32) ⊕ (Nat → Option Nat))) ⊕ (Nat × List Value)
def zv (G : zG) : Value → Value
  | .ref k => .ref (zga G + k)
  | .retAddr k => if k = 0 then .ref (zgo G) else .ref (zgb G)
  | .int x => .int x
  | .long x => .long x
  | .null => .null
  | .float x => .float x
  | .double x => .double x
theorem zv_cat (G : zG) (v : Value) : (zv G v).category = v.category := by
  cases v <;> try rfl
  case retAddr k => by_cases h : k = 0 <;> simp [zv, h, Value.category]
def zc (G : zG) : zC → va_E
  | .inl (t, n, .inl f) => .inl (zgt G t, n, .inl f)
  | .inl (t, n, .inr f) => .inl (zgt G t, n, .inr (.inr (.inr (.inr (fun j => (f j).map (fun k => zga G + k))))))
  | .inr (ci, fs) => .inr (ci, fs.map (zv G))
def zwf (G : zG) : Nat → List zC → va_W
  | _, [] => []
  | k, e :: w => (zga G + k, zc G e) :: zwf G (k + 1) w
theorem zw_get (G : zG) : ∀ (w : List zC) (k0 k : Nat), (zwf G k0 w)[k]? = (w[k]?).map (fun e => (zga G + (k0 + k), zc G e))
  | [], _, _ => by simp [zwf]
  | e :: w, k0, 0 => by simp [zwf]
  | e :: w, k0, k + 1 => by
    rw [zwf, List.getElem?_cons_succ, List.getElem?_cons_succ, zw_get G w (k0 + 1) k]
    rw [show k0 + 1 + k = k0 + (k + 1) by omega]
theorem zw_at {G : zG} {w : List zC} {k : Nat} {e : zC} (h : w[k]? = some e) : (zwf G 0 w)[k]? = some (zga G + k, zc G e) := by
  rw [zw_get, h, Option.map_some, Nat.zero_add]
theorem zw_set (G : zG) (e : zC) : ∀ (w : List zC) (k0 k : Nat), zwf G k0 (w.set k e) = (zwf G k0 w).set k (zga G + (k0 + k), zc G e)
  | [], _, _ => rfl
  | x :: w, k0, 0 => rfl
  | x :: w, k0, k + 1 => by
    rw [List.set_cons_succ, zwf, zwf, List.set_cons_succ, zw_set G e w (k0 + 1) k]
    rw [show k0 + 1 + k = k0 + (k + 1) by omega]
theorem zw_put {G : zG} {e : zC} {w : List zC} {k : Nat} : zwf G 0 (w.set k e) = (zwf G 0 w).set k (zga G + k, zc G e) := by
  rw [zw_set, Nat.zero_add]
theorem zw_push (G : zG) (e : zC) : ∀ (w : List zC) (k0 : Nat), zwf G k0 (w ++ [e]) = zwf G k0 w ++ [(zga G + (k0 + w.length), zc G e)]
  | [], k0 => rfl
  | x :: w, k0 => by
    rw [List.cons_append, zwf, zwf, zw_push G e w (k0 + 1), List.cons_append, List.length_cons]
    rw [show k0 + 1 + w.length = k0 + (w.length + 1) by omega]
theorem zw_new {G : zG} {e : zC} {w : List zC} : zwf G 0 (w ++ [e]) = zwf G 0 w ++ [(zga G + w.length, zc G e)] := by
  rw [zw_push, Nat.zero_add]
theorem zw_D (G : zG) (w : List zC) : va_D (zA G) (zwf G 0 w) := by
  refine ⟨fun i j p q hi hj hpq => ?_, fun k q hk => ?_⟩
  · rw [zw_get] at hi hj
    cases h1 : w[i]? with
    | none => rw [h1] at hi; cases hi
    | some a =>
      cases h2 : w[j]? with
      | none => rw [h2] at hj; cases hj
      | some b =>
        rw [h1] at hi; rw [h2] at hj
        cases hi; cases hj
        dsimp only at hpq
        omega
  · rw [zw_get] at hk
    cases h1 : w[k]? with
    | none => rw [h1] at hk; cases hk
    | some a =>
      rw [h1] at hk
      cases hk
      exact Nat.le_add_right _ _
def zH (G : zG) (w : List zC) (H0 H : Heap) (locs : List Loc) : Prop := H.size = zga G + w.length ∧ va_P (zgD G) zcl (zwf G 0 w) H ∧ va_S (zA G) H0 H locs
def zCtx (G : zG) (M : zM) (p : Program) (s : State) (m : MethodId) (args : Array Value) (meth : Method) (c : Code) : Prop :=
  p.tables.exec = Jvm.exec ∧ c.code = zcc M ∧ c.maxLocals = znL M ∧ s.vm.findClass (zy M).cls = some m.cls ∧ (∀ w ∈ zws M, w.before args s = true) ∧ zEnv G s ∧ meth.name = (zy M).name ∧ zga G ≤ s.heap.size
def zRet (l : Launch) (G : zG) (M : zM) (K : Int32 → List zC → Prop) (p : Program) (e : Env) (s : State) (m : MethodId) (args : Array Value) (below : List Frame) (meth : Method) (c : Code) (Q : State → Prop) : Prop :=
  ∀ (H : Heap) (locs : List Loc) (cells slots : Nat) (w : List zC) (pc : Nat) (ls : Array Slot), zH G w s.heap H locs → cells ≤ (zrm M).cells → slots ≤ (zrm M).slots →
    (∀ (v : Int32) (ty : FieldType), K v w → zrt M = some ty → narrow ty (.int v) = .int v → decode (zcc M) pc = .ok (.ireturn, 1) → W p l e (zrm M) s m args below meth c H locs cells slots Q (F0 m pc ls [.int v])) ∧
    (K 0 w → zrt M = none → decode (zcc M) pc = .ok (.return_, 1) → W p l e (zrm M) s m args below meth c H locs cells slots Q (F0 m pc ls []))
def zlv (G : zG) (lv : List (Nat × Value)) : List (Nat × Value) := lv.map (fun q => (q.1, zv G q.2))
def AW (l : Launch) (G : zG) (M : zM) (pc : Nat) (lv : List (Nat × Value)) (st : List Value) (w : List zC) (cs ss : Nat) (K : Int32 → List zC → Prop) : Prop :=
  ∀ (p : Program) (e : Env) (s : State) (m : MethodId) (args : Array Value) (below : List Frame) (meth : Method) (c : Code) (H : Heap) (locs : List Loc) (ls : Array Slot) (Q : State → Prop),
    zCtx G M p s m args meth c → zRet l G M K p e s m args below meth c Q → zH G w s.heap H locs → lv_has ls (znL M) (zlv G lv) →
      W p l e (zrm M) s m args below meth c H locs cs ss Q (F0 m pc ls (st.map (zv G)))
def zl : List (Nat × Value) → Nat → Option Value
  | [], _ => none
  | q :: lv, i => if q.1 = i then some q.2 else zl lv i
theorem zl_mem {i : Nat} {v : Value} : ∀ {lv : List (Nat × Value)}, zl lv i = some v → (i, v) ∈ lv
  | [], h => by cases h
  | q :: lv, h => by
    unfold zl at h
    split at h
    next he => cases h; subst he; exact List.mem_cons_self
    next he => exact List.mem_cons_of_mem _ (zl_mem h)
theorem zl_at {G : zG} {lv : List (Nat × Value)} {ls : Array Slot} {n i : Nat} {v : Value} (h : lv_has ls n (zlv G lv)) (hv : zl lv i = some v) : ls[i]? = some (.val (zv G v)) :=
  h.2.2 (i, zv G v) (List.mem_map.mpr ⟨(i, v), zl_mem hv, rfl⟩)
def zs1 (lv : List (Nat × Value)) (i : Nat) (v : Value) : List (Nat × Value) := (i, v) :: lv.filter (fun q => !(q.1 == i) && !(q.1 + 1 == i && q.2.category == 2))
def zs2 (lv : List (Nat × Value)) (i : Nat) (v : Value) : List (Nat × Value) := (i, v) :: lv.filter (fun q => !(q.1 == i) && (!(q.1 == i + 1) && !(q.1 + 1 == i && q.2.category == 2)))
theorem zlv_s1 (G : zG) (lv : List (Nat × Value)) (i : Nat) (v : Value) : (i, zv G v) :: (zlv G lv).filter (fun q => !(q.1 == i) && !(q.1 + 1 == i && q.2.category == 2)) = zlv G (zs1 lv i v) := by
  unfold zlv zs1
  rw [List.map_cons, List.filter_map]
  congr 2
  apply List.filter_congr
  intro q _
  simp [Function.comp, zv_cat]
theorem zlv_s2 (G : zG) (lv : List (Nat × Value)) (i : Nat) (v : Value) : (i, zv G v) :: (zlv G lv).filter (fun q => !(q.1 == i) && (!(q.1 == i + 1) && !(q.1 + 1 == i && q.2.category == 2))) = zlv G (zs2 lv i v) := by
  unfold zlv zs2
  rw [List.map_cons, List.filter_map]
  congr 2
  apply List.filter_congr
  intro q _
  simp [Function.comp, zv_cat]
theorem zlv_args (G : zG) : ∀ (vs : List Value) (i : Nat), lv_args i (vs.map (zv G)) = zlv G (lv_args i vs)
  | [], _ => rfl
  | v :: vs, i => by
    rw [List.map_cons, lv_args, lv_args, zv_cat, zlv_args G vs]
    rfl
theorem lg_sl_zv (G : zG) : ∀ (vs : List Value), (lg_sl (vs.map (zv G))).length = (lg_sl vs).length
  | [] => rfl
  | v :: vs => by
    have ih := lg_sl_zv G vs
    unfold lg_sl at ih ⊢
    rw [List.map_cons, List.flatMap_cons, List.flatMap_cons, List.length_append, List.length_append, ih, zv_cat]
    by_cases h : v.category = 2 <;> simp [h]
theorem zcat_sum (G : zG) : ∀ (st : List Value), ((st.map (zv G)).map fun v => v.category).sum = (st.map fun v => v.category).sum
  | [] => rfl
  | v :: st => by
    have ih := zcat_sum G st
    simp only [List.map_cons, List.sum_cons, zv_cat, ih]
def zB (G : zG) (w : List zC) (t : State) : Prop := t.heap.size = zga G + w.length ∧ va_P (zgD G) zcl (zwf G 0 w) t.heap
def zPre (G : zG) (w : List zC) (U : State) : Prop := zEnv G U ∧ zB G w U
def zQ (G : zG) (rt : Option FieldType) (K : Int32 → List zC → Prop) : Array Value → State → Outcome → State → Prop := match rt with
  | none => va_Qv (K 0) (zB G) (zA G)
  | some _ => va_Qi K (zB G) (zA G)
/-- a method called with these values over these cells comes back with K of its answer and the cells -/
def Con (l : Launch) (G : zG) (M : zM) (As : List Value) (w : List zC) (K : Int32 → List zC → Prop) : Prop :=
  Met l (zy M) (zws M) (zrm M) (va_Pc (As.map (zv G)) (zPre G w)) (zQ G (zrt M) K) (zrm M).cells (zrm M).slots (zA G)
theorem zPre.blind {G : zG} {w : List zC} {As : List Value} : FrameBlind (va_Pc As (zPre G w)) := fun a U g mk h => ⟨h.1, h.2.1.blind g mk a, h.2.2⟩
theorem Con.of {l : Launch} {G : zG} {M : zM} {As : List Value} {w : List zC} {K : Int32 → List zC → Prop} (hy : plainName (zy M).cls = true) (hn : (lg_sl As).length ≤ znL M)
    (k : AW l G M 0 (lv_args 0 As) [] w 0 0 K) : Con l G M As w K := by
  refine Met.ofW (cc := zcc M) (maxL := znL M) (ret := zrt M) hy rfl ?_
  intro p e s m args below meth c s₁ B hml hv
  obtain ⟨rfl, hE, hsz, hP⟩ := hv
  have hlocks := B.notSynchronized
  have hret := B.returns
  have hl := lv_entry (As.map (zv G)) (n := znL M) (by rw [lg_sl_zv]; exact hn)
  rw [lg_entry_eq]
  rw [zlv_args] at hl
  refine k p e s m _ below meth c s.heap [] _ _ ⟨B.exec, B.bytes, hml, findClass_of_methodNamed B.named, atoms_spec (ws := zws M) B.pre, hE, (name_of_methodNamed B.named B.method).1, by rw [hsz]; exact Nat.le_add_right _ _⟩ ?_ ⟨hsz, hP, va_S.rf⟩ hl
  intro H locs cells slots w' pc ls hH hc hs
  refine ⟨fun v ty hK hty hn hd => ?_, fun hK hty hd => ?_⟩
  · refine W.widen hc hs ?_
    refine W.zret B.exec B.bytes (hret.trans hty) hn (fun t ht hW => ?_) hH.2.2.2.2 hd
    rw [hty]
    exact ⟨⟨v, w', rfl, hK, by rw [ht]; exact hH.1, by rw [ht]; exact hH.2.1⟩, hH.2.2.F ht⟩
  · refine W.widen hc hs ?_
    refine W.vret B.exec B.bytes (hret.trans hty) (fun t ht hW => ?_) hH.2.2.2.2 hd
    rw [hty]
    exact ⟨⟨w', rfl, hK, by rw [ht]; exact hH.1, by rw [ht]; exact hH.2.1⟩, hH.2.2.F ht⟩
section ZR
variable {l : Launch} {G : zG} {M : zM} {pc : Nat} {lv : List (Nat × Value)} {st : List Value} {w : List zC} {cs ss : Nat} {K : Int32 → List zC → Prop}
theorem z_iconst {n : Int} {v : Int32} (hd : decode (zcc M) pc = .ok (.iconst n, 1)) (hv : Int32.ofInt n = v) (kk : AW l G M (pc + 1) lv (.int v :: st) w cs ss K) : AW l G M pc lv st w cs ss K := by
  intro p e s m args below meth c H locs ls Q C R hH hl
  exact lv_iconst C.1 C.2.1 hd hv (kk p e s m args below meth c H locs ls Q C R hH hl)
theorem z_bipush {n : Int} {v : Int32} (hd : decode (zcc M) pc = .ok (.bipush n, 2)) (hv : (Int8.ofInt n).toInt32 = v) (kk : AW l G M (pc + 2) lv (.int v :: st) w cs ss K) : AW l G M pc lv st w cs ss K := by
  intro p e s m args below meth c H locs ls Q C R hH hl
  exact lv_bipush C.1 C.2.1 hd hv (kk p e s m args below meth c H locs ls Q C R hH hl)
theorem z_sipush {n : Int} {v : Int32} (hd : decode (zcc M) pc = .ok (.sipush n, 3)) (hv : (Int16.ofInt n).toInt32 = v) (kk : AW l G M (pc + 3) lv (.int v :: st) w cs ss K) : AW l G M pc lv st w cs ss K := by
  intro p e s m args below meth c H locs ls Q C R hH hl
  exact lv_sipush C.1 C.2.1 hd hv (kk p e s m args below meth c H locs ls Q C R hH hl)
theorem z_lconst {n : Fin 2} {v : Int64} (hd : decode (zcc M) pc = .ok (.lconst n, 1)) (hv : Int64.ofNat (n : Nat) = v) (kk : AW l G M (pc + 1) lv (.long v :: st) w cs ss K) : AW l G M pc lv st w cs ss K := by
  intro p e s m args below meth c H locs ls Q C R hH hl
  exact lv_lconst C.1 C.2.1 hd hv (kk p e s m args below meth c H locs ls Q C R hH hl)
theorem z_ldc {i : Nat} {v : Int32} (hd : decode (zcc M) pc = .ok (.ldc i, 2)) (hc : Cond.constant (zy M).cls i v ∈ zT) (kk : AW l G M (pc + 2) lv (.int v :: st) w cs ss K) : AW l G M pc lv st w cs ss K := by
  intro p e s m args below meth c H locs ls Q C R hH hl
  exact lv_ldc C.1 C.2.1 C.2.2.2.1 (C.2.2.2.2.1 _ (List.mem_cons_of_mem _ hc)) hd (kk p e s m args below meth c H locs ls Q C R hH hl)
theorem z_ldc2 {i : Nat} {v : Int64} (hd : decode (zcc M) pc = .ok (.ldc2_w i, 3)) (hc : Cond.constantLong (zy M).cls i v ∈ zT) (kk : AW l G M (pc + 3) lv (.long v :: st) w cs ss K) : AW l G M pc lv st w cs ss K := by
  intro p e s m args below meth c H locs ls Q C R hH hl
  exact lv_ldc2 C.1 C.2.1 C.2.2.2.1 (C.2.2.2.2.1 _ (List.mem_cons_of_mem _ hc)) hd (kk p e s m args below meth c H locs ls Q C R hH hl)
theorem z_iload_n {k : Fin 4} {x : Int32} (hd : decode (zcc M) pc = .ok (.iload_n k, 1)) (hv : zl lv k = some (.int x)) (kk : AW l G M (pc + 1) lv (.int x :: st) w cs ss K) : AW l G M pc lv st w cs ss K := by
  intro p e s m args below meth c H locs ls Q C R hH hl
  exact lv_iload_n C.1 C.2.1 hd rfl (zl_at hl hv) (kk p e s m args below meth c H locs ls Q C R hH hl)
theorem z_iload {i : Nat} {x : Int32} (hd : decode (zcc M) pc = .ok (.iload i, 2)) (hv : zl lv i = some (.int x)) (kk : AW l G M (pc + 2) lv (.int x :: st) w cs ss K) : AW l G M pc lv st w cs ss K := by
  intro p e s m args below meth c H locs ls Q C R hH hl
  exact lv_iload C.1 C.2.1 hd (zl_at hl hv) (kk p e s m args below meth c H locs ls Q C R hH hl)
theorem z_lload_n {k : Fin 4} {x : Int64} (hd : decode (zcc M) pc = .ok (.lload_n k, 1)) (hv : zl lv k = some (.long x)) (kk : AW l G M (pc + 1) lv (.long x :: st) w cs ss K) : AW l G M pc lv st w cs ss K := by
  intro p e s m args below meth c H locs ls Q C R hH hl
  exact lv_lload_n C.1 C.2.1 hd rfl (zl_at hl hv) (kk p e s m args below meth c H locs ls Q C R hH hl)
theorem z_lload {i : Nat} {x : Int64} (hd : decode (zcc M) pc = .ok (.lload i, 2)) (hv : zl lv i = some (.long x)) (kk : AW l G M (pc + 2) lv (.long x :: st) w cs ss K) : AW l G M pc lv st w cs ss K := by
  intro p e s m args below meth c H locs ls Q C R hH hl
  exact lv_lload C.1 C.2.1 hd (zl_at hl hv) (kk p e s m args below meth c H locs ls Q C R hH hl)
theorem z_aload_n {k : Fin 4} {x : Nat} (hd : decode (zcc M) pc = .ok (.aload_n k, 1)) (hv : zl lv k = some (.ref x)) (kk : AW l G M (pc + 1) lv (.ref x :: st) w cs ss K) : AW l G M pc lv st w cs ss K := by
  intro p e s m args below meth c H locs ls Q C R hH hl
  exact lv_aload_n C.1 C.2.1 hd rfl (zl_at hl hv) (kk p e s m args below meth c H locs ls Q C R hH hl)
theorem z_aload {i : Nat} {x : Nat} (hd : decode (zcc M) pc = .ok (.aload i, 2)) (hv : zl lv i = some (.ref x)) (kk : AW l G M (pc + 2) lv (.ref x :: st) w cs ss K) : AW l G M pc lv st w cs ss K := by
  intro p e s m args below meth c H locs ls Q C R hH hl
  exact lv_aload C.1 C.2.1 hd (zl_at hl hv) (kk p e s m args below meth c H locs ls Q C R hH hl)
theorem z_aloadX {k : Fin 4} (hd : decode (zcc M) pc = .ok (.aload_n k, 1)) (hv : zl lv k = some (.retAddr 1)) (kk : AW l G M (pc + 1) lv (.retAddr 1 :: st) w cs ss K) : AW l G M pc lv st w cs ss K := by
  intro p e s m args below meth c H locs ls Q C R hH hl
  exact lv_aload_n (x := zgb G) C.1 C.2.1 hd rfl (zl_at hl hv) (kk p e s m args below meth c H locs ls Q C R hH hl)
theorem z_istore_n {k : Fin 4} {i : Nat} {x : Int32} (lv' : Int32 → List (Nat × Value)) (hd : decode (zcc M) pc = .ok (.istore_n k, 1)) (hk : (k : Nat) = i) (hi : Nat.blt i (znL M) = true) (hs : ∀ y : Int32, zs1 lv i (.int y) = lv' y) (kk : ∀ y : Int32, y = x → AW l G M (pc + 1) (lv' y) st w cs ss K) : AW l G M pc lv (.int x :: st) w cs ss K := by
  intro p e s m args below meth c H locs ls Q C R hH hl
  have hs := hs x
  have kk := kk x rfl
  rw [← hs] at kk
  exact lv_istore_n C.1 C.2.1 hd hk hl (Nat.blt_eq.mp hi) (zlv_s1 G lv i (.int x)) (fun ls9 h9 => kk p e s m args below meth c H locs ls9 Q C R hH h9)
theorem z_istore {i : Nat} {x : Int32} (lv' : Int32 → List (Nat × Value)) (hd : decode (zcc M) pc = .ok (.istore i, 2)) (hi : Nat.blt i (znL M) = true) (hs : ∀ y : Int32, zs1 lv i (.int y) = lv' y) (kk : ∀ y : Int32, y = x → AW l G M (pc + 2) (lv' y) st w cs ss K) : AW l G M pc lv (.int x :: st) w cs ss K := by
  intro p e s m args below meth c H locs ls Q C R hH hl
  have hs := hs x
  have kk := kk x rfl
  rw [← hs] at kk
  exact lv_istore C.1 C.2.1 hd hl (Nat.blt_eq.mp hi) (zlv_s1 G lv i (.int x)) (fun ls9 h9 => kk p e s m args below meth c H locs ls9 Q C R hH h9)
theorem z_lstore_n {k : Fin 4} {i : Nat} {x : Int64} (lv' : Int64 → List (Nat × Value)) (hd : decode (zcc M) pc = .ok (.lstore_n k, 1)) (hk : (k : Nat) = i) (hi : Nat.blt (i + 1) (znL M) = true) (hs : ∀ y : Int64, zs2 lv i (.long y) = lv' y) (kk : ∀ y : Int64, y = x → AW l G M (pc + 1) (lv' y) st w cs ss K) : AW l G M pc lv (.long x :: st) w cs ss K := by
  intro p e s m args below meth c H locs ls Q C R hH hl
  have hs := hs x
  have kk := kk x rfl
  rw [← hs] at kk
  exact lv_lstore_n C.1 C.2.1 hd hk hl (Nat.blt_eq.mp hi) (zlv_s2 G lv i (.long x)) (fun ls9 h9 => kk p e s m args below meth c H locs ls9 Q C R hH h9)
theorem z_lstore {i : Nat} {x : Int64} (lv' : Int64 → List (Nat × Value)) (hd : decode (zcc M) pc = .ok (.lstore i, 2)) (hi : Nat.blt (i + 1) (znL M) = true) (hs : ∀ y : Int64, zs2 lv i (.long y) = lv' y) (kk : ∀ y : Int64, y = x → AW l G M (pc + 2) (lv' y) st w cs ss K) : AW l G M pc lv (.long x :: st) w cs ss K := by
  intro p e s m args below meth c H locs ls Q C R hH hl
  have hs := hs x
  have kk := kk x rfl
  rw [← hs] at kk
  exact lv_lstore C.1 C.2.1 hd hl (Nat.blt_eq.mp hi) (zlv_s2 G lv i (.long x)) (fun ls9 h9 => kk p e s m args below meth c H locs ls9 Q C R hH h9)
theorem z_astore_n {k : Fin 4} {i x : Nat} {lv' : List (Nat × Value)} (hd : decode (zcc M) pc = .ok (.astore_n k, 1)) (hk : (k : Nat) = i) (hi : Nat.blt i (znL M) = true) (hs : zs1 lv i (.ref x) = lv') (kk : AW l G M (pc + 1) lv' st w cs ss K) : AW l G M pc lv (.ref x :: st) w cs ss K := by
  intro p e s m args below meth c H locs ls Q C R hH hl
  subst hs
  exact lv_astore_n C.1 C.2.1 hd hk hl (Nat.blt_eq.mp hi) (zlv_s1 G lv i (.ref x)) (fun ls9 h9 => kk p e s m args below meth c H locs ls9 Q C R hH h9)
theorem z_astore {i x : Nat} {lv' : List (Nat × Value)} (hd : decode (zcc M) pc = .ok (.astore i, 2)) (hi : Nat.blt i (znL M) = true) (hs : zs1 lv i (.ref x) = lv') (kk : AW l G M (pc + 2) lv' st w cs ss K) : AW l G M pc lv (.ref x :: st) w cs ss K := by
  intro p e s m args below meth c H locs ls Q C R hH hl
  subst hs
  exact lv_astore C.1 C.2.1 hd hl (Nat.blt_eq.mp hi) (zlv_s1 G lv i (.ref x)) (fun ls9 h9 => kk p e s m args below meth c H locs ls9 Q C R hH h9)
theorem z_iinc {i : Nat} {n : Int} {x : Int32} (lv' : Int32 → List (Nat × Value)) (hd : decode (zcc M) pc = .ok (.iinc i n, 3)) (hv : zl lv i = some (.int x)) (hi : Nat.blt i (znL M) = true) (hs : ∀ y : Int32, zs1 lv i (.int y) = lv' y) (kk : ∀ y : Int32, y = x + Int32.ofInt n → AW l G M (pc + 3) (lv' y) st w cs ss K) : AW l G M pc lv st w cs ss K := by
  intro p e s m args below meth c H locs ls Q C R hH hl
  have hs := hs (x + Int32.ofInt n)
  have kk := kk _ rfl
  rw [← hs] at kk
  obtain ⟨j, hj⟩ := List.getElem?_of_mem (List.mem_map.mpr ⟨(i, Value.int x), zl_mem hv, rfl⟩ : (i, zv G (Value.int x)) ∈ zlv G lv)
  exact lv_iinc (k := j) C.1 C.2.1 hd hl hj rfl (Nat.blt_eq.mp hi) (zlv_s1 G lv i (.int (x + Int32.ofInt n))) (fun ls9 h9 => kk p e s m args below meth c H locs ls9 Q C R hH h9)
theorem z_iadd {x y : Int32} (hd : decode (zcc M) pc = .ok (.iadd, 1)) (kk : AW l G M (pc + 1) lv (.int (x + y) :: st) w cs ss K) : AW l G M pc lv (.int y :: .int x :: st) w cs ss K := by
  intro p e s m args below meth c H locs ls Q C R hH hl
  exact lv_iadd C.1 C.2.1 hd (kk p e s m args below meth c H locs ls Q C R hH hl)
theorem z_isub {x y : Int32} (hd : decode (zcc M) pc = .ok (.isub, 1)) (kk : AW l G M (pc + 1) lv (.int (x - y) :: st) w cs ss K) : AW l G M pc lv (.int y :: .int x :: st) w cs ss K := by
  intro p e s m args below meth c H locs ls Q C R hH hl
  exact lv_isub C.1 C.2.1 hd (kk p e s m args below meth c H locs ls Q C R hH hl)
theorem z_imul {x y : Int32} (hd : decode (zcc M) pc = .ok (.imul, 1)) (kk : AW l G M (pc + 1) lv (.int (x * y) :: st) w cs ss K) : AW l G M pc lv (.int y :: .int x :: st) w cs ss K := by
  intro p e s m args below meth c H locs ls Q C R hH hl
  exact lv_imul C.1 C.2.1 hd (kk p e s m args below meth c H locs ls Q C R hH hl)
theorem z_iand {x y : Int32} (hd : decode (zcc M) pc = .ok (.iand, 1)) (kk : AW l G M (pc + 1) lv (.int (x &&& y) :: st) w cs ss K) : AW l G M pc lv (.int y :: .int x :: st) w cs ss K := by
  intro p e s m args below meth c H locs ls Q C R hH hl
  exact lv_iand C.1 C.2.1 hd (kk p e s m args below meth c H locs ls Q C R hH hl)
theorem z_ior {x y : Int32} (hd : decode (zcc M) pc = .ok (.ior, 1)) (kk : AW l G M (pc + 1) lv (.int (x ||| y) :: st) w cs ss K) : AW l G M pc lv (.int y :: .int x :: st) w cs ss K := by
  intro p e s m args below meth c H locs ls Q C R hH hl
  exact lv_ior C.1 C.2.1 hd (kk p e s m args below meth c H locs ls Q C R hH hl)
theorem z_ishl {x y : Int32} (hd : decode (zcc M) pc = .ok (.ishl, 1)) (kk : AW l G M (pc + 1) lv (.int (x <<< (y &&& 31)) :: st) w cs ss K) : AW l G M pc lv (.int y :: .int x :: st) w cs ss K := by
  intro p e s m args below meth c H locs ls Q C R hH hl
  exact lv_ishl C.1 C.2.1 hd (kk p e s m args below meth c H locs ls Q C R hH hl)
theorem z_ishr {x y : Int32} (hd : decode (zcc M) pc = .ok (.ishr, 1)) (kk : AW l G M (pc + 1) lv (.int (x >>> (y &&& 31)) :: st) w cs ss K) : AW l G M pc lv (.int y :: .int x :: st) w cs ss K := by
  intro p e s m args below meth c H locs ls Q C R hH hl
  exact lv_ishr C.1 C.2.1 hd (kk p e s m args below meth c H locs ls Q C R hH hl)
theorem z_idiv {x y : Int32} (hd : decode (zcc M) pc = .ok (.idiv, 1)) (hne : ¬ y = 0) (kk : AW l G M (pc + 1) lv (.int (x / y) :: st) w cs ss K) : AW l G M pc lv (.int y :: .int x :: st) w cs ss K := by
  intro p e s m args below meth c H locs ls Q C R hH hl
  exact lv_idiv C.1 C.2.1 hd hne (kk p e s m args below meth c H locs ls Q C R hH hl)
theorem z_irem {x y : Int32} (hd : decode (zcc M) pc = .ok (.irem, 1)) (hne : ¬ y = 0) (kk : AW l G M (pc + 1) lv (.int (x - x / y * y) :: st) w cs ss K) : AW l G M pc lv (.int y :: .int x :: st) w cs ss K := by
  intro p e s m args below meth c H locs ls Q C R hH hl
  exact lv_irem C.1 C.2.1 hd hne (kk p e s m args below meth c H locs ls Q C R hH hl)
theorem z_ladd {x y : Int64} (hd : decode (zcc M) pc = .ok (.ladd, 1)) (kk : AW l G M (pc + 1) lv (.long (x + y) :: st) w cs ss K) : AW l G M pc lv (.long y :: .long x :: st) w cs ss K := by
  intro p e s m args below meth c H locs ls Q C R hH hl
  exact lv_ladd C.1 C.2.1 hd (kk p e s m args below meth c H locs ls Q C R hH hl)
theorem z_lmul {x y : Int64} (hd : decode (zcc M) pc = .ok (.lmul, 1)) (kk : AW l G M (pc + 1) lv (.long (x * y) :: st) w cs ss K) : AW l G M pc lv (.long y :: .long x :: st) w cs ss K := by
  intro p e s m args below meth c H locs ls Q C R hH hl
  exact lv_lmul C.1 C.2.1 hd (kk p e s m args below meth c H locs ls Q C R hH hl)
theorem z_ldiv {x y : Int64} (hd : decode (zcc M) pc = .ok (.ldiv, 1)) (hne : ¬ y = 0) (kk : AW l G M (pc + 1) lv (.long (x / y) :: st) w cs ss K) : AW l G M pc lv (.long y :: .long x :: st) w cs ss K := by
  intro p e s m args below meth c H locs ls Q C R hH hl
  exact lv_ldiv C.1 C.2.1 hd hne (kk p e s m args below meth c H locs ls Q C R hH hl)
theorem z_lrem {x y : Int64} (hd : decode (zcc M) pc = .ok (.lrem, 1)) (hne : ¬ y = 0) (kk : AW l G M (pc + 1) lv (.long (x - x / y * y) :: st) w cs ss K) : AW l G M pc lv (.long y :: .long x :: st) w cs ss K := by
  intro p e s m args below meth c H locs ls Q C R hH hl
  exact lv_lrem C.1 C.2.1 hd hne (kk p e s m args below meth c H locs ls Q C R hH hl)
theorem z_lcmp {x y : Int64} (hd : decode (zcc M) pc = .ok (.lcmp, 1)) (kk : AW l G M (pc + 1) lv (.int (lg_cmp x y) :: st) w cs ss K) : AW l G M pc lv (.long y :: .long x :: st) w cs ss K := by
  intro p e s m args below meth c H locs ls Q C R hH hl
  exact W.lcmp C.1 C.2.1 hd (kk p e s m args below meth c H locs ls Q C R hH hl)
theorem z_i2l {x : Int32} (hd : decode (zcc M) pc = .ok (.i2l, 1)) (kk : AW l G M (pc + 1) lv (.long x.toInt64 :: st) w cs ss K) : AW l G M pc lv (.int x :: st) w cs ss K := by
  intro p e s m args below meth c H locs ls Q C R hH hl
  exact lv_i2l C.1 C.2.1 hd rfl (kk p e s m args below meth c H locs ls Q C R hH hl)
theorem z_l2i {x : Int64} (hd : decode (zcc M) pc = .ok (.l2i, 1)) (kk : AW l G M (pc + 1) lv (.int x.toInt32 :: st) w cs ss K) : AW l G M pc lv (.long x :: st) w cs ss K := by
  intro p e s m args below meth c H locs ls Q C R hH hl
  exact lv_l2i C.1 C.2.1 hd rfl (kk p e s m args below meth c H locs ls Q C R hH hl)
theorem z_dup {v : Value} (hd : decode (zcc M) pc = .ok (.dup, 1)) (hv : v.category = 1) (kk : AW l G M (pc + 1) lv (v :: v :: st) w cs ss K) : AW l G M pc lv (v :: st) w cs ss K := by
  intro p e s m args below meth c H locs ls Q C R hH hl
  exact lv_dup C.1 C.2.1 hd (by rw [zv_cat]; exact hv) (kk p e s m args below meth c H locs ls Q C R hH hl)
theorem z_pop {v : Value} (hd : decode (zcc M) pc = .ok (.pop, 1)) (hv : v.category = 1) (kk : AW l G M (pc + 1) lv st w cs ss K) : AW l G M pc lv (v :: st) w cs ss K := by
  intro p e s m args below meth c H locs ls Q C R hH hl
  exact lv_pop C.1 C.2.1 hd (by rw [zv_cat]; exact hv) (kk p e s m args below meth c H locs ls Q C R hH hl)
theorem z_dup2 {v u : Value} (hd : decode (zcc M) pc = .ok (.dup2, 1)) (hv : v.category = 1) (hu : u.category = 1) (kk : AW l G M (pc + 1) lv (v :: u :: v :: u :: st) w cs ss K) : AW l G M pc lv (v :: u :: st) w cs ss K := by
  intro p e s m args below meth c H locs ls Q C R hH hl
  exact lv_dup2_11 C.1 C.2.1 hd (by rw [zv_cat]; exact hv) (by rw [zv_cat]; exact hu) (kk p e s m args below meth c H locs ls Q C R hH hl)
theorem z_goto {off : Int} (tgt : Nat) (hd : decode (zcc M) pc = .ok (.goto off, 3)) (ht : (pc : Int) + off = (tgt : Int)) (kk : AW l G M tgt lv st w cs ss K) : AW l G M pc lv st w cs ss K := by
  intro p e s m args below meth c H locs ls Q C R hH hl
  exact lv_goto C.1 C.2.1 hd ht (kk p e s m args below meth c H locs ls Q C R hH hl)
theorem z_if_eq {off : Int} (tgt : Nat) {x : Int32} (hd : decode (zcc M) pc = .ok (.ifCond .eq off, 3)) (ht : (pc : Int) + off = (tgt : Int)) (kt : x = 0 → AW l G M tgt lv st w cs ss K) (kf : ¬ x = 0 → AW l G M (pc + 3) lv st w cs ss K) : AW l G M pc lv (.int x :: st) w cs ss K := by
  intro p e s m args below meth c H locs ls Q C R hH hl
  exact lv_if_eq C.1 C.2.1 hd ht (fun h => kt h p e s m args below meth c H locs ls Q C R hH hl) (fun h => kf h p e s m args below meth c H locs ls Q C R hH hl)
theorem z_if_ne {off : Int} (tgt : Nat) {x : Int32} (hd : decode (zcc M) pc = .ok (.ifCond .ne off, 3)) (ht : (pc : Int) + off = (tgt : Int)) (kt : ¬ x = 0 → AW l G M tgt lv st w cs ss K) (kf : x = 0 → AW l G M (pc + 3) lv st w cs ss K) : AW l G M pc lv (.int x :: st) w cs ss K := by
  intro p e s m args below meth c H locs ls Q C R hH hl
  exact lv_if_ne C.1 C.2.1 hd ht (fun h => kt h p e s m args below meth c H locs ls Q C R hH hl) (fun h => kf h p e s m args below meth c H locs ls Q C R hH hl)
theorem z_if_lt {off : Int} (tgt : Nat) {x : Int32} (hd : decode (zcc M) pc = .ok (.ifCond .lt off, 3)) (ht : (pc : Int) + off = (tgt : Int)) (kt : x < 0 → AW l G M tgt lv st w cs ss K) (kf : ¬ x < 0 → AW l G M (pc + 3) lv st w cs ss K) : AW l G M pc lv (.int x :: st) w cs ss K := by
  intro p e s m args below meth c H locs ls Q C R hH hl
  exact lv_if_lt C.1 C.2.1 hd ht (fun h => kt h p e s m args below meth c H locs ls Q C R hH hl) (fun h => kf h p e s m args below meth c H locs ls Q C R hH hl)
theorem z_if_ge {off : Int} (tgt : Nat) {x : Int32} (hd : decode (zcc M) pc = .ok (.ifCond .ge off, 3)) (ht : (pc : Int) + off = (tgt : Int)) (kt : 0 ≤ x → AW l G M tgt lv st w cs ss K) (kf : ¬ 0 ≤ x → AW l G M (pc + 3) lv st w cs ss K) : AW l G M pc lv (.int x :: st) w cs ss K := by
  intro p e s m args below meth c H locs ls Q C R hH hl
  exact lv_if_ge C.1 C.2.1 hd ht (fun h => kt h p e s m args below meth c H locs ls Q C R hH hl) (fun h => kf h p e s m args below meth c H locs ls Q C R hH hl)
theorem z_if_gt {off : Int} (tgt : Nat) {x : Int32} (hd : decode (zcc M) pc = .ok (.ifCond .gt off, 3)) (ht : (pc : Int) + off = (tgt : Int)) (kt : 0 < x → AW l G M tgt lv st w cs ss K) (kf : ¬ 0 < x → AW l G M (pc + 3) lv st w cs ss K) : AW l G M pc lv (.int x :: st) w cs ss K := by
  intro p e s m args below meth c H locs ls Q C R hH hl
  exact lv_if_gt C.1 C.2.1 hd ht (fun h => kt h p e s m args below meth c H locs ls Q C R hH hl) (fun h => kf h p e s m args below meth c H locs ls Q C R hH hl)
theorem z_if_le {off : Int} (tgt : Nat) {x : Int32} (hd : decode (zcc M) pc = .ok (.ifCond .le off, 3)) (ht : (pc : Int) + off = (tgt : Int)) (kt : x ≤ 0 → AW l G M tgt lv st w cs ss K) (kf : ¬ x ≤ 0 → AW l G M (pc + 3) lv st w cs ss K) : AW l G M pc lv (.int x :: st) w cs ss K := by
  intro p e s m args below meth c H locs ls Q C R hH hl
  exact lv_if_le C.1 C.2.1 hd ht (fun h => kt h p e s m args below meth c H locs ls Q C R hH hl) (fun h => kf h p e s m args below meth c H locs ls Q C R hH hl)
theorem z_icmp_eq {off : Int} (tgt : Nat) {x y : Int32} (hd : decode (zcc M) pc = .ok (.if_icmp .eq off, 3)) (ht : (pc : Int) + off = (tgt : Int)) (kt : x = y → AW l G M tgt lv st w cs ss K) (kf : ¬ x = y → AW l G M (pc + 3) lv st w cs ss K) : AW l G M pc lv (.int y :: .int x :: st) w cs ss K := by
  intro p e s m args below meth c H locs ls Q C R hH hl
  exact lv_icmp_eq C.1 C.2.1 hd ht (fun h => kt h p e s m args below meth c H locs ls Q C R hH hl) (fun h => kf h p e s m args below meth c H locs ls Q C R hH hl)
theorem z_icmp_ne {off : Int} (tgt : Nat) {x y : Int32} (hd : decode (zcc M) pc = .ok (.if_icmp .ne off, 3)) (ht : (pc : Int) + off = (tgt : Int)) (kt : ¬ x = y → AW l G M tgt lv st w cs ss K) (kf : x = y → AW l G M (pc + 3) lv st w cs ss K) : AW l G M pc lv (.int y :: .int x :: st) w cs ss K := by
  intro p e s m args below meth c H locs ls Q C R hH hl
  exact lv_icmp_ne C.1 C.2.1 hd ht (fun h => kt h p e s m args below meth c H locs ls Q C R hH hl) (fun h => kf h p e s m args below meth c H locs ls Q C R hH hl)
theorem z_icmp_lt {off : Int} (tgt : Nat) {x y : Int32} (hd : decode (zcc M) pc = .ok (.if_icmp .lt off, 3)) (ht : (pc : Int) + off = (tgt : Int)) (kt : x < y → AW l G M tgt lv st w cs ss K) (kf : ¬ x < y → AW l G M (pc + 3) lv st w cs ss K) : AW l G M pc lv (.int y :: .int x :: st) w cs ss K := by
  intro p e s m args below meth c H locs ls Q C R hH hl
  exact lv_icmp_lt C.1 C.2.1 hd ht (fun h => kt h p e s m args below meth c H locs ls Q C R hH hl) (fun h => kf h p e s m args below meth c H locs ls Q C R hH hl)
theorem z_icmp_ge {off : Int} (tgt : Nat) {x y : Int32} (hd : decode (zcc M) pc = .ok (.if_icmp .ge off, 3)) (ht : (pc : Int) + off = (tgt : Int)) (kt : y ≤ x → AW l G M tgt lv st w cs ss K) (kf : ¬ y ≤ x → AW l G M (pc + 3) lv st w cs ss K) : AW l G M pc lv (.int y :: .int x :: st) w cs ss K := by
  intro p e s m args below meth c H locs ls Q C R hH hl
  exact lv_icmp_ge C.1 C.2.1 hd ht (fun h => kt h p e s m args below meth c H locs ls Q C R hH hl) (fun h => kf h p e s m args below meth c H locs ls Q C R hH hl)
theorem z_icmp_gt {off : Int} (tgt : Nat) {x y : Int32} (hd : decode (zcc M) pc = .ok (.if_icmp .gt off, 3)) (ht : (pc : Int) + off = (tgt : Int)) (kt : y < x → AW l G M tgt lv st w cs ss K) (kf : ¬ y < x → AW l G M (pc + 3) lv st w cs ss K) : AW l G M pc lv (.int y :: .int x :: st) w cs ss K := by
  intro p e s m args below meth c H locs ls Q C R hH hl
  exact lv_icmp_gt C.1 C.2.1 hd ht (fun h => kt h p e s m args below meth c H locs ls Q C R hH hl) (fun h => kf h p e s m args below meth c H locs ls Q C R hH hl)
theorem z_icmp_le {off : Int} (tgt : Nat) {x y : Int32} (hd : decode (zcc M) pc = .ok (.if_icmp .le off, 3)) (ht : (pc : Int) + off = (tgt : Int)) (kt : x ≤ y → AW l G M tgt lv st w cs ss K) (kf : ¬ x ≤ y → AW l G M (pc + 3) lv st w cs ss K) : AW l G M pc lv (.int y :: .int x :: st) w cs ss K := by
  intro p e s m args below meth c H locs ls Q C R hH hl
  exact lv_icmp_le C.1 C.2.1 hd ht (fun h => kt h p e s m args below meth c H locs ls Q C R hH hl) (fun h => kf h p e s m args below meth c H locs ls Q C R hH hl)
theorem z_tableIn {dflt lo hi : Int} {offs : Array Int} {len : Nat} {x : Int32} {off : Int} (tgt : Nat) (hd : decode (zcc M) pc = .ok (.tableswitch dflt lo hi offs, len)) (h1 : ¬ x.toInt < lo) (h2 : ¬ hi < x.toInt) (ho : offs[(x.toInt - lo).toNat]? = some off) (ht : (pc : Int) + off = (tgt : Int)) (kk : AW l G M tgt lv st w cs ss K) : AW l G M pc lv (.int x :: st) w cs ss K := by
  intro p e s m args below meth c H locs ls Q C R hH hl
  exact lv_tableIn C.1 C.2.1 hd h1 h2 ho ht (kk p e s m args below meth c H locs ls Q C R hH hl)
theorem z_tableOut {dflt lo hi : Int} {offs : Array Int} {len : Nat} {x : Int32} (tgt : Nat) (hd : decode (zcc M) pc = .ok (.tableswitch dflt lo hi offs, len)) (h : x.toInt < lo ∨ hi < x.toInt) (ht : (pc : Int) + dflt = (tgt : Int)) (kk : AW l G M tgt lv st w cs ss K) : AW l G M pc lv (.int x :: st) w cs ss K := by
  intro p e s m args below meth c H locs ls Q C R hH hl
  exact lv_tableOut C.1 C.2.1 hd h ht (kk p e s m args below meth c H locs ls Q C R hH hl)
theorem z_lookup {dflt : Int} {ps : Array (Int × Int)} {len : Nat} {x : Int32} {off : Int} (tgt : Nat) (hd : decode (zcc M) pc = .ok (.lookupswitch dflt ps, len)) (hp : (ps.toList.zip (ps.toList.drop 1)).all (fun (a, next) => a.1 < next.1) = true) (ho : Op.lookupswitch.offset ps.toList dflt x.toInt = off) (ht : (pc : Int) + off = (tgt : Int)) (kk : AW l G M tgt lv st w cs ss K) : AW l G M pc lv (.int x :: st) w cs ss K := by
  intro p e s m args below meth c H locs ls Q C R hH hl
  exact lv_lookup C.1 C.2.1 hd hp ho ht (kk p e s m args below meth c H locs ls Q C R hH hl)
theorem z_iret {v : Int32} {ty : FieldType} (hd : decode (zcc M) pc = .ok (.ireturn, 1)) (hty : zrt M = some ty) (hn : narrow ty (.int v) = .int v) (hc : Nat.ble cs (zrm M).cells = true) (hs : Nat.ble ss (zrm M).slots = true) (kk : K v w) : AW l G M pc lv [.int v] w cs ss K := by
  intro p e s m args below meth c H locs ls Q C R hH hl
  exact (R H locs cs ss w pc ls hH (Nat.le_of_ble_eq_true hc) (Nat.le_of_ble_eq_true hs)).1 v ty kk hty hn hd
theorem z_ret (hd : decode (zcc M) pc = .ok (.return_, 1)) (hty : zrt M = none) (hc : Nat.ble cs (zrm M).cells = true) (hs : Nat.ble ss (zrm M).slots = true) (kk : K 0 w) : AW l G M pc lv [] w cs ss K := by
  intro p e s m args below meth c H locs ls Q C R hH hl
  exact (R H locs cs ss w pc ls hH (Nat.le_of_ble_eq_true hc) (Nat.le_of_ble_eq_true hs)).2 kk hty hd
end ZR
end
section

set_option maxRecDepth 100000 in
theorem zlay0 : (zcl.flatMap fun q => u_ws q.1 q.2.1 q.2.2).all (fun w => decide (w ∈ tables_1) && goodWord w) = true := by decide +kernel
theorem zlay {ci : Nat} {q : vw_C} (hc : zcl[ci]? = some q) : ∀ w ∈ u_ws q.1 q.2.1 q.2.2, w ∈ zT := by
  intro w hw
  have h := List.all_eq_true.mp zlay0 w (List.mem_flatMap.mpr ⟨q, List.mem_of_getElem? hc, hw⟩)
  simp only [Bool.and_eq_true, decide_eq_true_eq] at h
  exact List.mem_filter.mpr ⟨List.mem_append_right _ h.1, h.2⟩
def zty : Nat → Nat → FieldType := fun ci => match ci with
  | 0 => tyX0 | 1 => tyX1 | 2 => tyX2 | 3 => tyX3 | 4 => tyX4 | 5 => tyX5 | 6 => tyX6 | 7 => tyX7 | 8 => tyX8 | 9 => tyX9 | _ => tyX10
theorem zty_ok {ci : Nat} {q : vw_C} (hc : zcl[ci]? = some q) : ∀ k, k < q.2.2 → parseFieldDescriptor (q.2.1 k).2.2.1 = some (zty ci k) := by
  match ci, hc with
  | 0, hc => cases hc; exact tyX0_ok
  | 1, hc => cases hc; exact tyX1_ok
  | 2, hc => cases hc; exact tyX2_ok
  | 3, hc => cases hc; exact tyX3_ok
  | 4, hc => cases hc; exact tyX4_ok
  | 5, hc => cases hc; exact tyX5_ok
  | 6, hc => cases hc; exact tyX6_ok
  | 7, hc => cases hc; exact tyX7_ok
  | 8, hc => cases hc; exact tyX8_ok
  | 9, hc => cases hc; exact tyX9_ok
  | 10, hc => cases hc; exact tyX10_ok
  | n + 11, hc => simp [zcl] at hc
theorem znm_ok {ci : Nat} {q : vw_C} (hc : zcl[ci]? = some q) : ∀ a, a < q.2.2 → ∀ b, b < q.2.2 → a ≠ b → (q.2.1 a).2.1 ≠ (q.2.1 b).2.1 := by
  match ci, hc with
  | 0, hc => cases hc; exact nmX0
  | 1, hc => cases hc; exact nmX1
  | 2, hc => cases hc; exact nmX2
  | 3, hc => cases hc; exact nmX3
  | 4, hc => cases hc; exact nmX4
  | 5, hc => cases hc; exact nmX5
  | 6, hc => cases hc; exact nmX6
  | 7, hc => cases hc; exact nmX7
  | 8, hc => cases hc; exact nmX8
  | 9, hc => cases hc; exact nmX9
  | 10, hc => cases hc; exact nmX10
  | n + 11, hc => simp [zcl] at hc
/-- a field's row in a type's pool: type ci, field j -/
def zF (own : String) (idx ci j : Nat) : Prop := ∃ q : vw_C, zcl[ci]? = some q ∧ j < q.2.2 ∧ Cond.fieldLink own idx q.1 (q.2.1 j).2.1 (q.2.1 j).2.2.1 ∈ zT ∧ (q.2.1 j).1 = q.1
theorem zF.mk {own : String} {idx ci j : Nat} (q : vw_C) (i : Nat) (hc : zcl[ci]? = some q) (hj : Nat.blt j q.2.2 = true) (h : tables_1[i]? = some (Cond.fieldLink own idx q.1 (q.2.1 j).2.1 (q.2.1 j).2.2.1)) (he : (q.2.1 j).1 = q.1) : zF own idx ci j := ⟨q, hc, Nat.blt_eq.mp hj, zT_mem h rfl, he⟩
section ZHP
variable {l : Launch} {G : zG} {M : zM} {pc : Nat} {lv : List (Nat × Value)} {st : List Value} {w : List zC} {cs ss : Nat} {K : Int32 → List zC → Prop}
theorem z_get {idx ci j k : Nat} {fs : List Value} {v : Value} (hd : decode (zcc M) pc = .ok (.getfield idx, 3)) (hf : zF (zy M).cls idx ci j) (he : w[k]? = some (.inr (ci, fs))) (hv : fs[j]? = some v)
    (kk : AW l G M (pc + 3) lv (v :: st) w cs ss K) : AW l G M pc lv (.ref k :: st) w cs ss K := by
  intro p e s m args below meth c H locs ls Q C R hH hl
  obtain ⟨q, hc, hj, hlk, hq⟩ := hf
  exact va_get (D := zgD G) (ci := ci) (C := q.1) (T := q.2.1) (N := q.2.2) C.1 C.2.1 C.2.2.2.2.1 (fun w hw => List.mem_cons_of_mem _ (zlay hc w hw)) C.2.2.2.1 C.2.2.2.2.2.1.1 hH.2.1 k (zw_at he) hc j hj (C.2.2.2.2.1 _ (List.mem_cons_of_mem _ hlk)) (fun x hx => by rw [← hq]; exact hx) (v := zv G v) (by rw [List.getElem?_map, hv]; rfl) hd (kk p e s m args below meth c H locs ls Q C R hH hl)
theorem zH.set {e0 e : zC} {k : Nat} {H0 H H1 : Heap} {locs : List Loc} {i : Nat} (h : zH G w H0 H locs) (hk : w[k]? = some e0) (ha : va_at (zgD G) zcl (zga G + k, zc G e) H1) (z : H1.size = H.size) (oq : ∀ q : Nat, q ≠ zga G + k → H1[q]? = H[q]?) : zH G (w.set k e) H0 H1 (locs ++ [⟨zga G + k, i⟩]) :=
  ⟨by rw [z, List.length_set]; exact h.1, by rw [zw_put]; exact h.2.1.set (zw_D G w) (zw_at hk) ha oq, h.2.2.put z oq (Nat.le_add_right _ _)⟩
theorem z_put {idx ci j k : Nat} {fs : List Value} {v : Value} (hd : decode (zcc M) pc = .ok (.putfield idx, 3)) (hf : zF (zy M).cls idx ci j) (hfin : ∀ q : vw_C, zcl[ci]? = some q → (q.2.1 j).2.2.2 = false) (hn : narrow (zty ci j) (zv G v) = zv G v) (hfit : fits (zty ci j) (zv G v) = true) (he : w[k]? = some (.inr (ci, fs))) (hl0 : Nat.blt j fs.length = true)
    (kk : AW l G M (pc + 3) lv st (w.set k (.inr (ci, fs.set j v))) cs ss K) : AW l G M pc lv (v :: .ref k :: st) w cs ss K := by
  intro p e s m args below meth c H locs ls Q C R hH hl
  obtain ⟨q, hc, hj, hlk, hq⟩ := hf
  have hts := C.2.2.2.2.1
  have hin : ∀ x ∈ u_ws q.1 q.2.1 q.2.2, x ∈ zws M := fun x hx => List.mem_cons_of_mem _ (zlay hc x hx)
  have hK := C.2.2.2.2.2.1.1
  have hap := va_apart (own := q.1) hts hin (zty ci) (zty_ok hc) (znm_ok hc) hK hc
  obtain ⟨r, h1, cell, q1, q2, q3, q4⟩ := hH.2.1 k _ (zw_at he)
  have hr : r = q := Option.some.inj (h1.symm.trans hc)
  subst hr
  obtain ⟨hS, hfc, kC, hkC, hkind⟩ := hK.1 ci _ hc
  obtain ⟨cf, kf, fi, f, hi, hsl⟩ := hS j hj
  have hlay := hts _ (hin _ (u_in_lay hj))
  unfold u_lay at hlay
  rw [if_neg (by rw [hfin _ hc]; decide)] at hlay
  have hst := (u_facts hfc hkC (u_lays hts hin hj) hi).1
  have h6 := u_store hfc hkC hkind hlay hi (zty_ok hc j hj) hn hfit
  refine W.putK C.1 C.2.1 (f := f) ⟨C.2.2.2.1, hts _ (List.mem_cons_of_mem _ hlk), ⟨_, _, _, by rw [← hq]; exact hi⟩, hst⟩ (by rw [q2]; exact h6) q1 q3 (by rw [hsl]; exact k2_hasslot (q4 j hj)) rfl rfl hd fun H' e1 e2 e3 => ?_
  rw [hsl] at e1 ⊢
  refine kk p e s m args below meth c H' _ ls Q C R (hH.set he ?_ e2 e3) hl
  refine ⟨_, hc, t_OB.to (V := updV (vp_V (fs.map (zv G))) j (zv G v)) ⟨_, e1, q2, q3, t_set q4 hap hj (zv G v)⟩ (fun i _ => ?_)⟩
  rw [vp_updV_set (by rw [List.length_map]; exact Nat.blt_eq.mp hl0), ← List.map_set]
theorem z_putF {idx ci j k : Nat} {fs : List Value} {v : Value} (hd : decode (zcc M) pc = .ok (.putfield idx, 3)) (hf : zF (zy M).cls idx ci j) (hfin : ∀ q : vw_C, zcl[ci]? = some q → (q.2.1 j).2.2.2 = true ∧ (q.2.1 j).1 = (zy M).cls) (hin2 : (zy M).name = "<init>") (hn : narrow (zty ci j) (zv G v) = zv G v) (hfit : fits (zty ci j) (zv G v) = true) (he : w[k]? = some (.inr (ci, fs))) (hl0 : Nat.blt j fs.length = true)
    (kk : AW l G M (pc + 3) lv st (w.set k (.inr (ci, fs.set j v))) cs ss K) : AW l G M pc lv (v :: .ref k :: st) w cs ss K := by
  intro p e s m args below meth c H locs ls Q C R hH hl
  obtain ⟨q, hc, hj, hlk, hq⟩ := hf
  have hts := C.2.2.2.2.1
  have hin : ∀ x ∈ u_ws q.1 q.2.1 q.2.2, x ∈ zws M := fun x hx => List.mem_cons_of_mem _ (zlay hc x hx)
  have hK := C.2.2.2.2.2.1.1
  have hap := va_apart (own := q.1) hts hin (zty ci) (zty_ok hc) (znm_ok hc) hK hc
  obtain ⟨r, h1, cell, q1, q2, q3, q4⟩ := hH.2.1 k _ (zw_at he)
  have hr : r = q := Option.some.inj (h1.symm.trans hc)
  subst hr
  obtain ⟨hS, hfc, kC, hkC, hkind⟩ := hK.1 ci _ hc
  obtain ⟨cf, kf, fi, f, hi, hsl⟩ := hS j hj
  have hlay := hts _ (hin _ (u_in_lay hj))
  unfold u_lay at hlay
  rw [if_pos (hfin _ hc).1] at hlay
  have hst := (u_facts hfc hkC (u_lays hts hin hj) hi).1
  have hcf : m.cls = cf := by
    obtain ⟨_, _, c', _, _, _, -, -, hf', -, -, -, hown2, -⟩ := Cond.laysFinal_spec hlay
    have e1 : c' = cf := by have := hi.symm.trans hf'; simp at this; exact this.1.symm
    rw [(hfin _ hc).2] at hown2
    rw [← e1]; exact Option.some.inj (C.2.2.2.1.symm.trans hown2)
  have h6 := u_fits hfc hkC hkind (Or.inr hlay) hi (zty_ok hc j hj) hn hfit
  refine W.putFinK C.1 C.2.1 C.2.2.2.1 (hts _ (List.mem_cons_of_mem _ hlk)) (by rw [← hq]; exact hi) hst hcf (C.2.2.2.2.2.2.1.trans hin2) (by rw [q2]; exact h6) q1 q3 (by rw [hsl]; exact k2_hasslot (q4 j hj)) rfl rfl hd fun H' e1 e2 e3 => ?_
  rw [hsl] at e1 ⊢
  refine kk p e s m args below meth c H' _ ls Q C R (hH.set he ?_ e2 e3) hl
  refine ⟨_, hc, t_OB.to (V := updV (vp_V (fs.map (zv G))) j (zv G v)) ⟨_, e1, q2, q3, t_set q4 hap hj (zv G v)⟩ (fun i _ => ?_)⟩
  rw [vp_updV_set (by rw [List.length_map]; exact Nat.blt_eq.mp hl0), ← List.map_set]
theorem z_iald {k n : Nat} {f : Nat → Int32} {i : Int32} (hd : decode (zcc M) pc = .ok (.iaload, 1)) (he : w[k]? = some (.inl (0, n, .inl f))) (hi : vp_in i n) (kk : AW l G M (pc + 1) lv (.int (f i.toNatClampNeg) :: st) w cs ss K) : AW l G M pc lv (.int i :: .ref k :: st) w cs ss K := by
  intro p e s m args below meth c H locs ls Q C R hH hl
  exact va_iald (t0 := 0) C.1 C.2.1 C.2.2.2.2.2.1.1 hH.2.1 k (zw_at he) rfl hi hd (kk p e s m args below meth c H locs ls Q C R hH hl)
theorem z_zald {k n : Nat} {f : Nat → Int32} {i : Int32} (hd : decode (zcc M) pc = .ok (.baload, 1)) (he : w[k]? = some (.inl (1, n, .inl f))) (hi : vp_in i n) (kk : AW l G M (pc + 1) lv (.int (f i.toNatClampNeg) :: st) w cs ss K) : AW l G M pc lv (.int i :: .ref k :: st) w cs ss K := by
  intro p e s m args below meth c H locs ls Q C R hH hl
  exact va_zald (t0 := 1) C.1 C.2.1 C.2.2.2.2.2.1.1 hH.2.1 k (zw_at he) rfl hi hd (kk p e s m args below meth c H locs ls Q C R hH hl)
theorem z_oald {i : Int32} (hd : decode (zcc M) pc = .ok (.iaload, 1)) (hi : vp_in i 7) (kk : AW l G M (pc + 1) lv (.int (zord i.toNatClampNeg) :: st) w cs ss K) : AW l G M pc lv (.int i :: .retAddr 0 :: st) w cs ss K := by
  intro p e s m args below meth c H locs ls Q C R hH hl
  exact va_ti C.1 C.2.1 C.2.2.2.2.2.1.2.2.1 hH.2.2 hi rfl hd (kk p e s m args below meth c H locs ls Q C R hH hl)
theorem z_sald {i : Int32} (hd : decode (zcc M) pc = .ok (.iaload, 1)) (hi : vp_in i (zgL G)) (kk : AW l G M (pc + 1) lv (.int (zgx G i.toNatClampNeg) :: st) w cs ss K) : AW l G M pc lv (.int i :: .retAddr 1 :: st) w cs ss K := by
  intro p e s m args below meth c H locs ls Q C R hH hl
  have hb := C.2.2.2.2.2.1.2.2.2.2.1
  exact va_sld C.1 C.2.1 C.2.2.2.2.2.1.2.2.2.1 (Nat.lt_of_lt_of_le hb C.2.2.2.2.2.2.2) (Nat.not_le.mpr hb) hH.2.2 hi hd (kk p e s m args below meth c H locs ls Q C R hH hl)
theorem z_slen (hd : decode (zcc M) pc = .ok (.arraylength, 1)) (kk : AW l G M (pc + 1) lv (.int (Int32.ofNat (zgL G)) :: st) w cs ss K) : AW l G M pc lv (.retAddr 1 :: st) w cs ss K := by
  intro p e s m args below meth c H locs ls Q C R hH hl
  have hb := C.2.2.2.2.2.1.2.2.2.2.1
  exact va_slen C.1 C.2.1 C.2.2.2.2.2.1.2.2.2.1 (Nat.lt_of_lt_of_le hb C.2.2.2.2.2.2.2) (Nat.not_le.mpr hb) hH.2.2 hd (kk p e s m args below meth c H locs ls Q C R hH hl)
theorem z_alen {k n : Nat} {f : Nat → Int32} (hd : decode (zcc M) pc = .ok (.arraylength, 1)) (he : w[k]? = some (.inl (0, n, .inl f))) (kk : AW l G M (pc + 1) lv (.int (Int32.ofNat n) :: st) w cs ss K) : AW l G M pc lv (.ref k :: st) w cs ss K := by
  intro p e s m args below meth c H locs ls Q C R hH hl
  exact va_alen (t0 := 0) (ty := .int) C.1 C.2.1 C.2.2.2.2.2.1.1 hH.2.1 k (zw_at he) rfl rfl hd (kk p e s m args below meth c H locs ls Q C R hH hl)
theorem z_aald {k n t q : Nat} {C0 : String} {f : Nat → Option Nat} {i : Int32} (hd : decode (zcc M) pc = .ok (.aaload, 1)) (he : w[k]? = some (.inl (t, n, .inr f))) (ht : (ztys (zgt G))[t]? = some (zgt G t, .object C0)) (hi : vp_in i n) (hf : f i.toNatClampNeg = some q) (kk : AW l G M (pc + 1) lv (.ref q :: st) w cs ss K) : AW l G M pc lv (.int i :: .ref k :: st) w cs ss K := by
  intro p e s m args below meth c H locs ls Q C R hH hl
  refine va_aldq (t0 := t) C.1 C.2.1 C.2.2.2.2.2.1.1 hH.2.1 k (zw_at he) ht hi hd ?_
  show W p l e (zrm M) s m args below meth c H locs cs ss Q (F0 m (pc + 1) ls (va_rf ((f i.toNatClampNeg).map _) :: _))
  rw [hf]
  exact kk p e s m args below meth c H locs ls Q C R hH hl
theorem z_iast {k n : Nat} {f : Nat → Int32} {i x : Int32} (hd : decode (zcc M) pc = .ok (.iastore, 1)) (he : w[k]? = some (.inl (0, n, .inl f))) (hi : vp_in i n) (kk : AW l G M (pc + 1) lv st (w.set k (.inl (0, n, .inl (upd f i.toNatClampNeg x)))) cs ss K) : AW l G M pc lv (.int x :: .int i :: .ref k :: st) w cs ss K := by
  intro p e s m args below meth c H locs ls Q C R hH hl
  refine W.iast C.1 C.2.1 (hH.2.1 k _ (zw_at he)) ((C.2.2.2.2.2.1.1.2 0 _ rfl).1 n (fun j => .int (f j))) (fun q => by cases q) (by show ¬ (i < 0 ∨ (arrV _ _ _).slots.size ≤ _); rw [arrV_size]; exact hi) rfl rfl hd fun H1 e1 z oq => ?_
  refine kk p e s m args below meth c H1 _ ls Q C R (hH.set he ?_ z oq) hl
  show H1[_]? = some (vp_cell _ _)
  rw [e1]
  show some ((vp_cell _ _).setSlot _ _) = _
  rw [vp_cell_i, vp_cell_i, arrV_store]
  congr 2
  funext q
  by_cases hq : q = i.toNatClampNeg
  · subst hq
    simp [updV, upd]
  · simp [updV, upd, hq]
theorem z_zast {k n : Nat} {f : Nat → Int32} {i x : Int32} (hd : decode (zcc M) pc = .ok (.bastore, 1)) (he : w[k]? = some (.inl (1, n, .inl f))) (hi : vp_in i n) (hx : narrow .boolean (.int x) = .int x) (kk : AW l G M (pc + 1) lv st (w.set k (.inl (1, n, .inl (upd f i.toNatClampNeg x)))) cs ss K) : AW l G M pc lv (.int x :: .int i :: .ref k :: st) w cs ss K := by
  intro p e s m args below meth c H locs ls Q C R hH hl
  refine W.zast C.1 C.2.1 (hH.2.1 k _ (zw_at he)) ((C.2.2.2.2.2.1.1.2 1 _ rfl).1 n (fun j => .int (f j))) (fun q => by cases q) (by show ¬ (i < 0 ∨ (arrV _ _ _).slots.size ≤ _); rw [arrV_size]; exact hi) rfl rfl hd fun H1 e1 z oq => ?_
  refine kk p e s m args below meth c H1 _ ls Q C R (hH.set he ?_ z oq) hl
  show H1[_]? = some (vp_cell _ _)
  rw [e1, hx]
  show some ((vp_cell _ _).setSlot _ _) = _
  rw [vp_cell_i, vp_cell_i, arrV_store]
  congr 2
  funext q
  by_cases hq : q = i.toNatClampNeg
  · subst hq
    simp [updV, upd]
  · simp [updV, upd, hq]
theorem z_aast {k n t ci q : Nat} {r : vw_C} {fs : List Value} {f : Nat → Option Nat} {i : Int32} (hd : decode (zcc M) pc = .ok (.aastore, 1)) (he : w[k]? = some (.inl (t, n, .inr f))) (ht : (ztys (zgt G))[t]? = some (zgt G t, .object r.1)) (hc : zcl[ci]? = some r) (hv : w[q]? = some (.inr (ci, fs))) (hi : vp_in i n)
    (kk : AW l G M (pc + 1) lv st (w.set k (.inl (t, n, .inr (va_up f i.toNatClampNeg (some q))))) cs ss K) : AW l G M pc lv (.ref q :: .int i :: .ref k :: st) w cs ss K := by
  intro p e s m args below meth c H locs ls Q C R hH hl
  have hlt : i.toNatClampNeg < n := Nat.not_le.mp fun q => hi (Or.inr q)
  have h0 : ¬ i < 0 := fun q => hi (Or.inl q)
  obtain ⟨r', hr', cellV, g1, g2, g3, -⟩ := hH.2.1 q _ (zw_at hv)
  have hK := C.2.2.2.2.2.1.1
  have hcls := (hK.1 ci r hc).2
  obtain ⟨kA, comp, k1, k2, k3, -⟩ := (hK.2 t _ ht).2
  have hcomp : comp = (zgD G).1 ci := Option.some.inj (k3.symm.trans hcls.1)
  subst hcomp
  obtain ⟨kC, hkC, -⟩ := hcls.2
  refine W.aast C.1 C.2.1 (hH.2.1 k _ (zw_at he)) (fun q h => by cases h) (fun h => by cases h) k1 k2 rfl hkC ⟨h0, by show _ < (arrV _ _ _).slots.size; rw [arrV_size]; exact hlt⟩ g1 (fun q h => by rw [g3] at h; cases h) (by rw [g2]; exact hkC) (by rw [g2]; exact va_assign hcls) rfl rfl hd fun H1 e1 z oq => ?_
  refine kk p e s m args below meth c H1 _ ls Q C R (hH.set he ?_ z oq) hl
  show H1[_]? = some (vp_cell _ _)
  rw [e1]
  show some ((vp_cell _ _).setSlot _ _) = _
  rw [vp_cell_q, vp_cell_q, arrV_store]
  congr 2
  funext a
  by_cases hq : a = i.toNatClampNeg
  · subst hq
    simp [updV, va_up, va_rf]
  · simp [updV, va_up, hq]
theorem z_gets {idx : Nat} (hd : decode (zcc M) pc = .ok (.getstatic idx, 3)) (hf : Cond.fieldLink (zy M).cls idx RX6 "ORDERS" "[I" ∈ zT) (kk : AW l G M (pc + 3) lv (.retAddr 0 :: st) w cs ss K) : AW l G M pc lv st w cs ss K := by
  intro p e s m args below meth c H locs ls Q C R hH hl
  exact va_gets C.1 C.2.1 C.2.2.2.2.2.1.2.1 hH.2.2 C.2.2.2.1 (C.2.2.2.2.1 _ (List.mem_cons_of_mem _ hf)) (fun x hx => hx) hd (kk p e s m args below meth c H locs ls Q C R hH hl)
theorem zH.push {e : zC} {H0 H H1 : Heap} {locs : List Loc} (h : zH G w H0 H locs) (ha : va_at (zgD G) zcl (zga G + w.length, zc G e) H1) (z : H1.size = H.size + 1) (o1 : ∀ q : Nat, q < H.size → H1[q]? = H[q]?) : zH G (w ++ [e]) H0 H1 locs := by
  refine ⟨by rw [z, List.length_append, h.1]; simp; omega, ?_, Nat.le_trans h.2.2.1 (by omega), fun x h1 h2 => (o1 x (Nat.lt_of_lt_of_le h1 h.2.2.1)).trans (h.2.2.2.1 x h1 h2), h.2.2.2.2⟩
  rw [zw_new]
  refine (h.2.1.kept (fun k q hk => o1 q.1 ((h.2.1 k q hk).lt))).app (fun k x hx => ?_)
  have hz : k < 1 := (List.getElem?_eq_some_iff.mp hx).1
  rw [show k = 0 by omega] at hx
  cases hx
  exact ha
theorem z_new {idx ci : Nat} {q : vw_C} {fs : List Value} (hd : decode (zcc M) pc = .ok (.new idx, 3)) (hc : zcl[ci]? = some q) (h1 : Cond.classLink (zy M).cls idx q.1 ∈ zT) (h2 : Cond.instantiable q.1 q.2.2 ∈ zT) (h3 : Cond.initialized q.1 ∈ zT) (hfs : ∀ j, j < q.2.2 → defaultValue (zty ci j) = vp_V (fs.map (zv G)) j) (hcs : Nat.ble (cs + 1) (zrm M).cells = true) (hss : Nat.ble (ss + q.2.2) (zrm M).slots = true)
    (kk : AW l G M (pc + 3) lv (.ref w.length :: st) (w ++ [.inr (ci, fs)]) (cs + 1) (ss + q.2.2) K) : AW l G M pc lv st w cs ss K := by
  intro p e s m args below meth c H locs ls Q C R hH hl
  have hts := C.2.2.2.2.1
  have hKn := C.2.2.2.2.2.1.1.1 ci _ hc
  refine W.newcK C.1 C.2.1 C.2.2.2.1 (hts _ (List.mem_cons_of_mem _ h1)) (hts _ (List.mem_cons_of_mem _ h2)) (hts _ (List.mem_cons_of_mem _ h3)) rfl hd (Nat.le_of_ble_eq_true hcs) (Nat.le_of_ble_eq_true hss) hKn.2.1 hH.1 fun H1 kC hkC e1 z1 o1 => ?_
  exact kk p e s m args below meth c H1 locs ls Q C R (hH.push ⟨_, hc, (u_born (zty ci) hts (fun w hw => List.mem_cons_of_mem _ (zlay hc w hw)) hKn hkC e1 (zty_ok hc)).to hfs⟩ (by rw [z1, hH.1]) (fun q hq => o1 q (by rw [← hH.1]; exact hq))) hl
theorem z_newa {atype : ArrayType} {t n : Nat} {x : Int32} (hd : decode (zcc M) pc = .ok (.newarray atype, 2)) (hw : Cond.arrayClass (newarray.typeOf atype) ∈ zT) (ht : (ztys (zgt G))[t]? = some (zgt G t, newarray.typeOf atype)) (hdv : defaultValue (newarray.typeOf atype) = .int 0) (hra : ∀ U cA, va_RA U cA (newarray.typeOf atype) → U.vm.findClass ("[" ++ (newarray.typeOf atype).toString) = some cA) (hx : ¬ x < 0) (hn : x.toNatClampNeg = n) (hb : Nat.ble (n * componentBytes (newarray.typeOf atype)) 536870912 = true) (hcs : Nat.ble (cs + 1) (zrm M).cells = true) (hss : Nat.ble (ss + n) (zrm M).slots = true)
    (kk : AW l G M (pc + 2) lv (.ref w.length :: st) (w ++ [.inl (t, n, .inl (fun _ => 0))]) (cs + 1) (ss + n) K) : AW l G M pc lv (.int x :: st) w cs ss K := by
  intro p e s m args below meth c H locs ls Q C R hH hl
  refine va_newaK C.1 C.2.1 (C.2.2.2.2.1 _ (List.mem_cons_of_mem _ hw)) rfl hd rfl hx hn (Nat.le_of_ble_eq_true hb) (Nat.le_of_ble_eq_true hcs) (Nat.le_of_ble_eq_true hss) hH.1 fun H1 cA e1 z1 o1 hAr hNm => ?_
  have hcA : cA = zgt G t := Option.some.inj (hNm.symm.trans (hra _ _ (C.2.2.2.2.2.1.1.2 t _ ht).2))
  subst hcA
  refine kk p e s m args below meth c H1 locs ls Q C R (hH.push ?_ (by rw [z1, hH.1]) (fun q hq => o1 q (by rw [← hH.1]; exact hq))) hl
  show H1[_]? = some (vp_cell _ _)
  rw [e1, hdv]
  rfl
theorem z_anew {idx t n : Nat} {C0 : String} {x : Int32} (hd : decode (zcc M) pc = .ok (.anewarray idx, 3)) (hlk : Cond.classLink (zy M).cls idx C0 ∈ zT) (hov : ∀ U, zOvers U → va_AO C0 U) (ht : (ztys (zgt G))[t]? = some (zgt G t, .object C0)) (hx : ¬ x < 0) (hn : x.toNatClampNeg = n) (hb : Nat.ble (n * 4) 536870912 = true) (hcs : Nat.ble (cs + 1) (zrm M).cells = true) (hss : Nat.ble (ss + n) (zrm M).slots = true)
    (kk : AW l G M (pc + 3) lv (.ref w.length :: st) (w ++ [.inl (t, n, .inr (fun _ => none))]) (cs + 1) (ss + n) K) : AW l G M pc lv (.int x :: st) w cs ss K := by
  intro p e s m args below meth c H locs ls Q C R hH hl
  subst hn
  refine W.anew C.1 C.2.1 C.2.2.2.1 (C.2.2.2.2.1 _ (List.mem_cons_of_mem _ hlk)) (va_AO.use (hov _ C.2.2.2.2.2.1.2.2.2.2.2.2)) rfl hd rfl hx (Nat.le_of_ble_eq_true hb) (Nat.le_of_ble_eq_true hcs) (Nat.le_of_ble_eq_true hss) fun cA kA comp f1 f2 f3 f4 => ?_
  obtain ⟨kA', comp', -, -, -, f5⟩ := (C.2.2.2.2.2.1.1.2 t _ ht).2
  have hcA : cA = zgt G t := Option.some.inj (f1.symm.trans f5)
  subst hcA
  rw [hH.1]
  refine kk p e s m args below meth c _ locs ls Q C R (hH.push ?_ (by simp) (fun q hq => by rw [Array.getElem?_push, if_neg (Nat.ne_of_lt hq)])) hl
  show _ = some (vp_cell _ _)
  rw [← hH.1, Array.getElem?_push_size]
  show some ({ cls := zgt G t, slots := Array.replicate x.toNatClampNeg .null, vm := .none } : Cell) = _
  rw [arrV_new]
  rfl
end ZHP
end
section

def zYN (M' : zM) (n : Nat) : Prop := (zy M').cls ≠ "java/lang/invoke/MethodHandle" ∧ (zy M').cls ≠ "java/lang/invoke/VarHandle" ∧ (parseMethodDescriptor (zy M').desc).map (fun d => d.parameters.length) = some n
def zKV (own : String) (idx : Nat) (M' : zM) (n : Nat) : Prop := Cond.methodLink own idx (zy M') ∈ zT ∧ Cond.instanceMethod (zy M') ∈ zT ∧ Cond.selects (zy M').cls (zy M') (zy M') ∈ zT ∧ Cond.initialized (zy M').cls ∈ zT ∧ Cond.code (zy M') (zcc M') (znL M') (zrt M') ∈ zT ∧ zYN M' n
def zKS (own : String) (idx : Nat) (M' : zM) (n : Nat) : Prop := Cond.methodLink own idx (zy M') ∈ zT ∧ Cond.static (zy M') ∈ zT ∧ Cond.initialized (zy M').cls ∈ zT ∧ Cond.code (zy M') (zcc M') (znL M') (zrt M') ∈ zT ∧ zYN M' n
def zKI (own : String) (idx : Nat) (M' : zM) (n : Nat) : Prop := Cond.methodLink own idx (zy M') ∈ zT ∧ Cond.instanceMethod (zy M') ∈ zT ∧ Cond.initialized (zy M').cls ∈ zT ∧ Cond.code (zy M') (zcc M') (znL M') (zrt M') ∈ zT ∧ zYN M' n ∧ (zy M').name = "<init>" ∧ zrt M' = none
def zKN (own : String) (idx : Nat) (M' : zM) (n : Nat) : Prop := (∃ host, (own, idx, zy M', host) ∈ znl) ∧ Cond.instanceMethod (zy M') ∈ zT ∧ Cond.initialized (zy M').cls ∈ zT ∧ Cond.code (zy M') (zcc M') (znL M') (zrt M') ∈ zT ∧ zYN M' n ∧ (zy M').name = "<init>" ∧ zrt M' = none
def zR (M M' : zM) : Prop := Nat.ble ((zrm M').frames + 1) (zrm M).frames = true ∧ Nat.ble (8 + (znL M' + 11) + (zrm M').locals) (zrm M).locals = true
theorem z_good {M M' : zM} (hc : Cond.code (zy M') (zcc M') (znL M') (zrt M') ∈ zT) : GoodIn (zws M) (zws M') := by
  intro x hx
  have h : x ∈ zT := by
    rcases List.mem_cons.mp hx with rfl | h
    · exact hc
    · exact h
  exact ⟨List.mem_cons_of_mem _ h, zT_good h⟩
section ZCL
variable {l : Launch} {G : zG} {M : zM} {pc : Nat} {lv : List (Nat × Value)} {st st0 : List Value} {w : List zC} {cs ss : Nat} {K K' : Int32 → List zC → Prop} {M' : zM} {As : List Value} {idx n b ci : Nat} {fs : List Value}
theorem z_stk (hst : st0 = As.reverse ++ .ref b :: st) : st0.map (zv G) = (As.map (zv G)).reverse ++ .ref (zga G + b) :: st.map (zv G) := by
  rw [hst, List.map_append, List.map_reverse]; rfl
theorem z_callV0 {p : Program} {e : Env} {s : State} {m : MethodId} {args : Array Value} {below : List Frame} {meth : Method} {c : Code} {H : Heap} {locs : List Loc} {ls : Array Slot}
    (C : zCtx G M p s m args meth c) (hH : zH G w s.heap H locs) (hl : lv_has ls (znL M) (zlv G lv)) (hd : decode (zcc M) pc = .ok (.invokevirtual idx, 3)) (hk : zKV (zy M).cls idx M' n) (hR : zR M M') (hn : As.length = n) (hb : w[b]? = some (.inr (ci, fs))) (hci : zcl[ci]?.map (fun q => q.1) = some (zy M').cls) (h8 : Nat.ble (st.map fun v => v.category).sum 8 = true) (hcs : Nat.ble (cs + (zrm M').cells) (zrm M).cells = true) (hss : Nat.ble (ss + (zrm M').slots) (zrm M).slots = true)
    (hC : Con l G M' (.ref b :: As) w K') (hst : st0 = As.reverse ++ .ref b :: st) :
    va_Run p l e (zrm M) s m args below meth c H locs cs ss (zrm M').cells (zrm M').slots (F0 m pc ls (st0.map (zv G))) (st.map (zv G)) (zQ G (zrt M') K' ((Value.ref b :: As).map (zv G)).toArray) (zA G) := by
  obtain ⟨k1, k2, k3, k4, k5, k6⟩ := hk
  have hts := C.2.2.2.2.1
  have up : ∀ x, x ∈ zT → x.before args s = true := fun x hx => hts x (List.mem_cons_of_mem _ hx)
  obtain ⟨q, hq, hqc⟩ := Option.map_eq_some_iff.mp hci
  obtain ⟨cellB, r1, r2, r3⟩ := va_recv C.2.2.2.2.2.1.1 hH.2.1 hq (zw_at hb)
  exact va_runV (l := l) (Ts := zws M) (C := (zy M').cls) (b := zga G + b) (As := As.map (zv G)) (rest := st.map (zv G)) ⟨C.1, C.2.1, C.2.2.1, C.2.2.2.1, hts⟩ hC
    ⟨callB_of n hts (z_good k5) rfl rfl rfl (up _ k4) (up _ k1) k6 ⟨Nat.le_of_ble_eq_true hR.1, Nat.le_of_ble_eq_true hR.2⟩, up _ k2, up _ k3⟩
    ⟨zPre.blind, ⟨cellB, r1, r2, by rw [← hqc]; exact r3⟩, fun U hU hW => ⟨rfl, C.2.2.2.2.2.1.at hH.2.2 hU hW, by rw [hU]; exact hH.1, by rw [hU]; exact hH.2.1⟩⟩
    rfl (by rw [List.length_map]; exact hn) hl.1 (z_stk hst) (lv_room (by rw [zcat_sum]; exact Nat.le_of_ble_eq_true h8)) hd ⟨Nat.le_of_ble_eq_true hcs, Nat.le_of_ble_eq_true hss⟩
theorem z_callV {ty : FieldType} (hd : decode (zcc M) pc = .ok (.invokevirtual idx, 3)) (hk : zKV (zy M).cls idx M' n) (hR : zR M M') (hrt : zrt M' = some ty) (hn : As.length = n) (hst : st0 = As.reverse ++ .ref b :: st) (hb : w[b]? = some (.inr (ci, fs))) (hci : zcl[ci]?.map (fun q => q.1) = some (zy M').cls) (h8 : Nat.ble (st.map fun v => v.category).sum 8 = true) (hcs : Nat.ble (cs + (zrm M').cells) (zrm M).cells = true) (hss : Nat.ble (ss + (zrm M').slots) (zrm M).slots = true)
    (hC : Con l G M' (.ref b :: As) w K') (kk : ∀ r w', K' r w' → AW l G M (pc + 3) lv (.int r :: st) w' (cs + (zrm M').cells) (ss + (zrm M').slots) K) : AW l G M pc lv st0 w cs ss K := by
  intro p e s m args below meth c H locs ls Q C R hH hl
  have hr := z_callV0 (e := e) (below := below) C hH hl hd hk hR hn hb hci h8 hcs hss hC hst
  rw [hrt] at hr
  exact va_calli (a := #[]) hr hH.2.2 (fun q _ h => h) (fun q h => h) (fun r w' t H1 locs1 ht hvm hK hB _ _ hS1 => kk r w' hK p e s m args below meth c H1 locs1 ls Q C R ⟨by rw [← ht]; exact hB.1, by rw [← ht]; exact hB.2, hS1⟩ hl)
theorem z_callVv (hd : decode (zcc M) pc = .ok (.invokevirtual idx, 3)) (hk : zKV (zy M).cls idx M' n) (hR : zR M M') (hrt : zrt M' = none) (hn : As.length = n) (hst : st0 = As.reverse ++ .ref b :: st) (hb : w[b]? = some (.inr (ci, fs))) (hci : zcl[ci]?.map (fun q => q.1) = some (zy M').cls) (h8 : Nat.ble (st.map fun v => v.category).sum 8 = true) (hcs : Nat.ble (cs + (zrm M').cells) (zrm M).cells = true) (hss : Nat.ble (ss + (zrm M').slots) (zrm M).slots = true)
    (hC : Con l G M' (.ref b :: As) w K') (kk : ∀ w', K' 0 w' → AW l G M (pc + 3) lv st w' (cs + (zrm M').cells) (ss + (zrm M').slots) K) : AW l G M pc lv st0 w cs ss K := by
  intro p e s m args below meth c H locs ls Q C R hH hl
  have hr := z_callV0 (e := e) (below := below) C hH hl hd hk hR hn hb hci h8 hcs hss hC hst
  rw [hrt] at hr
  exact va_callv (a := #[]) hr hH.2.2 (fun q _ h => h) (fun q h => h) (fun w' t H1 locs1 ht hvm hK hB _ _ hS1 => kk w' hK p e s m args below meth c H1 locs1 ls Q C R ⟨by rw [← ht]; exact hB.1, by rw [← ht]; exact hB.2, hS1⟩ hl)
theorem z_callS0 {p : Program} {e : Env} {s : State} {m : MethodId} {args : Array Value} {below : List Frame} {meth : Method} {c : Code} {H : Heap} {locs : List Loc} {ls : Array Slot}
    (C : zCtx G M p s m args meth c) (hH : zH G w s.heap H locs) (hl : lv_has ls (znL M) (zlv G lv)) (hd : decode (zcc M) pc = .ok (.invokestatic idx, 3)) (hk : zKS (zy M).cls idx M' n) (hR : zR M M') (hn : As.length = n) (h8 : Nat.ble (st.map fun v => v.category).sum 8 = true) (hcs : Nat.ble (cs + (zrm M').cells) (zrm M).cells = true) (hss : Nat.ble (ss + (zrm M').slots) (zrm M).slots = true)
    (hC : Con l G M' As w K') (hst : st0 = As.reverse ++ st) :
    va_Run p l e (zrm M) s m args below meth c H locs cs ss (zrm M').cells (zrm M').slots (F0 m pc ls (st0.map (zv G))) (st.map (zv G)) (zQ G (zrt M') K' (As.map (zv G)).toArray) (zA G) := by
  obtain ⟨k1, k2, k4, k5, k6⟩ := hk
  have hts := C.2.2.2.2.1
  have up : ∀ x, x ∈ zT → x.before args s = true := fun x hx => hts x (List.mem_cons_of_mem _ hx)
  exact va_runS (l := l) (Ts := zws M) (As := As.map (zv G)) (rest := st.map (zv G)) ⟨C.1, C.2.1, C.2.2.1, C.2.2.2.1, hts⟩ hC
    ⟨callB_of n hts (z_good k5) rfl rfl rfl (up _ k4) (up _ k1) k6 ⟨Nat.le_of_ble_eq_true hR.1, Nat.le_of_ble_eq_true hR.2⟩, up _ k2⟩
    ⟨zPre.blind, fun U hU hW => ⟨rfl, C.2.2.2.2.2.1.at hH.2.2 hU hW, by rw [hU]; exact hH.1, by rw [hU]; exact hH.2.1⟩⟩
    rfl (by rw [List.length_map]; exact hn) hl.1 (by rw [hst, List.map_append, List.map_reverse]) (lv_room (by rw [zcat_sum]; exact Nat.le_of_ble_eq_true h8)) hd ⟨Nat.le_of_ble_eq_true hcs, Nat.le_of_ble_eq_true hss⟩
theorem z_callS {ty : FieldType} (hd : decode (zcc M) pc = .ok (.invokestatic idx, 3)) (hk : zKS (zy M).cls idx M' n) (hR : zR M M') (hrt : zrt M' = some ty) (hn : As.length = n) (hst : st0 = As.reverse ++ st) (h8 : Nat.ble (st.map fun v => v.category).sum 8 = true) (hcs : Nat.ble (cs + (zrm M').cells) (zrm M).cells = true) (hss : Nat.ble (ss + (zrm M').slots) (zrm M).slots = true)
    (hC : Con l G M' As w K') (kk : ∀ r w', K' r w' → AW l G M (pc + 3) lv (.int r :: st) w' (cs + (zrm M').cells) (ss + (zrm M').slots) K) : AW l G M pc lv st0 w cs ss K := by
  intro p e s m args below meth c H locs ls Q C R hH hl
  have hr := z_callS0 (e := e) (below := below) C hH hl hd hk hR hn h8 hcs hss hC hst
  rw [hrt] at hr
  exact va_calli (a := #[]) hr hH.2.2 (fun q _ h => h) (fun q h => h) (fun r w' t H1 locs1 ht hvm hK hB _ _ hS1 => kk r w' hK p e s m args below meth c H1 locs1 ls Q C R ⟨by rw [← ht]; exact hB.1, by rw [← ht]; exact hB.2, hS1⟩ hl)
theorem z_callSv (hd : decode (zcc M) pc = .ok (.invokestatic idx, 3)) (hk : zKS (zy M).cls idx M' n) (hR : zR M M') (hrt : zrt M' = none) (hn : As.length = n) (hst : st0 = As.reverse ++ st) (h8 : Nat.ble (st.map fun v => v.category).sum 8 = true) (hcs : Nat.ble (cs + (zrm M').cells) (zrm M).cells = true) (hss : Nat.ble (ss + (zrm M').slots) (zrm M).slots = true)
    (hC : Con l G M' As w K') (kk : ∀ w', K' 0 w' → AW l G M (pc + 3) lv st w' (cs + (zrm M').cells) (ss + (zrm M').slots) K) : AW l G M pc lv st0 w cs ss K := by
  intro p e s m args below meth c H locs ls Q C R hH hl
  have hr := z_callS0 (e := e) (below := below) C hH hl hd hk hR hn h8 hcs hss hC hst
  rw [hrt] at hr
  exact va_callv (a := #[]) hr hH.2.2 (fun q _ h => h) (fun q h => h) (fun w' t H1 locs1 ht hvm hK hB _ _ hS1 => kk w' hK p e s m args below meth c H1 locs1 ls Q C R ⟨by rw [← ht]; exact hB.1, by rw [← ht]; exact hB.2, hS1⟩ hl)
theorem z_callI (hd : decode (zcc M) pc = .ok (.invokespecial idx, 3)) (hk : zKI (zy M).cls idx M' n) (hR : zR M M') (hn : As.length = n) (hst : st0 = As.reverse ++ .ref b :: st) (h8 : Nat.ble (st.map fun v => v.category).sum 8 = true) (hcs : Nat.ble (cs + (zrm M').cells) (zrm M).cells = true) (hss : Nat.ble (ss + (zrm M').slots) (zrm M).slots = true)
    (hC : Con l G M' (.ref b :: As) w K') (kk : ∀ w', K' 0 w' → AW l G M (pc + 3) lv st w' (cs + (zrm M').cells) (ss + (zrm M').slots) K) : AW l G M pc lv st0 w cs ss K := by
  intro p e s m args below meth c H locs ls Q C R hH hl
  obtain ⟨k1, k2, k4, k5, k6, k7, hrt⟩ := hk
  have hts := C.2.2.2.2.1
  have up : ∀ x, x ∈ zT → x.before args s = true := fun x hx => hts x (List.mem_cons_of_mem _ hx)
  have hcb : CallB (zrm M) s args (zy M).cls idx (zy M') (zcc M') (znL M') none (zws M') (zrm M') (zrm M').cells (zrm M').slots n := by
    have h := callB_of (R := zrm M) (args := args) (s := s) (own := (zy M).cls) (index := idx) (y := zy M') (bytes := zcc M') (maxL := znL M') (ret := zrt M') (Ts := zws M) (ws := zws M') (rm := zrm M') n hts (z_good k5) rfl rfl rfl (up _ k4) (up _ k1) k6 ⟨Nat.le_of_ble_eq_true hR.1, Nat.le_of_ble_eq_true hR.2⟩
    rw [hrt] at h
    exact h
  have hr := va_runI (l := l) (p := p) (e := e) (below := below) (meth := meth) (c := c) (H := H) (locs := locs) (cells := cs) (slots := ss) (Ts := zws M) (b := zga G + b) (As := As.map (zv G)) (rest := st.map (zv G)) (g := F0 m pc ls (st0.map (zv G))) ⟨C.1, C.2.1, C.2.2.1, C.2.2.2.1, hts⟩ hC
    ⟨hcb, k7, up _ k2⟩
    ⟨zPre.blind, fun U hU hW => ⟨rfl, C.2.2.2.2.2.1.at hH.2.2 hU hW, by rw [hU]; exact hH.1, by rw [hU]; exact hH.2.1⟩⟩
    rfl (by rw [List.length_map]; exact hn) hl.1 (z_stk hst) (lv_room (by rw [zcat_sum]; exact Nat.le_of_ble_eq_true h8)) hd ⟨Nat.le_of_ble_eq_true hcs, Nat.le_of_ble_eq_true hss⟩
  rw [hrt] at hr
  exact va_callv (a := #[]) hr hH.2.2 (fun q _ h => h) (fun q h => h) (fun w' t H1 locs1 ht hvm hK hB _ _ hS1 => kk w' hK p e s m args below meth c H1 locs1 ls Q C R ⟨by rw [← ht]; exact hB.1, by rw [← ht]; exact hB.2, hS1⟩ hl)
theorem z_callIN (hd : decode (zcc M) pc = .ok (.invokespecial idx, 3)) (hk : zKN (zy M).cls idx M' n) (hR : zR M M') (hn : As.length = n) (hst : st0 = As.reverse ++ .ref b :: st) (h8 : Nat.ble (st.map fun v => v.category).sum 8 = true) (hcs : Nat.ble (cs + (zrm M').cells) (zrm M).cells = true) (hss : Nat.ble (ss + (zrm M').slots) (zrm M).slots = true)
    (hC : Con l G M' (.ref b :: As) w K') (kk : ∀ w', K' 0 w' → AW l G M (pc + 3) lv st w' (cs + (zrm M').cells) (ss + (zrm M').slots) K) : AW l G M pc lv st0 w cs ss K := by
  intro p e s m args below meth c H locs ls Q C R hH hl
  obtain ⟨⟨host, k1⟩, k2, k4, k5, k6, k7, hrt⟩ := hk
  have hts := C.2.2.2.2.1
  have up : ∀ x, x ∈ zT → x.before args s = true := fun x hx => hts x (List.mem_cons_of_mem _ hx)
  have hcb : va_CN (zrm M) s args (zy M).cls idx (zy M') host (zcc M') (znL M') none (zws M') (zrm M') (zrm M').cells (zrm M').slots n := by
    have h := va_cnB (R := zrm M) (args := args) (s := s) (own := (zy M).cls) (host := host) (index := idx) (y := zy M') (bytes := zcc M') (maxL := znL M') (ret := zrt M') (Ts := zws M) (ws := zws M') (rm := zrm M') n hts (z_good k5) rfl rfl rfl (C.2.2.2.2.2.1.2.2.2.2.2.1 _ k1) (up _ k4) k6 ⟨Nat.le_of_ble_eq_true hR.1, Nat.le_of_ble_eq_true hR.2⟩
    rw [hrt] at h
    exact h
  have hr := va_runIN (l := l) (p := p) (e := e) (below := below) (meth := meth) (c := c) (H := H) (locs := locs) (cells := cs) (slots := ss) (Ts := zws M) (b := zga G + b) (As := As.map (zv G)) (rest := st.map (zv G)) (g := F0 m pc ls (st0.map (zv G))) ⟨C.1, C.2.1, C.2.2.1, C.2.2.2.1, hts⟩ hC
    ⟨hcb, k7, up _ k2⟩
    ⟨zPre.blind, fun U hU hW => ⟨rfl, C.2.2.2.2.2.1.at hH.2.2 hU hW, by rw [hU]; exact hH.1, by rw [hU]; exact hH.2.1⟩⟩
    rfl (by rw [List.length_map]; exact hn) hl.1 (z_stk hst) (lv_room (by rw [zcat_sum]; exact Nat.le_of_ble_eq_true h8)) hd ⟨Nat.le_of_ble_eq_true hcs, Nat.le_of_ble_eq_true hss⟩
  rw [hrt] at hr
  exact va_callv (a := #[]) hr hH.2.2 (fun q _ h => h) (fun q h => h) (fun w' t H1 locs1 ht hvm hK hB _ _ hS1 => kk w' hK p e s m args below meth c H1 locs1 ls Q C R ⟨by rw [← ht]; exact hB.1, by rw [← ht]; exact hB.2, hS1⟩ hl)
theorem z_objInit (hd : decode (zcc M) pc = .ok (.invokespecial idx, 3)) (h1 : Cond.methodLink (zy M).cls idx Lib.objectInit ∈ zT) (h2 : Cond.instanceMethod Lib.objectInit ∈ zT) (h3 : Cond.code Lib.objectInit ⟨#[0xb1]⟩ 1 none ∈ zT) (hf : Nat.ble 1 (zrm M).frames = true) (hlo : Nat.ble ((st.map fun v => v.category).sum + 12) (zrm M).locals = true) (kk : AW l G M (pc + 3) lv st w cs ss K) : AW l G M pc lv (.ref b :: st) w cs ss K := by
  intro p e s m args below meth c H locs ls Q C R hH hl
  have up : ∀ x, x ∈ zT → x.before args s = true := fun x hx => C.2.2.2.2.1 x (List.mem_cons_of_mem _ hx)
  exact W.objInit C.1 C.2.1 C.2.2.2.1 (up _ h1) (up _ h2) (up _ h3) rfl (by rw [C.2.2.1]; exact hl.1) rfl hd (Nat.le_of_ble_eq_true hf) (by show 2 * 0 + _ + 12 ≤ _; rw [zcat_sum, Nat.zero_add]; exact Nat.le_of_ble_eq_true hlo) (kk p e s m args below meth c H locs ls Q C R hH hl)
theorem z_max {x y : Int32} (hd : decode (zcc M) pc = .ok (.invokestatic idx, 3)) (h1 : Cond.methodLink (zy M).cls idx Lib.Math.max.name ∈ zT) (h2 : Cond.static Lib.Math.max.name ∈ zT) (h3 : Cond.initialized "java/lang/Math" ∈ zT) (h4 : Cond.code Lib.Math.max.name Lib.Math.max.code 2 (some .int) ∈ zT) (hf : Nat.ble 1 (zrm M).frames = true) (hlo : Nat.ble ((st.map fun v => v.category).sum + 13) (zrm M).locals = true) (hc : Nat.ble cs (zrm M).cells = true) (hs : Nat.ble ss (zrm M).slots = true)
    (kk : AW l G M (pc + 3) lv (.int (if x < y then y else x) :: st) w cs ss K) : AW l G M pc lv (.int y :: .int x :: st) w cs ss K := by
  intro p e s m args below meth c H locs ls Q C R hH hl
  have up : ∀ x, x ∈ zT → x.before args s = true := fun x hx => C.2.2.2.2.1 x (List.mem_cons_of_mem _ hx)
  exact va_mmax C.1 C.2.1 (by rw [C.2.2.1]; exact hl.1.symm) C.2.2.2.1 (up _ h1) (up _ h2) (up _ h3) (up _ h4) (Nat.le_of_ble_eq_true hf) (by rw [zcat_sum]; exact Nat.le_of_ble_eq_true hlo) (Nat.le_of_ble_eq_true hc) (Nat.le_of_ble_eq_true hs) hd (kk p e s m args below meth c H locs ls Q C R hH hl)
theorem z_min {x y : Int32} (hd : decode (zcc M) pc = .ok (.invokestatic idx, 3)) (h1 : Cond.methodLink (zy M).cls idx Lib.Math.min.name ∈ zT) (h2 : Cond.static Lib.Math.min.name ∈ zT) (h3 : Cond.initialized "java/lang/Math" ∈ zT) (h4 : Cond.code Lib.Math.min.name Lib.Math.min.code 2 (some .int) ∈ zT) (hf : Nat.ble 1 (zrm M).frames = true) (hlo : Nat.ble ((st.map fun v => v.category).sum + 13) (zrm M).locals = true) (hc : Nat.ble cs (zrm M).cells = true) (hs : Nat.ble ss (zrm M).slots = true)
    (kk : AW l G M (pc + 3) lv (.int (if y < x then y else x) :: st) w cs ss K) : AW l G M pc lv (.int y :: .int x :: st) w cs ss K := by
  intro p e s m args below meth c H locs ls Q C R hH hl
  have up : ∀ x, x ∈ zT → x.before args s = true := fun x hx => C.2.2.2.2.1 x (List.mem_cons_of_mem _ hx)
  exact va_mmin C.1 C.2.1 (by rw [C.2.2.1]; exact hl.1.symm) C.2.2.2.1 (up _ h1) (up _ h2) (up _ h3) (up _ h4) (Nat.le_of_ble_eq_true hf) (by rw [zcat_sum]; exact Nat.le_of_ble_eq_true hlo) (Nat.le_of_ble_eq_true hc) (Nat.le_of_ble_eq_true hs) hd (kk p e s m args below meth c H locs ls Q C R hH hl)
theorem z_copy {k0 k1 n0 n1 : Nat} {f g : Nat → Int32} {sp dp nn : Int32} (hd : decode (zcc M) pc = .ok (.invokestatic idx, 3)) (w1 : Cond.methodLink (zy M).cls idx arraycopyName ∈ zT) (w2 : Cond.native arraycopyName ∈ zT) (w3 : Cond.static arraycopyName ∈ zT) (w4 : Cond.initialized "java/lang/System" ∈ zT)
    (he0 : w[k0]? = some (.inl (0, n0, .inl f))) (he1 : w[k1]? = some (.inl (0, n1, .inl g))) (h1 : ¬ sp < 0) (h2 : ¬ dp < 0) (h3 : ¬ nn < 0) (h4 : sp.toNatClampNeg + nn.toNatClampNeg ≤ n0) (h5 : dp.toNatClampNeg + nn.toNatClampNeg ≤ n1) (hf : Nat.ble 1 (zrm M).frames = true) (hlo : Nat.ble ((st.map fun v => v.category).sum + (nativeFrameWords "java/lang/System" "arraycopy" 5 + 11)) (zrm M).locals = true)
    (kk : AW l G M (pc + 3) lv st (w.set k1 (.inl (0, n1, .inl (va_cpy f g sp.toNatClampNeg dp.toNatClampNeg nn.toNatClampNeg)))) cs ss K) : AW l G M pc lv (.int nn :: .int dp :: .ref k1 :: .int sp :: .ref k0 :: st) w cs ss K := by
  intro p e s m args below meth c H locs ls Q C R hH hl
  have up : ∀ x, x ∈ zT → x.before args s = true := fun x hx => C.2.2.2.2.1 x (List.mem_cons_of_mem _ hx)
  have nn' : ∀ z : Int32, ¬ z < 0 → z.toInt = (z.toNatClampNeg : Int) := by
    intro z hz
    have hz0 : (0 : Int) ≤ z.toInt := by
      have := Int32.not_lt.mp hz
      simpa using Int32.le_iff_toInt_le.mp this
    show z.toInt = ((z.toInt.toNat : Nat) : Int)
    omega
  intro T hT X
  have hc0 : H[zga G + k0]? = some (vp_cell (zgt G 0) (n0, .inl f)) := hH.2.1 k0 _ (zw_at he0)
  have hc1 : H[zga G + k1]? = some (vp_cell (zgt G 0) (n1, .inl g)) := hH.2.1 k1 _ (zw_at he1)
  have hK := C.2.2.2.2.2.1.1
  obtain ⟨-, c0, hk0, cm0, hkk0⟩ := (hK.2 0 _ rfl).1 n0 (fun j => .int (f j))
  obtain ⟨-, c1, hk1, cm1, hkk1⟩ := (hK.2 0 _ rfl).1 n1 (fun j => .int (g j))
  obtain ⟨vm', X', step⟩ := X.arraycopy C.1 C.2.2.2.1 (up _ w1) (up _ w2) (up _ w3) (up _ w4) (src := zga G + k0) (dst := zga G + k1) (cs := vp_cell (zgt G 0) (n0, .inl f)) (cd := vp_cell (zgt G 0) (n1, .inl g)) (srcPos := sp) (destPos := dp) (n := nn) (by rw [hT]; exact hc0) (by rw [hT]; exact hc1)
    (fun _ h => by cases h) (fun _ h => by cases h) (fun h => by cases h) (fun h => by cases h) hk0 hk1 hkk0 hkk1 (by simp [refKind]) h1 h2 h3
    (by rw [nn' sp h1, nn' nn h3]; show ¬ _ > ((arrV _ n0 (fun j => .int (f j))).slots.size : Int); rw [arrV_size]; omega)
    (by rw [nn' dp h2, nn' nn h3]; show ¬ _ > ((arrV _ n1 (fun j => .int (g j))).slots.size : Int); rw [arrV_size]; omega)
    (fun vm₁ _ i hi => by
      have e : (vp_cell (zgt G 0) (n0, .inl f)).slots.getD (sp.toNatClampNeg + i) .null = .int (f (sp.toNatClampNeg + i)) := by
        show (arrV _ n0 (fun j => .int (f j))).slots.getD _ _ = _
        rw [Array.getD_eq_getD_getElem?, arrV_read _ _ (by omega)]
        rfl
      refine ⟨?_, ?_⟩
      · rw [e]
        rfl
      · rw [e]
        exact trivial)
    (g := F0 m pc ls (.int nn :: .int dp :: .ref (zga G + k1) :: .int sp :: .ref (zga G + k0) :: st.map (zv G))) rfl (by rw [C.2.2.1]; exact hl.1) (rest := st.map (zv G)) rfl (by rw [C.2.1]; exact hd) (Nat.le_of_ble_eq_true hf) (by have := Nat.le_of_ble_eq_true hlo; show 2 * 0 + _ + _ ≤ _; rw [zcat_sum]; omega)
  have e1 : copied (vp_cell (zgt G 0) (n0, .inl f)) (vp_cell (zgt G 0) (n1, .inl g)) sp dp nn = vp_cell (zgt G 0) (n1, .inl (va_cpy f g sp.toNatClampNeg dp.toNatClampNeg nn.toNatClampNeg)) := va_copied (fun z => .int z) (zgt G 0) (zgt G 0) f g h4
  rw [e1] at X' step
  have hlt : zga G + k1 < H.size := (Array.getElem?_eq_some_iff.mp hc1).1
  have oq : ∀ q : Nat, q ≠ zga G + k1 → (H.setIfInBounds (zga G + k1) (vp_cell (zgt G 0) (n1, .inl (va_cpy f g sp.toNatClampNeg dp.toNatClampNeg nn.toNatClampNeg))))[q]? = H[q]? := fun q hq => by simp [Array.getElem?_setIfInBounds, Ne.symm hq]
  have h0 := hH.set (i := 0) (e := .inl (0, n1, .inl (va_cpy f g sp.toNatClampNeg dp.toNatClampNeg nn.toNatClampNeg))) he1 (show (H.setIfInBounds (zga G + k1) _)[zga G + k1]? = some _ by simp [Array.getElem?_setIfInBounds, hlt]) (by simp) oq
  obtain ⟨t, a1, b1⟩ := kk p e s m args below meth c _ _ ls Q C R ⟨h0.1, h0.2.1, h0.2.2.1, h0.2.2.2.1, fun q hq => by
      rcases List.mem_append.mp hq with h | h
      · exact hH.2.2.2.2 q h
      · obtain ⟨z, -, hz⟩ := List.mem_map.mp h
        rw [← hz]
        exact Nat.le_add_right _ _⟩ hl _ (by rw [← hT]; rfl) X'
  exact ⟨t, step t a1, b1⟩
end ZCL
end
section

abbrev Mem : Type := Nat → Nat → Int32
abbrev Lng : Type := Nat → Int64
abbrev zz : Nat → Int32 := fun _ => 0
def zi1 (v : Value) (x : Int32) (z : Int64) : Value := match v with
  | .int _ => .int x
  | .long _ => .long z
  | v => v
def zif : Nat → List Value → (Nat → Int32) → Int64 → List Value
  | _, [], _, _ => []
  | j, v :: fs, r, z => zi1 v (r j) z :: zif (j + 1) fs r z
def zin (c : zC) (r : Nat → Int32) (z : Int64) : zC := match c with
  | .inl (t, n, .inl _) => .inl (t, n, .inl r)
  | .inl (t, n, .inr f) => .inl (t, n, .inr f)
  | .inr (ci, fs) => .inr (ci, zif 0 fs r z)
def wdf : Nat → List zC → Mem → Lng → List zC
  | _, [], _, _ => []
  | k, c :: w, μ, ν => zin c (μ k) (ν k) :: wdf (k + 1) w μ ν
/-- the cells of both objects -/
def zsh : List zC := [.inr (9, [.ref 1, .ref 15, .ref 22, .ref 26, .ref 44, .ref 53, .ref 54, .ref 55, .int 0, .long 0, .int 0]), .inr (5, [.ref 2, .ref 9, .ref 13, .ref 14, .int 0, .int 0, .int 0, .int 0, .int 0, .int 0, .int 0]), .inr (1, [.ref 3, .ref 4, .ref 5, .ref 6, .ref 7, .ref 8, .int 0]), .inl (0, 2, .inl zz), .inl (0, 2, .inl zz), .inl (0, 6, .inl zz), .inl (0, 6, .inl zz), .inl (0, 6, .inl zz), .inl (0, 6, .inl zz), .inr (4, [.ref 10, .ref 11, .ref 12, .int 0, .int 0]), .inl (0, 6, .inl zz), .inl (0, 6, .inl zz), .inl (0, 6, .inl zz), .inl (0, 250, .inl zz), .inl (0, 2, .inl zz), .inr (1, [.ref 16, .ref 17, .ref 18, .ref 19, .ref 20, .ref 21, .int 0]), .inl (0, 2, .inl zz), .inl (0, 2, .inl zz), .inl (0, 6, .inl zz), .inl (0, 6, .inl zz), .inl (0, 6, .inl zz), .inl (0, 6, .inl zz), .inr (4, [.ref 23, .ref 24, .ref 25, .int 0, .int 0]), .inl (0, 6, .inl zz), .inl (0, 6, .inl zz), .inl (0, 6, .inl zz), .inr (0, [.ref 15, .ref 27, .ref 28, .ref 29]), .inl (4, 2, .inr (fun j => [some 30, some 34].getD j none)), .inl (3, 6, .inr (fun j => [some 38, some 39, some 40, some 41, some 42, some 43].getD j none)), .inl (0, 6, .inl zz), .inr (7, [.ref 31, .ref 32, .ref 33, .int 0, .int 0, .int 0, .int 0, .int 0]), .inl (0, 2, .inl zz), .inl (0, 2, .inl zz), .inl (0, 2, .inl zz), .inr (7, [.ref 35, .ref 36, .ref 37, .int 0, .int 0, .int 0, .int 0, .int 0]), .inl (0, 2, .inl zz), .inl (0, 2, .inl zz), .inl (0, 2, .inl zz), .inr (3, [.int 0, .int 0, .int 0, .int 0, .int 0, .int 0]), .inr (3, [.int 0, .int 0, .int 0, .int 0, .int 0, .int 0]), .inr (3, [.int 0, .int 0, .int 0, .int 0, .int 0, .int 0]), .inr (3, [.int 0, .int 0, .int 0, .int 0, .int 0, .int 0]), .inr (3, [.int 0, .int 0, .int 0, .int 0, .int 0, .int 0]), .inr (3, [.int 0, .int 0, .int 0, .int 0, .int 0, .int 0]), .inr (8, [.ref 15, .ref 22, .ref 26, .ref 45, .ref 49, .int 0, .int 0]), .inr (4, [.ref 46, .ref 47, .ref 48, .int 0, .int 0]), .inl (0, 6, .inl zz), .inl (0, 6, .inl zz), .inl (0, 6, .inl zz), .inr (6, [.ref 50, .ref 51, .ref 52, .int 0]), .inl (0, 6, .inl zz), .inl (0, 6, .inl zz), .inl (0, 6, .inl zz), .inl (2, 2, .inr (fun j => [some 56, some 61].getD j none)), .inl (0, 20, .inl zz), .inl (0, 20, .inl zz), .inr (2, [.ref 57, .long 0, .int 0]), .inr (4, [.ref 58, .ref 59, .ref 60, .int 0, .int 0]), .inl (0, 6, .inl zz), .inl (0, 6, .inl zz), .inl (0, 6, .inl zz), .inr (2, [.ref 62, .long 0, .int 0]), .inr (4, [.ref 63, .ref 64, .ref 65, .int 0, .int 0]), .inl (0, 6, .inl zz), .inl (0, 6, .inl zz), .inl (0, 6, .inl zz), .inr (10, [.int 0, .ref 67, .int 0, .int 0, .int 0, .int 0, .int 0, .int 0, .int 0, .ref 68, .ref 69, .int 0, .int 0, .int 0, .int 0, .int 0, .ref 70, .int 0, .ref 71, .ref 72, .ref 73, .ref 74, .ref 75, .ref 76, .ref 77, .ref 78, .ref 79, .ref 80, .ref 81, .ref 82, .ref 83, .ref 84, .ref 85, .ref 86, .ref 87, .ref 88, .ref 89, .ref 90, .int 0, .int 0, .ref 91, .ref 92, .ref 93, .ref 94, .ref 95, .int 0, .ref 96]), .inl (0, 250, .inl zz), .inl (0, 42, .inl zz), .inl (0, 4, .inl zz), .inl (0, 4, .inl zz), .inl (0, 6, .inl zz), .inl (0, 6, .inl zz), .inl (0, 6, .inl zz), .inl (0, 6, .inl zz), .inl (0, 21, .inl zz), .inl (0, 42, .inl zz), .inl (1, 2, .inl zz), .inl (0, 6, .inl zz), .inl (0, 6, .inl zz), .inl (0, 6, .inl zz), .inl (0, 6, .inl zz), .inl (0, 6, .inl zz), .inl (1, 6, .inl zz), .inl (0, 4, .inl zz), .inl (0, 4, .inl zz), .inl (0, 2, .inl zz), .inl (0, 2, .inl zz), .inl (0, 2, .inl zz), .inl (0, 2, .inl zz), .inl (0, 4, .inl zz), .inl (0, 21, .inl zz), .inl (0, 6, .inl zz), .inl (0, 6, .inl zz), .inl (0, 6, .inl zz), .inl (0, 6, .inl zz), .inl (0, 40, .inl zz)]
def wd (μ : Mem) (ν : Lng) : List zC := wdf 0 zsh μ ν
def up2 (μ : Mem) (k j : Nat) (v : Int32) : Mem := va_up μ k (upd (μ k) j v)
theorem up2_same (μ : Mem) (k j : Nat) (v : Int32) : up2 μ k j v k j = v := by simp [up2, va_up, upd]
theorem up2_row (μ : Mem) (k j i : Nat) (v : Int32) : up2 μ k j v k i = if i = j then v else μ k i := by simp [up2, va_up, upd]
theorem up2_ne {μ : Mem} {k j q : Nat} {v : Int32} (h : q ≠ k) : up2 μ k j v q = μ q := by simp [up2, va_up, h]
theorem up2_at (μ : Mem) (k j q i : Nat) (v : Int32) : up2 μ k j v q i = if q = k ∧ i = j then v else μ q i := by
  unfold up2 va_up upd
  by_cases h : q = k
  · subst h; by_cases h2 : i = j <;> simp [h2]
  · simp [h]
theorem zif_get (r : Nat → Int32) (z : Int64) : ∀ (fs : List Value) (j0 j : Nat), (zif j0 fs r z)[j]? = (fs[j]?).map (fun v => zi1 v (r (j0 + j)) z)
  | [], _, _ => by simp [zif]
  | v :: fs, j0, 0 => by simp [zif]
  | v :: fs, j0, j + 1 => by
    rw [zif, List.getElem?_cons_succ, List.getElem?_cons_succ, zif_get r z fs (j0 + 1) j]
    rw [show j0 + 1 + j = j0 + (j + 1) by omega]
theorem zif_len (r : Nat → Int32) (z : Int64) : ∀ (fs : List Value) (j0 : Nat), (zif j0 fs r z).length = fs.length
  | [], _ => rfl
  | v :: fs, j0 => by rw [zif, List.length_cons, List.length_cons, zif_len r z fs]
theorem wdf_get (μ : Mem) (ν : Lng) : ∀ (w : List zC) (k0 k : Nat), (wdf k0 w μ ν)[k]? = (w[k]?).map (fun c => zin c (μ (k0 + k)) (ν (k0 + k)))
  | [], _, _ => by simp [wdf]
  | c :: w, k0, 0 => by simp [wdf]
  | c :: w, k0, k + 1 => by
    rw [wdf, List.getElem?_cons_succ, List.getElem?_cons_succ, wdf_get μ ν w (k0 + 1) k]
    rw [show k0 + 1 + k = k0 + (k + 1) by omega]
theorem wd_get {μ : Mem} {ν : Lng} {k : Nat} {c : zC} (h : zsh[k]? = some c) : (wd μ ν)[k]? = some (zin c (μ k) (ν k)) := by
  unfold wd
  rw [wdf_get, h, Option.map_some, Nat.zero_add]
theorem wd_len (μ : Mem) (ν : Lng) : (wd μ ν).length = zsh.length := by
  have h : ∀ (w : List zC) (k0 : Nat), (wdf k0 w μ ν).length = w.length := by
    intro w
    induction w with
    | nil => intro k0; rfl
    | cons c w ih => intro k0; rw [wdf, List.length_cons, List.length_cons, ih]
  exact h _ _
theorem wd_set {μ μ' : Mem} {ν ν' : Lng} {k : Nat} {c c' : zC} (h : zsh[k]? = some c) (hc : zin c (μ' k) (ν' k) = c') (hμ : ∀ q, q ≠ k → μ' q = μ q) (hν : ∀ q, q ≠ k → ν' q = ν q) : (wd μ ν).set k c' = wd μ' ν' := by
  apply List.ext_getElem?
  intro i
  have hlen : k < (wd μ ν).length := by rw [wd_len]; exact (List.getElem?_eq_some_iff.mp h).1
  by_cases hi : i = k
  · subst hi
    rw [List.getElem?_set_self hlen, wd_get h, hc]
  · rw [List.getElem?_set_ne (Ne.symm hi)]
    unfold wd
    rw [wdf_get, wdf_get, Nat.zero_add, hμ i hi, hν i hi]
theorem zif_set (μ : Mem) (k j : Nat) (x v : Int32) (z : Int64) (fs : List Value) (hj : fs[j]? = some (.int x)) : (zif 0 fs (μ k) z).set j (.int v) = zif 0 fs (up2 μ k j v k) z := by
  apply List.ext_getElem?
  intro i
  have hl : j < (zif 0 fs (μ k) z).length := by rw [zif_len]; exact (List.getElem?_eq_some_iff.mp hj).1
  by_cases hi : i = j
  · subst hi
    rw [List.getElem?_set_self hl, zif_get, hj, Option.map_some, Nat.zero_add, up2_same]; rfl
  · rw [List.getElem?_set_ne (Ne.symm hi), zif_get, zif_get]
    congr 1
    funext y
    rw [Nat.zero_add, up2_row, if_neg hi]
theorem wd_put {μ : Mem} {ν : Lng} {k ci j : Nat} {fs : List Value} {x v : Int32} (h : zsh[k]? = some (.inr (ci, fs))) (hj : fs[j]? = some (.int x)) : (wd μ ν).set k (.inr (ci, (zif 0 fs (μ k) (ν k)).set j (.int v))) = wd (up2 μ k j v) ν :=
  wd_set h (by rw [zif_set μ k j x v (ν k) fs hj]; rfl) (fun q hq => up2_ne hq) (fun _ _ => rfl)
theorem zif_long (r : Nat → Int32) (z z' : Int64) : ∀ (fs : List Value) (j0 j : Nat), fs[j]? = some (Value.long 0) → (∀ i : Nat, fs[i]? = some (Value.long 0) → i = j) → (∀ (i : Nat) (v : Int64), fs[i]? = some (Value.long v) → v = 0) → (zif j0 fs r z).set j (.long z') = zif j0 fs r z' := by
  intro fs j0 j hj h1 h0
  apply List.ext_getElem?
  intro i
  have hl : j < (zif j0 fs r z).length := by rw [zif_len]; exact (List.getElem?_eq_some_iff.mp hj).1
  by_cases hi : i = j
  · subst hi
    rw [List.getElem?_set_self hl, zif_get, hj]; rfl
  · rw [List.getElem?_set_ne (Ne.symm hi), zif_get, zif_get]
    cases hf : fs[i]? with
    | none => rfl
    | some y =>
      cases y with
      | long q =>
        have := h0 i q hf
        subst this
        exact absurd (h1 i hf) hi
      | _ => rfl
theorem wd_row {μ : Mem} {ν : Lng} {k t n : Nat} {f g : Nat → Int32} (h : zsh[k]? = some (.inl (t, n, .inl g))) : (wd μ ν).set k (.inl (t, n, .inl f)) = wd (va_up μ k f) ν :=
  wd_set h (by simp [zin, va_up]) (fun q hq => by simp [va_up, hq]) (fun _ _ => rfl)
def zK (K : Int32 → Mem → Lng → Prop) : Int32 → List zC → Prop := fun r w => ∃ μ ν, w = wd μ ν ∧ K r μ ν
abbrev Am (l : Launch) (G : zG) (M : zM) (pc : Nat) (lv : List (Nat × Value)) (st : List Value) (μ : Mem) (ν : Lng) (K : Int32 → Mem → Lng → Prop) : Prop := AW l G M pc lv st (wd μ ν) 0 0 (zK K)
abbrev Cm (l : Launch) (G : zG) (M : zM) (As : List Value) (μ : Mem) (ν : Lng) (K : Int32 → Mem → Lng → Prop) : Prop := Con l G M As (wd μ ν) (zK K)
section ZMM
variable {l : Launch} {G : zG} {M : zM} {pc : Nat} {lv : List (Nat × Value)} {st st0 : List Value} {μ : Mem} {ν : Lng} {K K' : Int32 → Mem → Lng → Prop} {idx ci j k t n q b : Nat} {fs As : List Value} {M' : zM}
theorem m_geti {x : Int32} (hd : decode (zcc M) pc = .ok (.getfield idx, 3)) (hf : zF (zy M).cls idx ci j) (hs : zsh[k]? = some (.inr (ci, fs))) (hj : fs[j]? = some (.int x)) (kk : Am l G M (pc + 3) lv (.int (μ k j) :: st) μ ν K) : Am l G M pc lv (.ref k :: st) μ ν K :=
  z_get hd hf (wd_get hs) (by rw [zif_get, hj, Option.map_some, Nat.zero_add]; rfl) kk
theorem m_getr (hd : decode (zcc M) pc = .ok (.getfield idx, 3)) (hf : zF (zy M).cls idx ci j) (hs : zsh[k]? = some (.inr (ci, fs))) (hj : fs[j]? = some (.ref q)) (kk : Am l G M (pc + 3) lv (.ref q :: st) μ ν K) : Am l G M pc lv (.ref k :: st) μ ν K :=
  z_get hd hf (wd_get hs) (by rw [zif_get, hj, Option.map_some]; rfl) kk
theorem m_getl {x : Int64} (hd : decode (zcc M) pc = .ok (.getfield idx, 3)) (hf : zF (zy M).cls idx ci j) (hs : zsh[k]? = some (.inr (ci, fs))) (hj : fs[j]? = some (.long x)) (kk : Am l G M (pc + 3) lv (.long (ν k) :: st) μ ν K) : Am l G M pc lv (.ref k :: st) μ ν K :=
  z_get hd hf (wd_get hs) (by rw [zif_get, hj, Option.map_some]; rfl) kk
theorem m_puti {x v : Int32} (hd : decode (zcc M) pc = .ok (.putfield idx, 3)) (hf : zF (zy M).cls idx ci j) (hfin : ∀ q : vw_C, zcl[ci]? = some q → (q.2.1 j).2.2.2 = false) (hn : narrow (zty ci j) (.int v) = .int v) (hfit : fits (zty ci j) (.int v) = true) (hs : zsh[k]? = some (.inr (ci, fs))) (hj : fs[j]? = some (.int x)) (kk : Am l G M (pc + 3) lv st (up2 μ k j v) ν K) : Am l G M pc lv (.int v :: .ref k :: st) μ ν K :=
  z_put hd hf hfin hn hfit (wd_get hs) (Nat.blt_eq.mpr (by rw [zif_len]; exact (List.getElem?_eq_some_iff.mp hj).1)) (by rw [wd_put hs hj]; exact kk)
theorem m_putl {v : Int64} (hd : decode (zcc M) pc = .ok (.putfield idx, 3)) (hf : zF (zy M).cls idx ci j) (hfin : ∀ q : vw_C, zcl[ci]? = some q → (q.2.1 j).2.2.2 = false) (hty : zty ci j = .long) (hs : zsh[k]? = some (.inr (ci, fs))) (hj : fs[j]? = some (.long 0)) (h1 : ∀ i : Nat, fs[i]? = some (Value.long 0) → i = j) (h0 : ∀ (i : Nat) (v : Int64), fs[i]? = some (Value.long v) → v = 0) (kk : Am l G M (pc + 3) lv st μ (va_up ν k v) K) : Am l G M pc lv (.long v :: .ref k :: st) μ ν K :=
  z_put hd hf hfin (by rw [hty]; rfl) (by rw [hty]; rfl) (wd_get hs) (Nat.blt_eq.mpr (by rw [zif_len]; exact (List.getElem?_eq_some_iff.mp hj).1)) (by
    rw [wd_set (μ' := μ) (ν' := va_up ν k v) hs (by rw [zif_long (μ k) (ν k) v fs 0 j hj h1 h0]; simp [zin, va_up]) (fun _ _ => rfl) (fun q hq => by simp [va_up, hq])]
    exact kk)
theorem m_iald {g : Nat → Int32} {i : Int32} (hd : decode (zcc M) pc = .ok (.iaload, 1)) (hs : zsh[k]? = some (.inl (0, n, .inl g))) (hi : vp_in i n) (kk : Am l G M (pc + 1) lv (.int (μ k i.toNatClampNeg) :: st) μ ν K) : Am l G M pc lv (.int i :: .ref k :: st) μ ν K :=
  z_iald hd (wd_get hs) hi kk
theorem m_zald {g : Nat → Int32} {i : Int32} (hd : decode (zcc M) pc = .ok (.baload, 1)) (hs : zsh[k]? = some (.inl (1, n, .inl g))) (hi : vp_in i n) (kk : Am l G M (pc + 1) lv (.int (μ k i.toNatClampNeg) :: st) μ ν K) : Am l G M pc lv (.int i :: .ref k :: st) μ ν K :=
  z_zald hd (wd_get hs) hi kk
theorem m_alen {g : Nat → Int32} (hd : decode (zcc M) pc = .ok (.arraylength, 1)) (hs : zsh[k]? = some (.inl (0, n, .inl g))) (kk : Am l G M (pc + 1) lv (.int (nI n) :: st) μ ν K) : Am l G M pc lv (.ref k :: st) μ ν K :=
  z_alen hd (wd_get hs) kk
theorem m_iast {g : Nat → Int32} {i x : Int32} (hd : decode (zcc M) pc = .ok (.iastore, 1)) (hs : zsh[k]? = some (.inl (0, n, .inl g))) (hi : vp_in i n) (kk : Am l G M (pc + 1) lv st (up2 μ k i.toNatClampNeg x) ν K) : Am l G M pc lv (.int x :: .int i :: .ref k :: st) μ ν K :=
  z_iast hd (wd_get hs) hi (by rw [wd_row hs]; exact kk)
theorem m_zast {g : Nat → Int32} {i x : Int32} (hd : decode (zcc M) pc = .ok (.bastore, 1)) (hs : zsh[k]? = some (.inl (1, n, .inl g))) (hi : vp_in i n) (hx : narrow .boolean (.int x) = .int x) (kk : Am l G M (pc + 1) lv st (up2 μ k i.toNatClampNeg x) ν K) : Am l G M pc lv (.int x :: .int i :: .ref k :: st) μ ν K :=
  z_zast hd (wd_get hs) hi hx (by rw [wd_row hs]; exact kk)
theorem m_aald {f : Nat → Option Nat} {C0 : String} {i : Int32} (hd : decode (zcc M) pc = .ok (.aaload, 1)) (hs : zsh[k]? = some (.inl (t, n, .inr f))) (ht : (ztys (zgt G))[t]? = some (zgt G t, .object C0)) (hi : vp_in i n) (hf : f i.toNatClampNeg = some q) (kk : Am l G M (pc + 1) lv (.ref q :: st) μ ν K) : Am l G M pc lv (.int i :: .ref k :: st) μ ν K :=
  z_aald hd (wd_get hs) ht hi hf kk
theorem m_copy {k0 k1 n0 n1 : Nat} {g0 g1 : Nat → Int32} {sp dp nn : Int32} (hd : decode (zcc M) pc = .ok (.invokestatic idx, 3)) (w1 : Cond.methodLink (zy M).cls idx arraycopyName ∈ zT) (w2 : Cond.native arraycopyName ∈ zT) (w3 : Cond.static arraycopyName ∈ zT) (w4 : Cond.initialized "java/lang/System" ∈ zT)
    (hs0 : zsh[k0]? = some (.inl (0, n0, .inl g0))) (hs1 : zsh[k1]? = some (.inl (0, n1, .inl g1))) (h1 : ¬ sp < 0) (h2 : ¬ dp < 0) (h3 : ¬ nn < 0) (h4 : sp.toNatClampNeg + nn.toNatClampNeg ≤ n0) (h5 : dp.toNatClampNeg + nn.toNatClampNeg ≤ n1) (hf : Nat.ble 1 (zrm M).frames = true) (hlo : Nat.ble ((st.map fun v => v.category).sum + (nativeFrameWords "java/lang/System" "arraycopy" 5 + 11)) (zrm M).locals = true)
    (kk : Am l G M (pc + 3) lv st (va_up μ k1 (va_cpy (μ k0) (μ k1) sp.toNatClampNeg dp.toNatClampNeg nn.toNatClampNeg)) ν K) : Am l G M pc lv (.int nn :: .int dp :: .ref k1 :: .int sp :: .ref k0 :: st) μ ν K :=
  z_copy hd w1 w2 w3 w4 (wd_get hs0) (wd_get hs1) h1 h2 h3 h4 h5 hf hlo (by rw [wd_row hs1]; exact kk)
theorem m_iret {v : Int32} {ty : FieldType} (hd : decode (zcc M) pc = .ok (.ireturn, 1)) (hty : zrt M = some ty) (hn : narrow ty (.int v) = .int v) (kk : K v μ ν) : Am l G M pc lv [.int v] μ ν K :=
  z_iret hd hty hn (by cases h : (zrm M).cells <;> rfl) (by cases h : (zrm M).slots <;> rfl) ⟨μ, ν, rfl, kk⟩
theorem m_ret (hd : decode (zcc M) pc = .ok (.return_, 1)) (hty : zrt M = none) (kk : K 0 μ ν) : Am l G M pc lv [] μ ν K :=
  z_ret hd hty (by cases h : (zrm M).cells <;> rfl) (by cases h : (zrm M).slots <;> rfl) ⟨μ, ν, rfl, kk⟩
theorem z_ble0 {a b c : Nat} (h : c = 0) (ha : a = 0) : Nat.ble (a + c) b = true := by subst h; subst ha; cases b <;> rfl
theorem m_callV {ty : FieldType} (hd : decode (zcc M) pc = .ok (.invokevirtual idx, 3)) (hk : zKV (zy M).cls idx M' n) (hR : zR M M') (hrt : zrt M' = some ty) (hz : (zrm M').cells = 0 ∧ (zrm M').slots = 0) (hn : As.length = n) (hst : st0 = As.reverse ++ .ref b :: st) (hs : zsh[b]? = some (.inr (ci, fs))) (hci : zcl[ci]?.map (fun q => q.1) = some (zy M').cls) (h8 : Nat.ble (st.map fun v => v.category).sum 8 = true)
    (hC : Cm l G M' (.ref b :: As) μ ν K') (kk : ∀ r μ' ν', K' r μ' ν' → Am l G M (pc + 3) lv (.int r :: st) μ' ν' K) : Am l G M pc lv st0 μ ν K :=
  z_callV hd hk hR hrt hn hst (wd_get hs) hci h8 (z_ble0 hz.1 rfl) (z_ble0 hz.2 rfl) hC (fun r w' h => by
    obtain ⟨μ', ν', rfl, h⟩ := h
    rw [hz.1, hz.2]
    exact kk r μ' ν' h)
theorem m_callVv (hd : decode (zcc M) pc = .ok (.invokevirtual idx, 3)) (hk : zKV (zy M).cls idx M' n) (hR : zR M M') (hrt : zrt M' = none) (hz : (zrm M').cells = 0 ∧ (zrm M').slots = 0) (hn : As.length = n) (hst : st0 = As.reverse ++ .ref b :: st) (hs : zsh[b]? = some (.inr (ci, fs))) (hci : zcl[ci]?.map (fun q => q.1) = some (zy M').cls) (h8 : Nat.ble (st.map fun v => v.category).sum 8 = true)
    (hC : Cm l G M' (.ref b :: As) μ ν K') (kk : ∀ μ' ν', K' 0 μ' ν' → Am l G M (pc + 3) lv st μ' ν' K) : Am l G M pc lv st0 μ ν K :=
  z_callVv hd hk hR hrt hn hst (wd_get hs) hci h8 (z_ble0 hz.1 rfl) (z_ble0 hz.2 rfl) hC (fun w' h => by
    obtain ⟨μ', ν', rfl, h⟩ := h
    rw [hz.1, hz.2]
    exact kk μ' ν' h)
theorem m_callS {ty : FieldType} (hd : decode (zcc M) pc = .ok (.invokestatic idx, 3)) (hk : zKS (zy M).cls idx M' n) (hR : zR M M') (hrt : zrt M' = some ty) (hz : (zrm M').cells = 0 ∧ (zrm M').slots = 0) (hn : As.length = n) (hst : st0 = As.reverse ++ st) (h8 : Nat.ble (st.map fun v => v.category).sum 8 = true)
    (hC : Cm l G M' As μ ν K') (kk : ∀ r μ' ν', K' r μ' ν' → Am l G M (pc + 3) lv (.int r :: st) μ' ν' K) : Am l G M pc lv st0 μ ν K :=
  z_callS hd hk hR hrt hn hst h8 (z_ble0 hz.1 rfl) (z_ble0 hz.2 rfl) hC (fun r w' h => by
    obtain ⟨μ', ν', rfl, h⟩ := h
    rw [hz.1, hz.2]
    exact kk r μ' ν' h)
theorem m_callSv (hd : decode (zcc M) pc = .ok (.invokestatic idx, 3)) (hk : zKS (zy M).cls idx M' n) (hR : zR M M') (hrt : zrt M' = none) (hz : (zrm M').cells = 0 ∧ (zrm M').slots = 0) (hn : As.length = n) (hst : st0 = As.reverse ++ st) (h8 : Nat.ble (st.map fun v => v.category).sum 8 = true)
    (hC : Cm l G M' As μ ν K') (kk : ∀ μ' ν', K' 0 μ' ν' → Am l G M (pc + 3) lv st μ' ν' K) : Am l G M pc lv st0 μ ν K :=
  z_callSv hd hk hR hrt hn hst h8 (z_ble0 hz.1 rfl) (z_ble0 hz.2 rfl) hC (fun w' h => by
    obtain ⟨μ', ν', rfl, h⟩ := h
    rw [hz.1, hz.2]
    exact kk μ' ν' h)
theorem Am.mono (h : Am l G M pc lv st μ ν K) (hK : ∀ r μ' ν', K r μ' ν' → K' r μ' ν') : Am l G M pc lv st μ ν K' := by
  intro p e s m args below meth c H locs ls Q C R hH hl
  refine h p e s m args below meth c H locs ls Q C (fun H locs cells slots w pc ls a1 a2 a3 => ?_) hH hl
  have up : ∀ v w, zK K v w → zK K' v w := fun v w hq => by
    obtain ⟨μ', ν', e, hq⟩ := hq
    exact ⟨μ', ν', e, hK _ _ _ hq⟩
  have hR := R H locs cells slots w pc ls a1 a2 a3
  exact ⟨fun v ty hq => hR.1 v ty (up _ _ hq), fun hq => hR.2 (up _ _ hq)⟩
/-- a counted loop, from its head: what holds of the next turn's head gives it of this one's -/
theorem m_for {N : Nat} (lv' : Nat → List (Nat × Value)) (μ' : Nat → Mem) (hstep : ∀ i, i < N → Am l G M pc (lv' (i + 1)) [] (μ' (i + 1)) ν K → Am l G M pc (lv' i) [] (μ' i) ν K) (hend : Am l G M pc (lv' N) [] (μ' N) ν K) : ∀ i, i ≤ N → Am l G M pc (lv' i) [] (μ' i) ν K := by
  have h : ∀ d i, i + d = N → Am l G M pc (lv' i) [] (μ' i) ν K := by
    intro d
    induction d with
    | zero => intro i hi; rw [Nat.add_zero] at hi; subst hi; exact hend
    | succ d ih => intro i hi; exact hstep i (by omega) (ih (i + 1) (by omega))
  intro i hi
  exact h (N - i) i (by omega)
end ZMM
theorem sh0 : zsh[0]? = some (.inr (9, [.ref 1, .ref 15, .ref 22, .ref 26, .ref 44, .ref 53, .ref 54, .ref 55, .int 0, .long 0, .int 0])) := rfl
theorem sh1 : zsh[1]? = some (.inr (5, [.ref 2, .ref 9, .ref 13, .ref 14, .int 0, .int 0, .int 0, .int 0, .int 0, .int 0, .int 0])) := rfl
theorem sh2 : zsh[2]? = some (.inr (1, [.ref 3, .ref 4, .ref 5, .ref 6, .ref 7, .ref 8, .int 0])) := rfl
theorem sh3 : zsh[3]? = some (.inl (0, 2, .inl zz)) := rfl
theorem sh4 : zsh[4]? = some (.inl (0, 2, .inl zz)) := rfl
theorem sh5 : zsh[5]? = some (.inl (0, 6, .inl zz)) := rfl
theorem sh6 : zsh[6]? = some (.inl (0, 6, .inl zz)) := rfl
theorem sh7 : zsh[7]? = some (.inl (0, 6, .inl zz)) := rfl
theorem sh8 : zsh[8]? = some (.inl (0, 6, .inl zz)) := rfl
theorem sh9 : zsh[9]? = some (.inr (4, [.ref 10, .ref 11, .ref 12, .int 0, .int 0])) := rfl
theorem sh10 : zsh[10]? = some (.inl (0, 6, .inl zz)) := rfl
theorem sh11 : zsh[11]? = some (.inl (0, 6, .inl zz)) := rfl
theorem sh12 : zsh[12]? = some (.inl (0, 6, .inl zz)) := rfl
theorem sh13 : zsh[13]? = some (.inl (0, 250, .inl zz)) := rfl
theorem sh14 : zsh[14]? = some (.inl (0, 2, .inl zz)) := rfl
theorem sh15 : zsh[15]? = some (.inr (1, [.ref 16, .ref 17, .ref 18, .ref 19, .ref 20, .ref 21, .int 0])) := rfl
theorem sh16 : zsh[16]? = some (.inl (0, 2, .inl zz)) := rfl
theorem sh17 : zsh[17]? = some (.inl (0, 2, .inl zz)) := rfl
theorem sh18 : zsh[18]? = some (.inl (0, 6, .inl zz)) := rfl
theorem sh19 : zsh[19]? = some (.inl (0, 6, .inl zz)) := rfl
theorem sh20 : zsh[20]? = some (.inl (0, 6, .inl zz)) := rfl
theorem sh21 : zsh[21]? = some (.inl (0, 6, .inl zz)) := rfl
theorem sh22 : zsh[22]? = some (.inr (4, [.ref 23, .ref 24, .ref 25, .int 0, .int 0])) := rfl
theorem sh23 : zsh[23]? = some (.inl (0, 6, .inl zz)) := rfl
theorem sh24 : zsh[24]? = some (.inl (0, 6, .inl zz)) := rfl
theorem sh25 : zsh[25]? = some (.inl (0, 6, .inl zz)) := rfl
theorem sh26 : zsh[26]? = some (.inr (0, [.ref 15, .ref 27, .ref 28, .ref 29])) := rfl
theorem sh27 : zsh[27]? = some (.inl (4, 2, .inr (fun j => [some 30, some 34].getD j none))) := rfl
theorem sh28 : zsh[28]? = some (.inl (3, 6, .inr (fun j => [some 38, some 39, some 40, some 41, some 42, some 43].getD j none))) := rfl
theorem sh29 : zsh[29]? = some (.inl (0, 6, .inl zz)) := rfl
theorem sh30 : zsh[30]? = some (.inr (7, [.ref 31, .ref 32, .ref 33, .int 0, .int 0, .int 0, .int 0, .int 0])) := rfl
theorem sh31 : zsh[31]? = some (.inl (0, 2, .inl zz)) := rfl
theorem sh32 : zsh[32]? = some (.inl (0, 2, .inl zz)) := rfl
theorem sh33 : zsh[33]? = some (.inl (0, 2, .inl zz)) := rfl
theorem sh34 : zsh[34]? = some (.inr (7, [.ref 35, .ref 36, .ref 37, .int 0, .int 0, .int 0, .int 0, .int 0])) := rfl
theorem sh35 : zsh[35]? = some (.inl (0, 2, .inl zz)) := rfl
theorem sh36 : zsh[36]? = some (.inl (0, 2, .inl zz)) := rfl
theorem sh37 : zsh[37]? = some (.inl (0, 2, .inl zz)) := rfl
theorem sh38 : zsh[38]? = some (.inr (3, [.int 0, .int 0, .int 0, .int 0, .int 0, .int 0])) := rfl
theorem sh39 : zsh[39]? = some (.inr (3, [.int 0, .int 0, .int 0, .int 0, .int 0, .int 0])) := rfl
theorem sh40 : zsh[40]? = some (.inr (3, [.int 0, .int 0, .int 0, .int 0, .int 0, .int 0])) := rfl
theorem sh41 : zsh[41]? = some (.inr (3, [.int 0, .int 0, .int 0, .int 0, .int 0, .int 0])) := rfl
theorem sh42 : zsh[42]? = some (.inr (3, [.int 0, .int 0, .int 0, .int 0, .int 0, .int 0])) := rfl
theorem sh43 : zsh[43]? = some (.inr (3, [.int 0, .int 0, .int 0, .int 0, .int 0, .int 0])) := rfl
theorem sh44 : zsh[44]? = some (.inr (8, [.ref 15, .ref 22, .ref 26, .ref 45, .ref 49, .int 0, .int 0])) := rfl
theorem sh45 : zsh[45]? = some (.inr (4, [.ref 46, .ref 47, .ref 48, .int 0, .int 0])) := rfl
theorem sh46 : zsh[46]? = some (.inl (0, 6, .inl zz)) := rfl
theorem sh47 : zsh[47]? = some (.inl (0, 6, .inl zz)) := rfl
theorem sh48 : zsh[48]? = some (.inl (0, 6, .inl zz)) := rfl
theorem sh49 : zsh[49]? = some (.inr (6, [.ref 50, .ref 51, .ref 52, .int 0])) := rfl
theorem sh50 : zsh[50]? = some (.inl (0, 6, .inl zz)) := rfl
theorem sh51 : zsh[51]? = some (.inl (0, 6, .inl zz)) := rfl
theorem sh52 : zsh[52]? = some (.inl (0, 6, .inl zz)) := rfl
theorem sh53 : zsh[53]? = some (.inl (2, 2, .inr (fun j => [some 56, some 61].getD j none))) := rfl
theorem sh54 : zsh[54]? = some (.inl (0, 20, .inl zz)) := rfl
theorem sh55 : zsh[55]? = some (.inl (0, 20, .inl zz)) := rfl
theorem sh56 : zsh[56]? = some (.inr (2, [.ref 57, .long 0, .int 0])) := rfl
theorem sh57 : zsh[57]? = some (.inr (4, [.ref 58, .ref 59, .ref 60, .int 0, .int 0])) := rfl
theorem sh58 : zsh[58]? = some (.inl (0, 6, .inl zz)) := rfl
theorem sh59 : zsh[59]? = some (.inl (0, 6, .inl zz)) := rfl
theorem sh60 : zsh[60]? = some (.inl (0, 6, .inl zz)) := rfl
theorem sh61 : zsh[61]? = some (.inr (2, [.ref 62, .long 0, .int 0])) := rfl
theorem sh62 : zsh[62]? = some (.inr (4, [.ref 63, .ref 64, .ref 65, .int 0, .int 0])) := rfl
theorem sh63 : zsh[63]? = some (.inl (0, 6, .inl zz)) := rfl
theorem sh64 : zsh[64]? = some (.inl (0, 6, .inl zz)) := rfl
theorem sh65 : zsh[65]? = some (.inl (0, 6, .inl zz)) := rfl
theorem sh66 : zsh[66]? = some (.inr (10, [.int 0, .ref 67, .int 0, .int 0, .int 0, .int 0, .int 0, .int 0, .int 0, .ref 68, .ref 69, .int 0, .int 0, .int 0, .int 0, .int 0, .ref 70, .int 0, .ref 71, .ref 72, .ref 73, .ref 74, .ref 75, .ref 76, .ref 77, .ref 78, .ref 79, .ref 80, .ref 81, .ref 82, .ref 83, .ref 84, .ref 85, .ref 86, .ref 87, .ref 88, .ref 89, .ref 90, .int 0, .int 0, .ref 91, .ref 92, .ref 93, .ref 94, .ref 95, .int 0, .ref 96])) := rfl
theorem sh67 : zsh[67]? = some (.inl (0, 250, .inl zz)) := rfl
theorem sh68 : zsh[68]? = some (.inl (0, 42, .inl zz)) := rfl
theorem sh69 : zsh[69]? = some (.inl (0, 4, .inl zz)) := rfl
theorem sh70 : zsh[70]? = some (.inl (0, 4, .inl zz)) := rfl
theorem sh71 : zsh[71]? = some (.inl (0, 6, .inl zz)) := rfl
theorem sh72 : zsh[72]? = some (.inl (0, 6, .inl zz)) := rfl
theorem sh73 : zsh[73]? = some (.inl (0, 6, .inl zz)) := rfl
theorem sh74 : zsh[74]? = some (.inl (0, 6, .inl zz)) := rfl
theorem sh75 : zsh[75]? = some (.inl (0, 21, .inl zz)) := rfl
theorem sh76 : zsh[76]? = some (.inl (0, 42, .inl zz)) := rfl
theorem sh77 : zsh[77]? = some (.inl (1, 2, .inl zz)) := rfl
theorem sh78 : zsh[78]? = some (.inl (0, 6, .inl zz)) := rfl
theorem sh79 : zsh[79]? = some (.inl (0, 6, .inl zz)) := rfl
theorem sh80 : zsh[80]? = some (.inl (0, 6, .inl zz)) := rfl
theorem sh81 : zsh[81]? = some (.inl (0, 6, .inl zz)) := rfl
theorem sh82 : zsh[82]? = some (.inl (0, 6, .inl zz)) := rfl
theorem sh83 : zsh[83]? = some (.inl (1, 6, .inl zz)) := rfl
theorem sh84 : zsh[84]? = some (.inl (0, 4, .inl zz)) := rfl
theorem sh85 : zsh[85]? = some (.inl (0, 4, .inl zz)) := rfl
theorem sh86 : zsh[86]? = some (.inl (0, 2, .inl zz)) := rfl
theorem sh87 : zsh[87]? = some (.inl (0, 2, .inl zz)) := rfl
theorem sh88 : zsh[88]? = some (.inl (0, 2, .inl zz)) := rfl
theorem sh89 : zsh[89]? = some (.inl (0, 2, .inl zz)) := rfl
theorem sh90 : zsh[90]? = some (.inl (0, 4, .inl zz)) := rfl
theorem sh91 : zsh[91]? = some (.inl (0, 21, .inl zz)) := rfl
theorem sh92 : zsh[92]? = some (.inl (0, 6, .inl zz)) := rfl
theorem sh93 : zsh[93]? = some (.inl (0, 6, .inl zz)) := rfl
theorem sh94 : zsh[94]? = some (.inl (0, 6, .inl zz)) := rfl
theorem sh95 : zsh[95]? = some (.inl (0, 6, .inl zz)) := rfl
theorem sh96 : zsh[96]? = some (.inl (0, 40, .inl zz)) := rfl
end
section
abbrev mJ7_fill_53178 : zM := (yJ7_fill_53178, cJ7_fill_53178, 4, none, { frames := 0, cells := 0, slots := 0, locals := 0 })
abbrev mX0_howMany : zM := (yX0_howMany, cX0_howMany, 4, some .int, { frames := 0, cells := 0, slots := 0, locals := 0 })
abbrev mX0_isHeard : zM := (yX0_isHeard, cX0_isHeard, 6, some .boolean, { frames := 0, cells := 0, slots := 0, locals := 0 })
abbrev mX0_lineUp : zM := (yX0_lineUp, cX0_lineUp, 4, none, { frames := 0, cells := 0, slots := 0, locals := 0 })
abbrev mX0_losses : zM := (yX0_losses, cX0_losses, 3, some .int, { frames := 0, cells := 0, slots := 0, locals := 0 })
abbrev mX0_seconds : zM := (yX0_seconds, cX0_seconds, 3, some .int, { frames := 0, cells := 0, slots := 0, locals := 0 })
abbrev mX10_becomes : zM := (yX10_becomes, cX10_becomes, 4, some .int, { frames := 0, cells := 0, slots := 0, locals := 0 })
abbrev mX10_draw : zM := (yX10_draw, cX10_draw, 4, some .int, { frames := 0, cells := 0, slots := 0, locals := 0 })
abbrev mX10_fails : zM := (yX10_fails, cX10_fails, 2, some .boolean, { frames := 0, cells := 0, slots := 0, locals := 0 })
abbrev mX10_fault : zM := (yX10_fault, cX10_fault, 1, some .int, { frames := 0, cells := 0, slots := 0, locals := 0 })
abbrev mX10_hold : zM := (yX10_hold, cX10_hold, 2, none, { frames := 0, cells := 0, slots := 0, locals := 0 })
abbrev mX10_in : zM := (yX10_in, cX10_in, 3, some .boolean, { frames := 0, cells := 0, slots := 0, locals := 0 })
abbrev mX10_isBusy : zM := (yX10_isBusy, cX10_isBusy, 4, some .boolean, { frames := 0, cells := 0, slots := 0, locals := 0 })
abbrev mX10_layPlaces : zM := (yX10_layPlaces, cX10_layPlaces, 5, some .int, { frames := 0, cells := 0, slots := 0, locals := 0 })
abbrev mX10_lose : zM := (yX10_lose, cX10_lose, 2, none, { frames := 0, cells := 0, slots := 0, locals := 0 })
abbrev mX10_loss : zM := (yX10_loss, cX10_loss, 5, some .int, { frames := 0, cells := 0, slots := 0, locals := 0 })
abbrev mX10_release : zM := (yX10_release, cX10_release, 2, none, { frames := 0, cells := 0, slots := 0, locals := 0 })
abbrev mX10_swing : zM := (yX10_swing, cX10_swing, 4, some .int, { frames := 0, cells := 0, slots := 0, locals := 0 })
abbrev mX10_tear : zM := (yX10_tear, cX10_tear, 2, some .int, { frames := 0, cells := 0, slots := 0, locals := 0 })
abbrev mX10_widen : zM := (yX10_widen, cX10_widen, 6, none, { frames := 0, cells := 0, slots := 0, locals := 0 })
abbrev mX3_crash : zM := (yX3_crash, cX3_crash, 1, none, { frames := 0, cells := 0, slots := 0, locals := 0 })
abbrev mX4_makeUntold : zM := (yX4_makeUntold, cX4_makeUntold, 1, none, { frames := 0, cells := 0, slots := 0, locals := 0 })
abbrev mX5_fail : zM := (yX5_fail, cX5_fail, 3, none, { frames := 0, cells := 0, slots := 0, locals := 0 })
abbrev mX5_figureAt : zM := (yX5_figureAt, cX5_figureAt, 2, some .boolean, { frames := 0, cells := 0, slots := 0, locals := 0 })
abbrev mX5_skipBlanks : zM := (yX5_skipBlanks, cX5_skipBlanks, 2, none, { frames := 0, cells := 0, slots := 0, locals := 0 })
abbrev mX5_take : zM := (yX5_take, cX5_take, 2, some .int, { frames := 0, cells := 0, slots := 0, locals := 0 })
abbrev mX6_bringForward : zM := (yX6_bringForward, cX6_bringForward, 5, none, { frames := 0, cells := 0, slots := 0, locals := 0 })
abbrev mX6_giveTenths : zM := (yX6_giveTenths, cX6_giveTenths, 3, none, { frames := 0, cells := 0, slots := 0, locals := 0 })
abbrev mX6_insertTenth : zM := (yX6_insertTenth, cX6_insertTenth, 3, none, { frames := 0, cells := 0, slots := 0, locals := 0 })
abbrev mX6_orders : zM := (yX6_orders, cX6_orders, 1, some .int, { frames := 0, cells := 0, slots := 0, locals := 0 })
abbrev mX7_busyFor : zM := (yX7_busyFor, cX7_busyFor, 3, some .boolean, { frames := 0, cells := 0, slots := 0, locals := 0 })
abbrev mX7_comesBackAt : zM := (yX7_comesBackAt, cX7_comesBackAt, 2, some .boolean, { frames := 0, cells := 0, slots := 0, locals := 0 })
abbrev mX7_openAt : zM := (yX7_openAt, cX7_openAt, 2, some .boolean, { frames := 0, cells := 0, slots := 0, locals := 0 })
abbrev mX7_takeKick : zM := (yX7_takeKick, cX7_takeKick, 4, none, { frames := 0, cells := 0, slots := 0, locals := 0 })
abbrev mX8_changeAt : zM := (yX8_changeAt, cX8_changeAt, 5, none, { frames := 0, cells := 0, slots := 0, locals := 0 })
abbrev mX8_lossOf : zM := (yX8_lossOf, cX8_lossOf, 5, some .int, { frames := 0, cells := 0, slots := 0, locals := 0 })
abbrev mX8_oneComesAt : zM := (yX8_oneComesAt, cX8_oneComesAt, 3, some .boolean, { frames := 0, cells := 0, slots := 0, locals := 0 })
abbrev mX8_spellRules : zM := (yX8_spellRules, cX8_spellRules, 4, none, { frames := 0, cells := 0, slots := 0, locals := 0 })
abbrev mX9_commonDivisor : zM := (yX9_commonDivisor, cX9_commonDivisor, 6, some .int, { frames := 0, cells := 0, slots := 0, locals := 0 })
abbrev mX9_drawOf : zM := (yX9_drawOf, cX9_drawOf, 2, some .int, { frames := 0, cells := 0, slots := 0, locals := 0 })
abbrev mX9_fault : zM := (yX9_fault, cX9_fault, 1, some .int, { frames := 0, cells := 0, slots := 0, locals := 0 })
abbrev mX9_glass : zM := (yX9_glass, cX9_glass, 3, some .int, { frames := 0, cells := 0, slots := 0, locals := 0 })
abbrev mX9_noImage : zM := (yX9_noImage, cX9_noImage, 1, some .boolean, { frames := 0, cells := 0, slots := 0, locals := 0 })
abbrev mX9_noLeaf : zM := (yX9_noLeaf, cX9_noLeaf, 1, some .boolean, { frames := 0, cells := 0, slots := 0, locals := 0 })
abbrev mX9_noRule : zM := (yX9_noRule, cX9_noRule, 1, some .boolean, { frames := 0, cells := 0, slots := 0, locals := 0 })
abbrev mX9_noSide : zM := (yX9_noSide, cX9_noSide, 1, some .boolean, { frames := 0, cells := 0, slots := 0, locals := 0 })
abbrev mX9_noWaiter : zM := (yX9_noWaiter, cX9_noWaiter, 2, some .boolean, { frames := 0, cells := 0, slots := 0, locals := 0 })
abbrev mX9_noise : zM := (yX9_noise, cX9_noise, 3, some .int, { frames := 0, cells := 0, slots := 0, locals := 0 })
abbrev mX9_seed : zM := (yX9_seed, cX9_seed, 3, some .int, { frames := 0, cells := 0, slots := 0, locals := 0 })
abbrev mX9_tear : zM := (yX9_tear, cX9_tear, 2, some .int, { frames := 0, cells := 0, slots := 0, locals := 0 })
abbrev mX9_until : zM := (yX9_until, cX9_until, 8, some .int, { frames := 0, cells := 0, slots := 0, locals := 0 })
abbrev mX0_crashBoth : zM := (yX0_crashBoth, cX0_crashBoth, 3, none, { frames := 1, cells := 0, slots := 0, locals := 20 })
abbrev mX9_feed : zM := (yX9_feed, cX9_feed, 2, some .int, { frames := 1, cells := 0, slots := 0, locals := 21 })
abbrev mX9_put : zM := (yX9_put, cX9_put, 7, some .int, { frames := 1, cells := 0, slots := 0, locals := 21 })
abbrev mX9_waiter : zM := (yX9_waiter, cX9_waiter, 3, some .int, { frames := 1, cells := 0, slots := 0, locals := 21 })
abbrev mX9_write : zM := (yX9_write, cX9_write, 3, some .int, { frames := 1, cells := 0, slots := 0, locals := 21 })
abbrev mX0_chooseLeaf : zM := (yX0_chooseLeaf, cX0_chooseLeaf, 6, some .int, { frames := 1, cells := 0, slots := 0, locals := 22 })
abbrev mX0_cost : zM := (yX0_cost, cX0_cost, 1, some .int, { frames := 1, cells := 0, slots := 0, locals := 22 })
abbrev mX10_feed : zM := (yX10_feed, cX10_feed, 2, some .int, { frames := 1, cells := 0, slots := 0, locals := 22 })
abbrev mX10_goBack : zM := (yX10_goBack, cX10_goBack, 3, some .int, { frames := 1, cells := 0, slots := 0, locals := 22 })
abbrev mX10_isHeard : zM := (yX10_isHeard, cX10_isHeard, 4, some .boolean, { frames := 1, cells := 0, slots := 0, locals := 22 })
abbrev mX10_isOne : zM := (yX10_isOne, cX10_isOne, 2, some .boolean, { frames := 1, cells := 0, slots := 0, locals := 22 })
abbrev mX10_keep : zM := (yX10_keep, cX10_keep, 3, some .int, { frames := 1, cells := 0, slots := 0, locals := 22 })
abbrev mX10_nextToken : zM := (yX10_nextToken, cX10_nextToken, 1, none, { frames := 1, cells := 0, slots := 0, locals := 22 })
abbrev mX10_stack : zM := (yX10_stack, cX10_stack, 6, some .int, { frames := 1, cells := 0, slots := 0, locals := 22 })
abbrev mX10_unheard : zM := (yX10_unheard, cX10_unheard, 9, some .int, { frames := 1, cells := 0, slots := 0, locals := 22 })
abbrev mX10_until : zM := (yX10_until, cX10_until, 8, some .int, { frames := 1, cells := 0, slots := 0, locals := 22 })
abbrev mX5_readEnd : zM := (yX5_readEnd, cX5_readEnd, 1, none, { frames := 1, cells := 0, slots := 0, locals := 22 })
abbrev mX6_gather : zM := (yX6_gather, cX6_gather, 5, none, { frames := 1, cells := 0, slots := 0, locals := 22 })
abbrev mX7_doing : zM := (yX7_doing, cX7_doing, 2, some .int, { frames := 1, cells := 0, slots := 0, locals := 22 })
abbrev mX10_glass : zM := (yX10_glass, cX10_glass, 2, some .int, { frames := 1, cells := 0, slots := 0, locals := 23 })
abbrev mX10_leafFor : zM := (yX10_leafFor, cX10_leafFor, 6, some .int, { frames := 1, cells := 0, slots := 0, locals := 23 })
abbrev mX10_noise : zM := (yX10_noise, cX10_noise, 2, some .int, { frames := 1, cells := 0, slots := 0, locals := 23 })
abbrev mX10_seed : zM := (yX10_seed, cX10_seed, 2, some .int, { frames := 1, cells := 0, slots := 0, locals := 23 })
abbrev mX1_makeUntold : zM := (yX1_makeUntold, cX1_makeUntold, 1, none, { frames := 1, cells := 0, slots := 0, locals := 23 })
abbrev mX7_rest : zM := (yX7_rest, cX7_rest, 1, none, { frames := 1, cells := 0, slots := 0, locals := 23 })
abbrev mX8_restingPairs : zM := (yX8_restingPairs, cX8_restingPairs, 8, some .int, { frames := 1, cells := 0, slots := 0, locals := 24 })
abbrev mX10_crash : zM := (yX10_crash, cX10_crash, 5, none, { frames := 1, cells := 0, slots := 0, locals := 25 })
abbrev mX10_goThrough : zM := (yX10_goThrough, cX10_goThrough, 8, none, { frames := 1, cells := 0, slots := 0, locals := 25 })
abbrev mX9_unheard : zM := (yX9_unheard, cX9_unheard, 7, some .int, { frames := 1, cells := 0, slots := 0, locals := 25 })
abbrev mX0_end : zM := (yX0_end, cX0_end, 3, some .int, { frames := 1, cells := 0, slots := 0, locals := 40 })
abbrev mX0_goThrough : zM := (yX0_goThrough, cX0_goThrough, 7, none, { frames := 1, cells := 0, slots := 0, locals := 40 })
abbrev mX10_init : zM := (yX10_init, cX10_init, 1, none, { frames := 1, cells := 30, slots := 700, locals := 40 })
abbrev mX1_copyFrom : zM := (yX1_copyFrom, cX1_copyFrom, 2, none, { frames := 1, cells := 0, slots := 0, locals := 40 })
abbrev mX3_init : zM := (yX3_init, cX3_init, 1, none, { frames := 1, cells := 0, slots := 0, locals := 40 })
abbrev mX4_copyFrom : zM := (yX4_copyFrom, cX4_copyFrom, 2, none, { frames := 1, cells := 0, slots := 0, locals := 40 })
abbrev mX4_init : zM := (yX4_init, cX4_init, 1, none, { frames := 1, cells := 3, slots := 18, locals := 40 })
abbrev mX5_readNumber : zM := (yX5_readNumber, cX5_readNumber, 5, some .int, { frames := 1, cells := 0, slots := 0, locals := 40 })
abbrev mX6_init : zM := (yX6_init, cX6_init, 1, none, { frames := 1, cells := 3, slots := 18, locals := 40 })
abbrev mX6_seatBy : zM := (yX6_seatBy, cX6_seatBy, 5, none, { frames := 1, cells := 0, slots := 0, locals := 40 })
abbrev mX7_init : zM := (yX7_init, cX7_init, 1, none, { frames := 1, cells := 3, slots := 6, locals := 40 })
abbrev mX7_letThrough : zM := (yX7_letThrough, cX7_letThrough, 5, none, { frames := 1, cells := 0, slots := 0, locals := 40 })
abbrev mX9_carried : zM := (yX9_carried, cX9_carried, 2, some .int, { frames := 1, cells := 0, slots := 0, locals := 40 })
abbrev mX10_isEnd : zM := (yX10_isEnd, cX10_isEnd, 1, some .boolean, { frames := 2, cells := 0, slots := 0, locals := 42 })
abbrev mX10_isNumber : zM := (yX10_isNumber, cX10_isNumber, 3, some .boolean, { frames := 2, cells := 0, slots := 0, locals := 42 })
abbrev mX10_come : zM := (yX10_come, cX10_come, 3, some .int, { frames := 2, cells := 0, slots := 0, locals := 43 })
abbrev mX10_kick : zM := (yX10_kick, cX10_kick, 3, some .int, { frames := 2, cells := 0, slots := 0, locals := 43 })
abbrev mX10_rests : zM := (yX10_rests, cX10_rests, 7, some .int, { frames := 2, cells := 0, slots := 0, locals := 43 })
abbrev mX10_rule : zM := (yX10_rule, cX10_rule, 3, some .int, { frames := 2, cells := 0, slots := 0, locals := 43 })
abbrev mX10_waiter : zM := (yX10_waiter, cX10_waiter, 3, some .int, { frames := 2, cells := 0, slots := 0, locals := 43 })
abbrev mX10_write : zM := (yX10_write, cX10_write, 3, some .int, { frames := 2, cells := 0, slots := 0, locals := 43 })
abbrev mX1_init : zM := (yX1_init, cX1_init, 1, none, { frames := 2, cells := 6, slots := 28, locals := 43 })
abbrev mX9_come : zM := (yX9_come, cX9_come, 3, some .int, { frames := 2, cells := 0, slots := 0, locals := 47 })
abbrev mX9_kick : zM := (yX9_kick, cX9_kick, 3, some .int, { frames := 2, cells := 0, slots := 0, locals := 47 })
abbrev mX9_rule : zM := (yX9_rule, cX9_rule, 3, some .int, { frames := 2, cells := 0, slots := 0, locals := 47 })
abbrev mX9_rests : zM := (yX9_rests, cX9_rests, 3, some .int, { frames := 2, cells := 0, slots := 0, locals := 51 })
abbrev mX10_look : zM := (yX10_look, cX10_look, 6, none, { frames := 2, cells := 0, slots := 0, locals := 52 })
abbrev mX0_init : zM := (yX0_init, cX0_init, 3, none, { frames := 2, cells := 17, slots := 78, locals := 60 })
abbrev mX2_init : zM := (yX2_init, cX2_init, 1, none, { frames := 2, cells := 4, slots := 23, locals := 60 })
abbrev mX8_init : zM := (yX8_init, cX8_init, 4, none, { frames := 2, cells := 8, slots := 45, locals := 60 })
abbrev mX8_startSearch : zM := (yX8_startSearch, cX8_startSearch, 1, none, { frames := 2, cells := 0, slots := 0, locals := 61 })
abbrev mX9_goBack : zM := (yX9_goBack, cX9_goBack, 2, some .int, { frames := 2, cells := 0, slots := 0, locals := 61 })
abbrev mX9_keep : zM := (yX9_keep, cX9_keep, 2, some .int, { frames := 2, cells := 0, slots := 0, locals := 61 })
abbrev mX9_stack : zM := (yX9_stack, cX9_stack, 4, some .int, { frames := 2, cells := 0, slots := 0, locals := 61 })
abbrev mX5_readLeaf : zM := (yX5_readLeaf, cX5_readLeaf, 2, none, { frames := 2, cells := 0, slots := 0, locals := 64 })
abbrev mX5_readNoise : zM := (yX5_readNoise, cX5_readNoise, 1, none, { frames := 2, cells := 0, slots := 0, locals := 64 })
abbrev mX5_readWaiter : zM := (yX5_readWaiter, cX5_readWaiter, 2, none, { frames := 2, cells := 0, slots := 0, locals := 64 })
abbrev mX5_readWindow : zM := (yX5_readWindow, cX5_readWindow, 1, none, { frames := 2, cells := 0, slots := 0, locals := 64 })
abbrev mX0_lookAt : zM := (yX0_lookAt, cX0_lookAt, 10, none, { frames := 2, cells := 0, slots := 0, locals := 66 })
abbrev mX5_init : zM := (yX5_init, cX5_init, 1, none, { frames := 3, cells := 13, slots := 310, locals := 63 })
abbrev mX10_isGlassLine : zM := (yX10_isGlassLine, cX10_isGlassLine, 1, some .boolean, { frames := 3, cells := 0, slots := 0, locals := 64 })
abbrev mX10_isLeafLine : zM := (yX10_isLeafLine, cX10_isLeafLine, 2, some .boolean, { frames := 3, cells := 0, slots := 0, locals := 64 })
abbrev mX10_isNoiseLine : zM := (yX10_isNoiseLine, cX10_isNoiseLine, 1, some .boolean, { frames := 3, cells := 0, slots := 0, locals := 64 })
abbrev mX10_isWaiterLine : zM := (yX10_isWaiterLine, cX10_isWaiterLine, 5, some .boolean, { frames := 3, cells := 0, slots := 0, locals := 64 })
abbrev mX10_costNow : zM := (yX10_costNow, cX10_costNow, 6, some .int, { frames := 3, cells := 0, slots := 0, locals := 77 })
abbrev mX5_readClause : zM := (yX5_readClause, cX5_readClause, 2, none, { frames := 3, cells := 0, slots := 0, locals := 85 })
abbrev mX0_run : zM := (yX0_run, cX0_run, 3, none, { frames := 3, cells := 0, slots := 0, locals := 95 })
abbrev mX9_init : zM := (yX9_init, cX9_init, 2, none, { frames := 4, cells := 65, slots := 607, locals := 83 })
abbrev mX10_isRead : zM := (yX10_isRead, cX10_isRead, 2, some .boolean, { frames := 4, cells := 0, slots := 0, locals := 88 })
abbrev mX10_all : zM := (yX10_all, cX10_all, 3, some .int, { frames := 4, cells := 0, slots := 0, locals := 102 })
abbrev mX10_apart : zM := (yX10_apart, cX10_apart, 6, some .int, { frames := 4, cells := 0, slots := 0, locals := 102 })
abbrev mX10_best : zM := (yX10_best, cX10_best, 8, some .int, { frames := 4, cells := 0, slots := 0, locals := 102 })
abbrev mX10_bestKick : zM := (yX10_bestKick, cX10_bestKick, 8, some .int, { frames := 4, cells := 0, slots := 0, locals := 102 })
abbrev mX10_change : zM := (yX10_change, cX10_change, 9, some .int, { frames := 4, cells := 0, slots := 0, locals := 102 })
abbrev mX10_drift : zM := (yX10_drift, cX10_drift, 5, some .int, { frames := 4, cells := 0, slots := 0, locals := 102 })
abbrev mX10_judge : zM := (yX10_judge, cX10_judge, 2, some .int, { frames := 4, cells := 0, slots := 0, locals := 102 })
abbrev mX10_leaf : zM := (yX10_leaf, cX10_leaf, 3, some .int, { frames := 4, cells := 0, slots := 0, locals := 102 })
abbrev mX10_leafAt : zM := (yX10_leafAt, cX10_leafAt, 3, some .int, { frames := 4, cells := 0, slots := 0, locals := 102 })
abbrev mX10_learns : zM := (yX10_learns, cX10_learns, 4, some .int, { frames := 4, cells := 0, slots := 0, locals := 102 })
abbrev mX10_order : zM := (yX10_order, cX10_order, 13, some .int, { frames := 4, cells := 0, slots := 0, locals := 102 })
abbrev mX10_pass : zM := (yX10_pass, cX10_pass, 3, some .int, { frames := 4, cells := 0, slots := 0, locals := 102 })
abbrev mX10_told : zM := (yX10_told, cX10_told, 7, some .int, { frames := 4, cells := 0, slots := 0, locals := 102 })
abbrev mX10_worth : zM := (yX10_worth, cX10_worth, 5, some .int, { frames := 4, cells := 0, slots := 0, locals := 102 })
abbrev mX5_read : zM := (yX5_read, cX5_read, 2, none, { frames := 4, cells := 0, slots := 0, locals := 106 })
abbrev mX8_kindOnOtherLeaf : zM := (yX8_kindOnOtherLeaf, cX8_kindOnOtherLeaf, 2, some .int, { frames := 4, cells := 0, slots := 0, locals := 117 })
abbrev mX8_trialCost : zM := (yX8_trialCost, cX8_trialCost, 1, some .int, { frames := 4, cells := 0, slots := 0, locals := 117 })
abbrev mX8_weigh : zM := (yX8_weigh, cX8_weigh, 3, none, { frames := 4, cells := 0, slots := 0, locals := 117 })
abbrev mX9_drift : zM := (yX9_drift, cX9_drift, 5, some .int, { frames := 4, cells := 0, slots := 0, locals := 117 })
abbrev mX9_judge : zM := (yX9_judge, cX9_judge, 2, some .int, { frames := 4, cells := 0, slots := 0, locals := 117 })
abbrev mX9_leaf : zM := (yX9_leaf, cX9_leaf, 3, some .int, { frames := 4, cells := 0, slots := 0, locals := 117 })
abbrev mX9_leafAt : zM := (yX9_leafAt, cX9_leafAt, 3, some .int, { frames := 4, cells := 0, slots := 0, locals := 117 })
abbrev mX9_pass : zM := (yX9_pass, cX9_pass, 4, some .int, { frames := 4, cells := 0, slots := 0, locals := 117 })
abbrev mX9_toldOfEvening : zM := (yX9_toldOfEvening, cX9_toldOfEvening, 2, some .int, { frames := 4, cells := 0, slots := 0, locals := 117 })
abbrev mX10_house : zM := (yX10_house, cX10_house, 3, some .int, { frames := 5, cells := 0, slots := 0, locals := 109 })
abbrev mX9_house : zM := (yX9_house, cX9_house, 2, some .int, { frames := 5, cells := 0, slots := 0, locals := 127 })
abbrev mX8_allBy : zM := (yX8_allBy, cX8_allBy, 2, some .int, { frames := 5, cells := 0, slots := 0, locals := 137 })
abbrev mX8_quietSaves : zM := (yX8_quietSaves, cX8_quietSaves, 2, some .int, { frames := 5, cells := 0, slots := 0, locals := 137 })
abbrev mX8_spread : zM := (yX8_spread, cX8_spread, 4, some .int, { frames := 5, cells := 0, slots := 0, locals := 137 })
abbrev mX8_windowSaves : zM := (yX8_windowSaves, cX8_windowSaves, 2, some .int, { frames := 5, cells := 0, slots := 0, locals := 137 })
abbrev mX9_learns : zM := (yX9_learns, cX9_learns, 4, some .int, { frames := 5, cells := 0, slots := 0, locals := 138 })
abbrev mX9_told : zM := (yX9_told, cX9_told, 2, some .int, { frames := 5, cells := 0, slots := 0, locals := 138 })
abbrev mX8_bestOrder : zM := (yX8_bestOrder, cX8_bestOrder, 4, some .int, { frames := 5, cells := 0, slots := 0, locals := 139 })
abbrev mX8_bestRules : zM := (yX8_bestRules, cX8_bestRules, 4, some .int, { frames := 5, cells := 0, slots := 0, locals := 139 })
abbrev mX8_findChange : zM := (yX8_findChange, cX8_findChange, 4, none, { frames := 5, cells := 0, slots := 0, locals := 139 })
abbrev mX8_findKick : zM := (yX8_findKick, cX8_findKick, 3, none, { frames := 5, cells := 0, slots := 0, locals := 139 })
abbrev mX9_all : zM := (yX9_all, cX9_all, 2, some .int, { frames := 6, cells := 0, slots := 0, locals := 158 })
abbrev mX9_worth : zM := (yX9_worth, cX9_worth, 3, some .int, { frames := 6, cells := 0, slots := 0, locals := 158 })
abbrev mX9_apart : zM := (yX9_apart, cX9_apart, 3, some .int, { frames := 6, cells := 0, slots := 0, locals := 160 })
abbrev mX9_bestKick : zM := (yX9_bestKick, cX9_bestKick, 3, some .int, { frames := 6, cells := 0, slots := 0, locals := 161 })
abbrev mX9_best : zM := (yX9_best, cX9_best, 2, some .int, { frames := 6, cells := 0, slots := 0, locals := 162 })
abbrev mX9_change : zM := (yX9_change, cX9_change, 4, some .int, { frames := 6, cells := 0, slots := 0, locals := 162 })
abbrev mX9_order : zM := (yX9_order, cX9_order, 3, some .int, { frames := 6, cells := 0, slots := 0, locals := 162 })
abbrev mL_law : zM := (yL_law, cL_law, 4, some .boolean, room_1)
theorem wIniMath : Cond.initialized "java/lang/Math" ∈ zT := zT_mem (i := 13) (by decide +kernel) rfl
theorem wIniSys : Cond.initialized "java/lang/System" ∈ zT := zT_mem (i := 14) (by decide +kernel) rfl
theorem wSt_max : Cond.static Lib.Math.max.name ∈ zT := zT_mem (i := 522) (by decide +kernel) rfl
theorem wCo_max : Cond.code Lib.Math.max.name Lib.Math.max.code 2 (some .int) ∈ zT := zT_mem (i := 523) (by decide +kernel) rfl
theorem wSt_min : Cond.static Lib.Math.min.name ∈ zT := zT_mem (i := 434) (by decide +kernel) rfl
theorem wCo_min : Cond.code Lib.Math.min.name Lib.Math.min.code 2 (some .int) ∈ zT := zT_mem (i := 435) (by decide +kernel) rfl
theorem wNat_copy : Cond.native arraycopyName ∈ zT := zT_mem (i := 458) (by decide +kernel) rfl
theorem wSt_copy : Cond.static arraycopyName ∈ zT := zT_mem (i := 457) (by decide +kernel) rfl
theorem wIn_obj : Cond.instanceMethod Lib.objectInit ∈ zT := zT_mem (i := 21) (by decide +kernel) rfl
theorem wCo_obj : Cond.code Lib.objectInit ⟨#[0xb1]⟩ 1 none ∈ zT := zT_mem (i := 22) (by decide +kernel) rfl
theorem wArr_int : Cond.arrayClass .int ∈ zT := zT_mem (i := 90) (by decide +kernel) rfl
theorem wArr_boolean : Cond.arrayClass .boolean ∈ zT := zT_mem (i := 967) (by decide +kernel) rfl
theorem fX0_27 : zF RX0 27 0 0 := zF.mk (RX0, TX0, 4) 259 rfl rfl (by decide +kernel) rfl
theorem fX0_40 : zF RX0 40 1 6 := zF.mk (RX1, TX1, 7) 71 rfl rfl (by decide +kernel) rfl
theorem fX0_19 : zF RX0 19 0 2 := zF.mk (RX0, TX0, 4) 262 rfl rfl (by decide +kernel) rfl
theorem fX0_61 : zF RX0 61 3 0 := zF.mk (RX3, TX3, 6) 228 rfl rfl (by decide +kernel) rfl
theorem fX0_118 : zF RX0 118 1 5 := zF.mk (RX1, TX1, 7) 66 rfl rfl (by decide +kernel) rfl
theorem fX0_50 : zF RX0 50 4 0 := zF.mk (RX4, TX4, 5) 99 rfl rfl (by decide +kernel) rfl
theorem fX0_121 : zF RX0 121 4 4 := zF.mk (RX4, TX4, 5) 120 rfl rfl (by decide +kernel) rfl
theorem fX0_23 : zF RX0 23 0 3 := zF.mk (RX0, TX0, 4) 265 rfl rfl (by decide +kernel) rfl
theorem fX0_64 : zF RX0 64 3 5 := zF.mk (RX3, TX3, 6) 244 rfl rfl (by decide +kernel) rfl
theorem fX0_153 : zF RX0 153 1 4 := zF.mk (RX1, TX1, 7) 63 rfl rfl (by decide +kernel) rfl
theorem fX0_105 : zF RX0 105 3 4 := zF.mk (RX3, TX3, 6) 241 rfl rfl (by decide +kernel) rfl
theorem fX10_38 : zF RX10 38 10 22 := zF.mk (RX10, TX10, 47) 847 rfl rfl (by decide +kernel) rfl
theorem cX10_234 : Cond.constantLong RX10 234 (1103515245) ∈ zT := zT_mem (i := 1111) (by decide +kernel) rfl
theorem cX10_236 : Cond.constantLong RX10 236 (12345) ∈ zT := zT_mem (i := 1112) (by decide +kernel) rfl
theorem cX10_238 : Cond.constantLong RX10 238 (2147483648) ∈ zT := zT_mem (i := 1113) (by decide +kernel) rfl
theorem cX10_240 : Cond.constant RX10 240 (65536) ∈ zT := zT_mem (i := 1114) (by decide +kernel) rfl
theorem fX10_129 : zF RX10 129 10 7 := zF.mk (RX10, TX10, 47) 832 rfl rfl (by decide +kernel) rfl
theorem fX10_120 : zF RX10 120 10 3 := zF.mk (RX10, TX10, 47) 828 rfl rfl (by decide +kernel) rfl
theorem fX10_13 : zF RX10 13 10 6 := zF.mk (RX10, TX10, 47) 831 rfl rfl (by decide +kernel) rfl
theorem fX10_87 : zF RX10 87 10 40 := zF.mk (RX10, TX10, 47) 865 rfl rfl (by decide +kernel) rfl
theorem fX10_66 : zF RX10 66 10 31 := zF.mk (RX10, TX10, 47) 856 rfl rfl (by decide +kernel) rfl
theorem fX10_69 : zF RX10 69 10 32 := zF.mk (RX10, TX10, 47) 857 rfl rfl (by decide +kernel) rfl
theorem fX10_105 : zF RX10 105 10 17 := zF.mk (RX10, TX10, 47) 842 rfl rfl (by decide +kernel) rfl
theorem fX10_26 : zF RX10 26 10 18 := zF.mk (RX10, TX10, 47) 843 rfl rfl (by decide +kernel) rfl
theorem fX10_96 : zF RX10 96 10 43 := zF.mk (RX10, TX10, 47) 868 rfl rfl (by decide +kernel) rfl
theorem fX10_93 : zF RX10 93 10 42 := zF.mk (RX10, TX10, 47) 867 rfl rfl (by decide +kernel) rfl
theorem fX10_187 : zF RX10 187 10 39 := zF.mk (RX10, TX10, 47) 864 rfl rfl (by decide +kernel) rfl
theorem fX10_63 : zF RX10 63 10 30 := zF.mk (RX10, TX10, 47) 855 rfl rfl (by decide +kernel) rfl
theorem fX10_32 : zF RX10 32 10 20 := zF.mk (RX10, TX10, 47) 845 rfl rfl (by decide +kernel) rfl
theorem fX10_29 : zF RX10 29 10 19 := zF.mk (RX10, TX10, 47) 844 rfl rfl (by decide +kernel) rfl
theorem fX10_75 : zF RX10 75 10 34 := zF.mk (RX10, TX10, 47) 859 rfl rfl (by decide +kernel) rfl
theorem fX10_72 : zF RX10 72 10 33 := zF.mk (RX10, TX10, 47) 858 rfl rfl (by decide +kernel) rfl
theorem fX10_23 : zF RX10 23 10 16 := zF.mk (RX10, TX10, 47) 841 rfl rfl (by decide +kernel) rfl
theorem fX10_181 : zF RX10 181 10 45 := zF.mk (RX10, TX10, 47) 870 rfl rfl (by decide +kernel) rfl
theorem fX3_9 : zF RX3 9 3 0 := zF.mk (RX3, TX3, 6) 227 rfl rfl (by decide +kernel) rfl
theorem fX3_27 : zF RX3 27 3 5 := zF.mk (RX3, TX3, 6) 243 rfl rfl (by decide +kernel) rfl
theorem fX4_21 : zF RX4 21 4 3 := zF.mk (RX4, TX4, 5) 113 rfl rfl (by decide +kernel) rfl
theorem fX4_25 : zF RX4 25 4 4 := zF.mk (RX4, TX4, 5) 118 rfl rfl (by decide +kernel) rfl
theorem fX5_36 : zF RX5 36 5 5 := zF.mk (RX5, TX5, 11) 142 rfl rfl (by decide +kernel) rfl
theorem fX5_39 : zF RX5 39 5 6 := zF.mk (RX5, TX5, 11) 144 rfl rfl (by decide +kernel) rfl
theorem fX5_32 : zF RX5 32 5 4 := zF.mk (RX5, TX5, 11) 140 rfl rfl (by decide +kernel) rfl
theorem fX5_25 : zF RX5 25 5 2 := zF.mk (RX5, TX5, 11) 138 rfl rfl (by decide +kernel) rfl
theorem fX5_42 : zF RX5 42 5 7 := zF.mk (RX5, TX5, 11) 146 rfl rfl (by decide +kernel) rfl
theorem fX6_15 : zF RX6 15 6 1 := zF.mk (RX6, TX6, 4) 291 rfl rfl (by decide +kernel) rfl
theorem fX6_21 : zF RX6 21 6 3 := zF.mk (RX6, TX6, 4) 294 rfl rfl (by decide +kernel) rfl
theorem fX6_33 : zF RX6 33 4 0 := zF.mk (RX4, TX4, 5) 98 rfl rfl (by decide +kernel) rfl
theorem fX6_9 : zF RX6 9 6 0 := zF.mk (RX6, TX6, 4) 289 rfl rfl (by decide +kernel) rfl
theorem gX6_42 : Cond.fieldLink RX6 42 RX6 "ORDERS" "[I" ∈ zT := zT_mem (i := 728) (by decide +kernel) rfl
theorem fX7_9 : zF RX7 9 7 0 := zF.mk (RX7, TX7, 8) 192 rfl rfl (by decide +kernel) rfl
theorem fX7_15 : zF RX7 15 7 1 := zF.mk (RX7, TX7, 8) 193 rfl rfl (by decide +kernel) rfl
theorem fX7_25 : zF RX7 25 7 4 := zF.mk (RX7, TX7, 8) 198 rfl rfl (by decide +kernel) rfl
theorem fX7_28 : zF RX7 28 7 5 := zF.mk (RX7, TX7, 8) 199 rfl rfl (by decide +kernel) rfl
theorem fX7_21 : zF RX7 21 7 3 := zF.mk (RX7, TX7, 8) 197 rfl rfl (by decide +kernel) rfl
theorem fX7_34 : zF RX7 34 7 7 := zF.mk (RX7, TX7, 8) 203 rfl rfl (by decide +kernel) rfl
theorem fX8_32 : zF RX8 32 8 0 := zF.mk (RX8, TX8, 7) 305 rfl rfl (by decide +kernel) rfl
theorem fX8_73 : zF RX8 73 1 6 := zF.mk (RX1, TX1, 7) 74 rfl rfl (by decide +kernel) rfl
theorem fX8_12 : zF RX8 12 8 3 := zF.mk (RX8, TX8, 7) 308 rfl rfl (by decide +kernel) rfl
theorem fX8_57 : zF RX8 57 4 2 := zF.mk (RX4, TX4, 5) 110 rfl rfl (by decide +kernel) rfl
theorem fX8_96 : zF RX8 96 4 0 := zF.mk (RX4, TX4, 5) 102 rfl rfl (by decide +kernel) rfl
theorem fX8_131 : zF RX8 131 1 4 := zF.mk (RX1, TX1, 7) 64 rfl rfl (by decide +kernel) rfl
theorem fX8_134 : zF RX8 134 1 3 := zF.mk (RX1, TX1, 7) 59 rfl rfl (by decide +kernel) rfl
theorem fX8_36 : zF RX8 36 8 1 := zF.mk (RX8, TX8, 7) 306 rfl rfl (by decide +kernel) rfl
theorem fX9_65 : zF RX9 65 9 9 := zF.mk (RX9, TX9, 11) 360 rfl rfl (by decide +kernel) rfl
theorem cX9_186 : Cond.constantLong RX9 186 (1103515245) ∈ zT := zT_mem (i := 609) (by decide +kernel) rfl
theorem cX9_188 : Cond.constantLong RX9 188 (12345) ∈ zT := zT_mem (i := 610) (by decide +kernel) rfl
theorem cX9_190 : Cond.constantLong RX9 190 (2147483648) ∈ zT := zT_mem (i := 611) (by decide +kernel) rfl
theorem cX9_192 : Cond.constantLong RX9 192 (65536) ∈ zT := zT_mem (i := 612) (by decide +kernel) rfl
theorem fX9_69 : zF RX9 69 9 10 := zF.mk (RX9, TX9, 11) 361 rfl rfl (by decide +kernel) rfl
theorem fX9_26 : zF RX9 26 9 2 := zF.mk (RX9, TX9, 11) 353 rfl rfl (by decide +kernel) rfl
theorem fX9_104 : zF RX9 104 4 3 := zF.mk (RX4, TX4, 5) 115 rfl rfl (by decide +kernel) rfl
theorem fX9_19 : zF RX9 19 9 1 := zF.mk (RX9, TX9, 11) 352 rfl rfl (by decide +kernel) rfl
theorem fX9_101 : zF RX9 101 1 6 := zF.mk (RX1, TX1, 7) 72 rfl rfl (by decide +kernel) rfl
theorem cX9_73 : Cond.constant RX9 73 (-1000000002) ∈ zT := zT_mem (i := 389) (by decide +kernel) rfl
theorem fX9_107 : zF RX9 107 4 4 := zF.mk (RX4, TX4, 5) 119 rfl rfl (by decide +kernel) rfl
theorem fX9_61 : zF RX9 61 9 8 := zF.mk (RX9, TX9, 11) 359 rfl rfl (by decide +kernel) rfl
theorem cX9_270 : Cond.constantLong RX9 270 (1000000000) ∈ zT := zT_mem (i := 774) (by decide +kernel) rfl
theorem cX9_272 : Cond.constantLong RX9 272 (10000000) ∈ zT := zT_mem (i := 775) (by decide +kernel) rfl
theorem cX9_274 : Cond.constantLong RX9 274 (1000) ∈ zT := zT_mem (i := 776) (by decide +kernel) rfl
theorem wCo_X3_crash : Cond.code yX3_crash cX3_crash 1 (none) ∈ zT := zT_mem (i := 512) (by decide +kernel) rfl
theorem wIni_X3 : Cond.initialized RX3 ∈ zT := zT_mem (i := 8) (by decide +kernel) rfl
theorem n_X3_crash : zYN mX3_crash 0 := ⟨by decide +kernel, by decide +kernel, by decide +kernel⟩
theorem wIn_X3_crash : Cond.instanceMethod yX3_crash ∈ zT := zT_mem (i := 510) (by decide +kernel) rfl
theorem wSe_X3_crash : Cond.selects RX3 yX3_crash yX3_crash ∈ zT := zT_mem (i := 511) (by decide +kernel) rfl
theorem wlX0_150 : Cond.methodLink RX0 150 yX3_crash ∈ zT := zT_mem (i := 509) (by decide +kernel) rfl
theorem kX0_150 : zKV RX0 150 mX3_crash 0 := ⟨wlX0_150, wIn_X3_crash, wSe_X3_crash, wIni_X3, wCo_X3_crash, n_X3_crash⟩
theorem fX9_10 : zF RX9 10 9 0 := zF.mk (RX9, TX9, 11) 351 rfl rfl (by decide +kernel) rfl
theorem fX9_74 : zF RX9 74 5 4 := zF.mk (RX5, TX5, 11) 141 rfl rfl (by decide +kernel) rfl
theorem cX9_77 : Cond.constant RX9 77 (-1000000004) ∈ zT := zT_mem (i := 390) (by decide +kernel) rfl
theorem wCo_X5_take : Cond.code yX5_take cX5_take 2 (some .int) ∈ zT := zT_mem (i := 394) (by decide +kernel) rfl
theorem wIni_X5 : Cond.initialized RX5 ∈ zT := zT_mem (i := 2) (by decide +kernel) rfl
theorem n_X5_take : zYN mX5_take 1 := ⟨by decide +kernel, by decide +kernel, by decide +kernel⟩
theorem wIn_X5_take : Cond.instanceMethod yX5_take ∈ zT := zT_mem (i := 392) (by decide +kernel) rfl
theorem wSe_X5_take : Cond.selects RX5 yX5_take yX5_take ∈ zT := zT_mem (i := 393) (by decide +kernel) rfl
theorem wlX9_78 : Cond.methodLink RX9 78 yX5_take ∈ zT := zT_mem (i := 391) (by decide +kernel) rfl
theorem kX9_78 : zKV RX9 78 mX5_take 1 := ⟨wlX9_78, wIn_X5_take, wSe_X5_take, wIni_X5, wCo_X5_take, n_X5_take⟩
theorem wCo_X9_noWaiter : Cond.code yX9_noWaiter cX9_noWaiter 2 (some .boolean) ∈ zT := zT_mem (i := 575) (by decide +kernel) rfl
theorem wIni_X9 : Cond.initialized RX9 ∈ zT := zT_mem (i := 1) (by decide +kernel) rfl
theorem n_X9_noWaiter : zYN mX9_noWaiter 1 := ⟨by decide +kernel, by decide +kernel, by decide +kernel⟩
theorem wIn_X9_noWaiter : Cond.instanceMethod yX9_noWaiter ∈ zT := zT_mem (i := 574) (by decide +kernel) rfl
theorem wSe_X9_noWaiter : Cond.selects RX9 yX9_noWaiter yX9_noWaiter ∈ zT := zT_memS (i := 17) (by decide +kernel) rfl
theorem wlX9_155 : Cond.methodLink RX9 155 yX9_noWaiter ∈ zT := zT_mem (i := 572) (by decide +kernel) rfl
theorem kX9_155 : zKV RX9 155 mX9_noWaiter 1 := ⟨wlX9_155, wIn_X9_noWaiter, wSe_X9_noWaiter, wIni_X9, wCo_X9_noWaiter, n_X9_noWaiter⟩
theorem cX9_136 : Cond.constant RX9 136 (-1000000001) ∈ zT := zT_mem (i := 567) (by decide +kernel) rfl
theorem fX9_158 : zF RX9 158 1 2 := zF.mk (RX1, TX1, 7) 54 rfl rfl (by decide +kernel) rfl
theorem fX9_161 : zF RX9 161 4 0 := zF.mk (RX4, TX4, 5) 101 rfl rfl (by decide +kernel) rfl
theorem fX9_164 : zF RX9 164 1 3 := zF.mk (RX1, TX1, 7) 58 rfl rfl (by decide +kernel) rfl
theorem fX9_167 : zF RX9 167 1 4 := zF.mk (RX1, TX1, 7) 62 rfl rfl (by decide +kernel) rfl
theorem fX9_170 : zF RX9 170 4 1 := zF.mk (RX4, TX4, 5) 107 rfl rfl (by decide +kernel) rfl
theorem fX9_172 : zF RX9 172 4 2 := zF.mk (RX4, TX4, 5) 112 rfl rfl (by decide +kernel) rfl
theorem fX9_175 : zF RX9 175 1 5 := zF.mk (RX1, TX1, 7) 68 rfl rfl (by decide +kernel) rfl
theorem fX9_54 : zF RX9 54 9 6 := zF.mk (RX9, TX9, 11) 357 rfl rfl (by decide +kernel) rfl
theorem fX9_58 : zF RX9 58 9 7 := zF.mk (RX9, TX9, 11) 358 rfl rfl (by decide +kernel) rfl
theorem fX0_11 : zF RX0 11 0 1 := zF.mk (RX0, TX0, 4) 260 rfl rfl (by decide +kernel) rfl
theorem wCo_X7_busyFor : Cond.code yX7_busyFor cX7_busyFor 3 (some .boolean) ∈ zT := zT_mem (i := 500) (by decide +kernel) rfl
theorem wIni_X7 : Cond.initialized RX7 ∈ zT := zT_mem (i := 7) (by decide +kernel) rfl
theorem n_X7_busyFor : zYN mX7_busyFor 2 := ⟨by decide +kernel, by decide +kernel, by decide +kernel⟩
theorem wIn_X7_busyFor : Cond.instanceMethod yX7_busyFor ∈ zT := zT_mem (i := 498) (by decide +kernel) rfl
theorem wSe_X7_busyFor : Cond.selects RX7 yX7_busyFor yX7_busyFor ∈ zT := zT_mem (i := 499) (by decide +kernel) rfl
theorem wlX0_80 : Cond.methodLink RX0 80 yX7_busyFor ∈ zT := zT_mem (i := 497) (by decide +kernel) rfl
theorem kX0_80 : zKV RX0 80 mX7_busyFor 2 := ⟨wlX0_80, wIn_X7_busyFor, wSe_X7_busyFor, wIni_X7, wCo_X7_busyFor, n_X7_busyFor⟩
theorem wCo_X0_losses : Cond.code yX0_losses cX0_losses 3 (some .int) ∈ zT := zT_mem (i := 545) (by decide +kernel) rfl
theorem wIni_X0 : Cond.initialized RX0 ∈ zT := zT_mem (i := 6) (by decide +kernel) rfl
theorem n_X0_losses : zYN mX0_losses 0 := ⟨by decide +kernel, by decide +kernel, by decide +kernel⟩
theorem wIn_X0_losses : Cond.instanceMethod yX0_losses ∈ zT := zT_mem (i := 543) (by decide +kernel) rfl
theorem wSe_X0_losses : Cond.selects RX0 yX0_losses yX0_losses ∈ zT := zT_mem (i := 544) (by decide +kernel) rfl
theorem wlX0_156 : Cond.methodLink RX0 156 yX0_losses ∈ zT := zT_mem (i := 550) (by decide +kernel) rfl
theorem kX0_156 : zKV RX0 156 mX0_losses 0 := ⟨wlX0_156, wIn_X0_losses, wSe_X0_losses, wIni_X0, wCo_X0_losses, n_X0_losses⟩
theorem wCo_X0_seconds : Cond.code yX0_seconds cX0_seconds 3 (some .int) ∈ zT := zT_mem (i := 541) (by decide +kernel) rfl
theorem n_X0_seconds : zYN mX0_seconds 0 := ⟨by decide +kernel, by decide +kernel, by decide +kernel⟩
theorem wIn_X0_seconds : Cond.instanceMethod yX0_seconds ∈ zT := zT_mem (i := 539) (by decide +kernel) rfl
theorem wSe_X0_seconds : Cond.selects RX0 yX0_seconds yX0_seconds ∈ zT := zT_mem (i := 540) (by decide +kernel) rfl
theorem wlX0_160 : Cond.methodLink RX0 160 yX0_seconds ∈ zT := zT_mem (i := 551) (by decide +kernel) rfl
theorem kX0_160 : zKV RX0 160 mX0_seconds 0 := ⟨wlX0_160, wIn_X0_seconds, wSe_X0_seconds, wIni_X0, wCo_X0_seconds, n_X0_seconds⟩
theorem wCo_X10_in : Cond.code yX10_in cX10_in 3 (some .boolean) ∈ zT := zT_mem (i := 974) (by decide +kernel) rfl
theorem wIni_X10 : Cond.initialized RX10 ∈ zT := zT_mem (i := 12) (by decide +kernel) rfl
theorem n_X10_in : zYN mX10_in 3 := ⟨by decide +kernel, by decide +kernel, by decide +kernel⟩
theorem wSt_X10_in : Cond.static yX10_in ∈ zT := zT_mem (i := 973) (by decide +kernel) rfl
theorem wlX10_108 : Cond.methodLink RX10 108 yX10_in ∈ zT := zT_mem (i := 972) (by decide +kernel) rfl
theorem kX10_108 : zKS RX10 108 mX10_in 3 := ⟨wlX10_108, wSt_X10_in, wIni_X10, wCo_X10_in, n_X10_in⟩
theorem cX10_112 : Cond.constant RX10 112 (-1000000002) ∈ zT := zT_mem (i := 975) (by decide +kernel) rfl
theorem fX10_113 : zF RX10 113 10 0 := zF.mk (RX10, TX10, 47) 825 rfl rfl (by decide +kernel) rfl
theorem cX10_116 : Cond.constant RX10 116 (-1000000004) ∈ zT := zT_mem (i := 976) (by decide +kernel) rfl
theorem fX10_7 : zF RX10 7 10 1 := zF.mk (RX10, TX10, 47) 826 rfl rfl (by decide +kernel) rfl
theorem cX10_227 : Cond.constant RX10 227 (-1000000001) ∈ zT := zT_mem (i := 1069) (by decide +kernel) rfl
theorem fX10_44 : zF RX10 44 10 24 := zF.mk (RX10, TX10, 47) 849 rfl rfl (by decide +kernel) rfl
theorem cX10_241 : Cond.constant RX10 241 (-1000000003) ∈ zT := zT_mem (i := 1106) (by decide +kernel) rfl
theorem fX10_41 : zF RX10 41 10 23 := zF.mk (RX10, TX10, 47) 848 rfl rfl (by decide +kernel) rfl
theorem fX10_117 : zF RX10 117 10 2 := zF.mk (RX10, TX10, 47) 827 rfl rfl (by decide +kernel) rfl
theorem fX10_123 : zF RX10 123 10 5 := zF.mk (RX10, TX10, 47) 830 rfl rfl (by decide +kernel) rfl
theorem fX10_126 : zF RX10 126 10 4 := zF.mk (RX10, TX10, 47) 829 rfl rfl (by decide +kernel) rfl
theorem cX10_258 : Cond.constantLong RX10 258 (1000000000) ∈ zT := zT_mem (i := 1179) (by decide +kernel) rfl
theorem cX10_260 : Cond.constantLong RX10 260 (10000000) ∈ zT := zT_mem (i := 1180) (by decide +kernel) rfl
theorem cX10_262 : Cond.constantLong RX10 262 (1000) ∈ zT := zT_mem (i := 1181) (by decide +kernel) rfl
theorem wCo_X5_skipBlanks : Cond.code yX5_skipBlanks cX5_skipBlanks 2 (none) ∈ zT := zT_mem (i := 412) (by decide +kernel) rfl
theorem n_X5_skipBlanks : zYN mX5_skipBlanks 0 := ⟨by decide +kernel, by decide +kernel, by decide +kernel⟩
theorem wIn_X5_skipBlanks : Cond.instanceMethod yX5_skipBlanks ∈ zT := zT_mem (i := 411) (by decide +kernel) rfl
theorem wSe_X5_skipBlanks : Cond.selects RX5 yX5_skipBlanks yX5_skipBlanks ∈ zT := zT_memS (i := 0) (by decide +kernel) rfl
theorem wlX5_65 : Cond.methodLink RX5 65 yX5_skipBlanks ∈ zT := zT_mem (i := 409) (by decide +kernel) rfl
theorem kX5_65 : zKV RX5 65 mX5_skipBlanks 0 := ⟨wlX5_65, wIn_X5_skipBlanks, wSe_X5_skipBlanks, wIni_X5, wCo_X5_skipBlanks, n_X5_skipBlanks⟩
theorem wCo_X5_fail : Cond.code yX5_fail cX5_fail 3 (none) ∈ zT := zT_mem (i := 432) (by decide +kernel) rfl
theorem n_X5_fail : zYN mX5_fail 2 := ⟨by decide +kernel, by decide +kernel, by decide +kernel⟩
theorem wIn_X5_fail : Cond.instanceMethod yX5_fail ∈ zT := zT_mem (i := 431) (by decide +kernel) rfl
theorem wSe_X5_fail : Cond.selects RX5 yX5_fail yX5_fail ∈ zT := zT_memS (i := 5) (by decide +kernel) rfl
theorem wlX5_84 : Cond.methodLink RX5 84 yX5_fail ∈ zT := zT_mem (i := 429) (by decide +kernel) rfl
theorem kX5_84 : zKV RX5 84 mX5_fail 2 := ⟨wlX5_84, wIn_X5_fail, wSe_X5_fail, wIni_X5, wCo_X5_fail, n_X5_fail⟩
theorem fX6_25 : zF RX6 25 1 6 := zF.mk (RX1, TX1, 7) 70 rfl rfl (by decide +kernel) rfl
theorem fX6_30 : zF RX6 30 1 2 := zF.mk (RX1, TX1, 7) 51 rfl rfl (by decide +kernel) rfl
theorem fX6_18 : zF RX6 18 6 2 := zF.mk (RX6, TX6, 4) 293 rfl rfl (by decide +kernel) rfl
theorem wCo_X6_insertTenth : Cond.code yX6_insertTenth cX6_insertTenth 3 (none) ∈ zT := zT_mem (i := 722) (by decide +kernel) rfl
theorem wIni_X6 : Cond.initialized RX6 ∈ zT := zT_mem (i := 10) (by decide +kernel) rfl
theorem n_X6_insertTenth : zYN mX6_insertTenth 1 := ⟨by decide +kernel, by decide +kernel, by decide +kernel⟩
theorem wIn_X6_insertTenth : Cond.instanceMethod yX6_insertTenth ∈ zT := zT_mem (i := 721) (by decide +kernel) rfl
theorem wSe_X6_insertTenth : Cond.selects RX6 yX6_insertTenth yX6_insertTenth ∈ zT := zT_memS (i := 26) (by decide +kernel) rfl
theorem wlX6_38 : Cond.methodLink RX6 38 yX6_insertTenth ∈ zT := zT_mem (i := 719) (by decide +kernel) rfl
theorem kX6_38 : zKV RX6 38 mX6_insertTenth 1 := ⟨wlX6_38, wIn_X6_insertTenth, wSe_X6_insertTenth, wIni_X6, wCo_X6_insertTenth, n_X6_insertTenth⟩
theorem wlX7_52 : Cond.methodLink RX7 52 yX7_busyFor ∈ zT := zT_mem (i := 625) (by decide +kernel) rfl
theorem kX7_52 : zKV RX7 52 mX7_busyFor 2 := ⟨wlX7_52, wIn_X7_busyFor, wSe_X7_busyFor, wIni_X7, wCo_X7_busyFor, n_X7_busyFor⟩
theorem wCo_X7_openAt : Cond.code yX7_openAt cX7_openAt 2 (some .boolean) ∈ zT := zT_mem (i := 520) (by decide +kernel) rfl
theorem n_X7_openAt : zYN mX7_openAt 1 := ⟨by decide +kernel, by decide +kernel, by decide +kernel⟩
theorem wIn_X7_openAt : Cond.instanceMethod yX7_openAt ∈ zT := zT_mem (i := 518) (by decide +kernel) rfl
theorem wSe_X7_openAt : Cond.selects RX7 yX7_openAt yX7_openAt ∈ zT := zT_mem (i := 519) (by decide +kernel) rfl
theorem wlX7_56 : Cond.methodLink RX7 56 yX7_openAt ∈ zT := zT_mem (i := 626) (by decide +kernel) rfl
theorem kX7_56 : zKV RX7 56 mX7_openAt 1 := ⟨wlX7_56, wIn_X7_openAt, wSe_X7_openAt, wIni_X7, wCo_X7_openAt, n_X7_openAt⟩
theorem wCo_X7_comesBackAt : Cond.code yX7_comesBackAt cX7_comesBackAt 2 (some .boolean) ∈ zT := zT_mem (i := 527) (by decide +kernel) rfl
theorem n_X7_comesBackAt : zYN mX7_comesBackAt 1 := ⟨by decide +kernel, by decide +kernel, by decide +kernel⟩
theorem wIn_X7_comesBackAt : Cond.instanceMethod yX7_comesBackAt ∈ zT := zT_mem (i := 525) (by decide +kernel) rfl
theorem wSe_X7_comesBackAt : Cond.selects RX7 yX7_comesBackAt yX7_comesBackAt ∈ zT := zT_mem (i := 526) (by decide +kernel) rfl
theorem wlX7_60 : Cond.methodLink RX7 60 yX7_comesBackAt ∈ zT := zT_mem (i := 627) (by decide +kernel) rfl
theorem kX7_60 : zKV RX7 60 mX7_comesBackAt 1 := ⟨wlX7_60, wIn_X7_comesBackAt, wSe_X7_comesBackAt, wIni_X7, wCo_X7_comesBackAt, n_X7_comesBackAt⟩
theorem wCo_X10_becomes : Cond.code yX10_becomes cX10_becomes 4 (some .int) ∈ zT := zT_mem (i := 1085) (by decide +kernel) rfl
theorem n_X10_becomes : zYN mX10_becomes 2 := ⟨by decide +kernel, by decide +kernel, by decide +kernel⟩
theorem wIn_X10_becomes : Cond.instanceMethod yX10_becomes ∈ zT := zT_mem (i := 1084) (by decide +kernel) rfl
theorem wSe_X10_becomes : Cond.selects RX10 yX10_becomes yX10_becomes ∈ zT := zT_memS (i := 49) (by decide +kernel) rfl
theorem wlX10_231 : Cond.methodLink RX10 231 yX10_becomes ∈ zT := zT_mem (i := 1082) (by decide +kernel) rfl
theorem kX10_231 : zKV RX10 231 mX10_becomes 2 := ⟨wlX10_231, wIn_X10_becomes, wSe_X10_becomes, wIni_X10, wCo_X10_becomes, n_X10_becomes⟩
theorem wCo_X10_isBusy : Cond.code yX10_isBusy cX10_isBusy 4 (some .boolean) ∈ zT := zT_mem (i := 1040) (by decide +kernel) rfl
theorem n_X10_isBusy : zYN mX10_isBusy 3 := ⟨by decide +kernel, by decide +kernel, by decide +kernel⟩
theorem wIn_X10_isBusy : Cond.instanceMethod yX10_isBusy ∈ zT := zT_mem (i := 1039) (by decide +kernel) rfl
theorem wSe_X10_isBusy : Cond.selects RX10 yX10_isBusy yX10_isBusy ∈ zT := zT_memS (i := 41) (by decide +kernel) rfl
theorem wlX10_184 : Cond.methodLink RX10 184 yX10_isBusy ∈ zT := zT_mem (i := 1037) (by decide +kernel) rfl
theorem kX10_184 : zKV RX10 184 mX10_isBusy 3 := ⟨wlX10_184, wIn_X10_isBusy, wSe_X10_isBusy, wIni_X10, wCo_X10_isBusy, n_X10_isBusy⟩
theorem fX1_9 : zF RX1 9 1 0 := zF.mk (RX1, TX1, 7) 42 rfl rfl (by decide +kernel) rfl
theorem wCo_J7_fill_53178 : Cond.code yJ7_fill_53178 cJ7_fill_53178 4 (none) ∈ zT := zT_mem (i := 41) (by decide +kernel) rfl
theorem wIni_J7 : Cond.initialized RJ7 ∈ zT := zT_mem (i := 4) (by decide +kernel) rfl
theorem n_J7_fill_53178 : zYN mJ7_fill_53178 2 := ⟨by decide +kernel, by decide +kernel, by decide +kernel⟩
theorem wSt_J7_fill_53178 : Cond.static yJ7_fill_53178 ∈ zT := zT_mem (i := 40) (by decide +kernel) rfl
theorem wlX1_37 : Cond.methodLink RX1 37 yJ7_fill_53178 ∈ zT := zT_mem (i := 39) (by decide +kernel) rfl
theorem kX1_37 : zKS RX1 37 mJ7_fill_53178 2 := ⟨wlX1_37, wSt_J7_fill_53178, wIni_J7, wCo_J7_fill_53178, n_J7_fill_53178⟩
theorem fX1_15 : zF RX1 15 1 1 := zF.mk (RX1, TX1, 7) 46 rfl rfl (by decide +kernel) rfl
theorem fX1_30 : zF RX1 30 1 6 := zF.mk (RX1, TX1, 7) 69 rfl rfl (by decide +kernel) rfl
theorem wlX7_37 : Cond.methodLink RX7 37 yJ7_fill_53178 ∈ zT := zT_mem (i := 484) (by decide +kernel) rfl
theorem kX7_37 : zKS RX7 37 mJ7_fill_53178 2 := ⟨wlX7_37, wSt_J7_fill_53178, wIni_J7, wCo_J7_fill_53178, n_J7_fill_53178⟩
theorem fX7_18 : zF RX7 18 7 2 := zF.mk (RX7, TX7, 8) 195 rfl rfl (by decide +kernel) rfl
theorem fX7_31 : zF RX7 31 7 6 := zF.mk (RX7, TX7, 8) 200 rfl rfl (by decide +kernel) rfl
theorem wCo_X8_lossOf : Cond.code yX8_lossOf cX8_lossOf 5 (some .int) ∈ zT := zT_mem (i := 761) (by decide +kernel) rfl
theorem wIni_X8 : Cond.initialized RX8 ∈ zT := zT_mem (i := 9) (by decide +kernel) rfl
theorem n_X8_lossOf : zYN mX8_lossOf 4 := ⟨by decide +kernel, by decide +kernel, by decide +kernel⟩
theorem wIn_X8_lossOf : Cond.instanceMethod yX8_lossOf ∈ zT := zT_mem (i := 760) (by decide +kernel) rfl
theorem wSe_X8_lossOf : Cond.selects RX8 yX8_lossOf yX8_lossOf ∈ zT := zT_memS (i := 28) (by decide +kernel) rfl
theorem wlX8_127 : Cond.methodLink RX8 127 yX8_lossOf ∈ zT := zT_mem (i := 758) (by decide +kernel) rfl
theorem kX8_127 : zKV RX8 127 mX8_lossOf 4 := ⟨wlX8_127, wIn_X8_lossOf, wSe_X8_lossOf, wIni_X8, wCo_X8_lossOf, n_X8_lossOf⟩
theorem fX10_84 : zF RX10 84 10 37 := zF.mk (RX10, TX10, 47) 862 rfl rfl (by decide +kernel) rfl
theorem fX10_48 : zF RX10 48 10 25 := zF.mk (RX10, TX10, 47) 850 rfl rfl (by decide +kernel) rfl
theorem wCo_X10_lose : Cond.code yX10_lose cX10_lose 2 (none) ∈ zT := zT_mem (i := 1052) (by decide +kernel) rfl
theorem n_X10_lose : zYN mX10_lose 1 := ⟨by decide +kernel, by decide +kernel, by decide +kernel⟩
theorem wIn_X10_lose : Cond.instanceMethod yX10_lose ∈ zT := zT_mem (i := 1051) (by decide +kernel) rfl
theorem wSe_X10_lose : Cond.selects RX10 yX10_lose yX10_lose ∈ zT := zT_memS (i := 44) (by decide +kernel) rfl
theorem wlX10_190 : Cond.methodLink RX10 190 yX10_lose ∈ zT := zT_mem (i := 1049) (by decide +kernel) rfl
theorem kX10_190 : zKV RX10 190 mX10_lose 1 := ⟨wlX10_190, wIn_X10_lose, wSe_X10_lose, wIni_X10, wCo_X10_lose, n_X10_lose⟩
theorem wCo_X10_widen : Cond.code yX10_widen cX10_widen 6 (none) ∈ zT := zT_mem (i := 1056) (by decide +kernel) rfl
theorem n_X10_widen : zYN mX10_widen 4 := ⟨by decide +kernel, by decide +kernel, by decide +kernel⟩
theorem wIn_X10_widen : Cond.instanceMethod yX10_widen ∈ zT := zT_mem (i := 1055) (by decide +kernel) rfl
theorem wSe_X10_widen : Cond.selects RX10 yX10_widen yX10_widen ∈ zT := zT_memS (i := 45) (by decide +kernel) rfl
theorem wlX10_194 : Cond.methodLink RX10 194 yX10_widen ∈ zT := zT_mem (i := 1053) (by decide +kernel) rfl
theorem kX10_194 : zKV RX10 194 mX10_widen 4 := ⟨wlX10_194, wIn_X10_widen, wSe_X10_widen, wIni_X10, wCo_X10_widen, n_X10_widen⟩
theorem fX10_51 : zF RX10 51 10 26 := zF.mk (RX10, TX10, 47) 851 rfl rfl (by decide +kernel) rfl
theorem fX10_54 : zF RX10 54 10 27 := zF.mk (RX10, TX10, 47) 852 rfl rfl (by decide +kernel) rfl
theorem wCo_X10_swing : Cond.code yX10_swing cX10_swing 4 (some .int) ∈ zT := zT_mem (i := 1048) (by decide +kernel) rfl
theorem n_X10_swing : zYN mX10_swing 2 := ⟨by decide +kernel, by decide +kernel, by decide +kernel⟩
theorem wIn_X10_swing : Cond.instanceMethod yX10_swing ∈ zT := zT_mem (i := 1047) (by decide +kernel) rfl
theorem wSe_X10_swing : Cond.selects RX10 yX10_swing yX10_swing ∈ zT := zT_memS (i := 43) (by decide +kernel) rfl
theorem wlX10_198 : Cond.methodLink RX10 198 yX10_swing ∈ zT := zT_mem (i := 1045) (by decide +kernel) rfl
theorem kX10_198 : zKV RX10 198 mX10_swing 2 := ⟨wlX10_198, wIn_X10_swing, wSe_X10_swing, wIni_X10, wCo_X10_swing, n_X10_swing⟩
theorem fX10_81 : zF RX10 81 10 36 := zF.mk (RX10, TX10, 47) 861 rfl rfl (by decide +kernel) rfl
theorem wCo_X9_commonDivisor : Cond.code yX9_commonDivisor cX9_commonDivisor 6 (some .int) ∈ zT := zT_mem (i := 783) (by decide +kernel) rfl
theorem n_X9_commonDivisor : zYN mX9_commonDivisor 2 := ⟨by decide +kernel, by decide +kernel, by decide +kernel⟩
theorem wSt_X9_commonDivisor : Cond.static yX9_commonDivisor ∈ zT := zT_mem (i := 782) (by decide +kernel) rfl
theorem wlX9_276 : Cond.methodLink RX9 276 yX9_commonDivisor ∈ zT := zT_mem (i := 781) (by decide +kernel) rfl
theorem kX9_276 : zKS RX9 276 mX9_commonDivisor 2 := ⟨wlX9_276, wSt_X9_commonDivisor, wIni_X9, wCo_X9_commonDivisor, n_X9_commonDivisor⟩
theorem cX9_182 : Cond.constant RX9 182 (-1000000003) ∈ zT := zT_mem (i := 604) (by decide +kernel) rfl
theorem fX0_111 : zF RX0 111 3 2 := zF.mk (RX3, TX3, 6) 235 rfl rfl (by decide +kernel) rfl
theorem kX0_128 : Cond.methodLink RX0 128 Lib.Math.max.name ∈ zT := zT_mem (i := 521) (by decide +kernel) rfl
theorem fX0_74 : zF RX0 74 3 3 := zF.mk (RX3, TX3, 6) 238 rfl rfl (by decide +kernel) rfl
theorem fX0_55 : zF RX0 55 1 2 := zF.mk (RX1, TX1, 7) 52 rfl rfl (by decide +kernel) rfl
theorem wlX0_124 : Cond.methodLink RX0 124 yX7_openAt ∈ zT := zT_mem (i := 517) (by decide +kernel) rfl
theorem kX0_124 : zKV RX0 124 mX7_openAt 1 := ⟨wlX0_124, wIn_X7_openAt, wSe_X7_openAt, wIni_X7, wCo_X7_openAt, n_X7_openAt⟩
theorem wlX0_134 : Cond.methodLink RX0 134 yX7_comesBackAt ∈ zT := zT_mem (i := 524) (by decide +kernel) rfl
theorem kX0_134 : zKV RX0 134 mX7_comesBackAt 1 := ⟨wlX0_134, wIn_X7_comesBackAt, wSe_X7_comesBackAt, wIni_X7, wCo_X7_comesBackAt, n_X7_comesBackAt⟩
theorem fX0_137 : zF RX0 137 4 1 := zF.mk (RX4, TX4, 5) 105 rfl rfl (by decide +kernel) rfl
theorem fX0_140 : zF RX0 140 1 0 := zF.mk (RX1, TX1, 7) 45 rfl rfl (by decide +kernel) rfl
theorem fX0_143 : zF RX0 143 1 1 := zF.mk (RX1, TX1, 7) 49 rfl rfl (by decide +kernel) rfl
theorem wCo_X7_takeKick : Cond.code yX7_takeKick cX7_takeKick 4 (none) ∈ zT := zT_mem (i := 531) (by decide +kernel) rfl
theorem n_X7_takeKick : zYN mX7_takeKick 3 := ⟨by decide +kernel, by decide +kernel, by decide +kernel⟩
theorem wIn_X7_takeKick : Cond.instanceMethod yX7_takeKick ∈ zT := zT_mem (i := 529) (by decide +kernel) rfl
theorem wSe_X7_takeKick : Cond.selects RX7 yX7_takeKick yX7_takeKick ∈ zT := zT_mem (i := 530) (by decide +kernel) rfl
theorem wlX0_146 : Cond.methodLink RX0 146 yX7_takeKick ∈ zT := zT_mem (i := 528) (by decide +kernel) rfl
theorem kX0_146 : zKV RX0 146 mX7_takeKick 3 := ⟨wlX0_146, wIn_X7_takeKick, wSe_X7_takeKick, wIni_X7, wCo_X7_takeKick, n_X7_takeKick⟩
theorem kX10_1 : Cond.methodLink RX10 1 Lib.objectInit ∈ zT := zT_mem (i := 824) (by decide +kernel) rfl
theorem fX10_17 : zF RX10 17 10 9 := zF.mk (RX10, TX10, 47) 834 rfl rfl (by decide +kernel) rfl
theorem fX10_20 : zF RX10 20 10 10 := zF.mk (RX10, TX10, 47) 835 rfl rfl (by decide +kernel) rfl
theorem fX10_35 : zF RX10 35 10 21 := zF.mk (RX10, TX10, 47) 846 rfl rfl (by decide +kernel) rfl
theorem fX10_57 : zF RX10 57 10 28 := zF.mk (RX10, TX10, 47) 853 rfl rfl (by decide +kernel) rfl
theorem fX10_60 : zF RX10 60 10 29 := zF.mk (RX10, TX10, 47) 854 rfl rfl (by decide +kernel) rfl
theorem fX10_78 : zF RX10 78 10 35 := zF.mk (RX10, TX10, 47) 860 rfl rfl (by decide +kernel) rfl
theorem fX10_90 : zF RX10 90 10 41 := zF.mk (RX10, TX10, 47) 866 rfl rfl (by decide +kernel) rfl
theorem fX10_99 : zF RX10 99 10 44 := zF.mk (RX10, TX10, 47) 869 rfl rfl (by decide +kernel) rfl
theorem fX10_102 : zF RX10 102 10 46 := zF.mk (RX10, TX10, 47) 871 rfl rfl (by decide +kernel) rfl
theorem kX1_43 : Cond.methodLink RX1 43 arraycopyName ∈ zT := zT_mem (i := 456) (by decide +kernel) rfl
theorem fX1_18 : zF RX1 18 1 2 := zF.mk (RX1, TX1, 7) 50 rfl rfl (by decide +kernel) rfl
theorem fX1_21 : zF RX1 21 1 3 := zF.mk (RX1, TX1, 7) 55 rfl rfl (by decide +kernel) rfl
theorem fX1_24 : zF RX1 24 1 4 := zF.mk (RX1, TX1, 7) 60 rfl rfl (by decide +kernel) rfl
theorem fX1_27 : zF RX1 27 1 5 := zF.mk (RX1, TX1, 7) 65 rfl rfl (by decide +kernel) rfl
theorem kX3_3 : Cond.methodLink RX3 3 Lib.objectInit ∈ zT := zT_mem (i := 226) (by decide +kernel) rfl
theorem fX3_15 : zF RX3 15 3 1 := zF.mk (RX3, TX3, 6) 231 rfl rfl (by decide +kernel) rfl
theorem fX3_18 : zF RX3 18 3 2 := zF.mk (RX3, TX3, 6) 234 rfl rfl (by decide +kernel) rfl
theorem fX3_21 : zF RX3 21 3 3 := zF.mk (RX3, TX3, 6) 237 rfl rfl (by decide +kernel) rfl
theorem fX3_24 : zF RX3 24 3 4 := zF.mk (RX3, TX3, 6) 240 rfl rfl (by decide +kernel) rfl
theorem fX4_9 : zF RX4 9 4 0 := zF.mk (RX4, TX4, 5) 97 rfl rfl (by decide +kernel) rfl
theorem kX4_28 : Cond.methodLink RX4 28 arraycopyName ∈ zT := zT_mem (i := 463) (by decide +kernel) rfl
theorem fX4_15 : zF RX4 15 4 1 := zF.mk (RX4, TX4, 5) 103 rfl rfl (by decide +kernel) rfl
theorem fX4_18 : zF RX4 18 4 2 := zF.mk (RX4, TX4, 5) 108 rfl rfl (by decide +kernel) rfl
theorem kX4_3 : Cond.methodLink RX4 3 Lib.objectInit ∈ zT := zT_mem (i := 96) (by decide +kernel) rfl
theorem wCo_X5_figureAt : Cond.code yX5_figureAt cX5_figureAt 2 (some .boolean) ∈ zT := zT_mem (i := 428) (by decide +kernel) rfl
theorem n_X5_figureAt : zYN mX5_figureAt 1 := ⟨by decide +kernel, by decide +kernel, by decide +kernel⟩
theorem wIn_X5_figureAt : Cond.instanceMethod yX5_figureAt ∈ zT := zT_mem (i := 427) (by decide +kernel) rfl
theorem wSe_X5_figureAt : Cond.selects RX5 yX5_figureAt yX5_figureAt ∈ zT := zT_memS (i := 4) (by decide +kernel) rfl
theorem wlX5_131 : Cond.methodLink RX5 131 yX5_figureAt ∈ zT := zT_mem (i := 425) (by decide +kernel) rfl
theorem kX5_131 : zKV RX5 131 mX5_figureAt 1 := ⟨wlX5_131, wIn_X5_figureAt, wSe_X5_figureAt, wIni_X5, wCo_X5_figureAt, n_X5_figureAt⟩
theorem fX5_45 : zF RX5 45 5 8 := zF.mk (RX5, TX5, 11) 147 rfl rfl (by decide +kernel) rfl
theorem kX5_135 : Cond.methodLink RX5 135 Lib.Math.min.name ∈ zT := zT_mem (i := 433) (by decide +kernel) rfl
theorem kX6_3 : Cond.methodLink RX6 3 Lib.objectInit ∈ zT := zT_mem (i := 288) (by decide +kernel) rfl
theorem kX6_45 : Cond.methodLink RX6 45 arraycopyName ∈ zT := zT_mem (i := 727) (by decide +kernel) rfl
theorem wCo_X6_bringForward : Cond.code yX6_bringForward cX6_bringForward 5 (none) ∈ zT := zT_mem (i := 733) (by decide +kernel) rfl
theorem n_X6_bringForward : zYN mX6_bringForward 2 := ⟨by decide +kernel, by decide +kernel, by decide +kernel⟩
theorem wIn_X6_bringForward : Cond.instanceMethod yX6_bringForward ∈ zT := zT_mem (i := 732) (by decide +kernel) rfl
theorem wSe_X6_bringForward : Cond.selects RX6 yX6_bringForward yX6_bringForward ∈ zT := zT_memS (i := 27) (by decide +kernel) rfl
theorem wlX6_51 : Cond.methodLink RX6 51 yX6_bringForward ∈ zT := zT_mem (i := 730) (by decide +kernel) rfl
theorem kX6_51 : zKV RX6 51 mX6_bringForward 2 := ⟨wlX6_51, wIn_X6_bringForward, wSe_X6_bringForward, wIni_X6, wCo_X6_bringForward, n_X6_bringForward⟩
theorem kX7_3 : Cond.methodLink RX7 3 Lib.objectInit ∈ zT := zT_mem (i := 191) (by decide +kernel) rfl
theorem kX7_43 : Cond.methodLink RX7 43 Lib.Math.min.name ∈ zT := zT_mem (i := 536) (by decide +kernel) rfl
theorem kX7_49 : Cond.methodLink RX7 49 Lib.Math.max.name ∈ zT := zT_mem (i := 537) (by decide +kernel) rfl
theorem kX9_265 : Cond.methodLink RX9 265 Lib.Math.max.name ∈ zT := zT_mem (i := 769) (by decide +kernel) rfl
theorem wCo_X10_nextToken : Cond.code yX10_nextToken cX10_nextToken 1 (none) ∈ zT := zT_mem (i := 988) (by decide +kernel) rfl
theorem n_X10_nextToken : zYN mX10_nextToken 0 := ⟨by decide +kernel, by decide +kernel, by decide +kernel⟩
theorem wIn_X10_nextToken : Cond.instanceMethod yX10_nextToken ∈ zT := zT_mem (i := 987) (by decide +kernel) rfl
theorem wSe_X10_nextToken : Cond.selects RX10 yX10_nextToken yX10_nextToken ∈ zT := zT_memS (i := 30) (by decide +kernel) rfl
theorem wlX10_132 : Cond.methodLink RX10 132 yX10_nextToken ∈ zT := zT_mem (i := 985) (by decide +kernel) rfl
theorem kX10_132 : zKV RX10 132 mX10_nextToken 0 := ⟨wlX10_132, wIn_X10_nextToken, wSe_X10_nextToken, wIni_X10, wCo_X10_nextToken, n_X10_nextToken⟩
theorem wCo_X10_fails : Cond.code yX10_fails cX10_fails 2 (some .boolean) ∈ zT := zT_mem (i := 1000) (by decide +kernel) rfl
theorem n_X10_fails : zYN mX10_fails 1 := ⟨by decide +kernel, by decide +kernel, by decide +kernel⟩
theorem wIn_X10_fails : Cond.instanceMethod yX10_fails ∈ zT := zT_mem (i := 999) (by decide +kernel) rfl
theorem wSe_X10_fails : Cond.selects RX10 yX10_fails yX10_fails ∈ zT := zT_memS (i := 33) (by decide +kernel) rfl
theorem wlX10_135 : Cond.methodLink RX10 135 yX10_fails ∈ zT := zT_mem (i := 997) (by decide +kernel) rfl
theorem kX10_135 : zKV RX10 135 mX10_fails 1 := ⟨wlX10_135, wIn_X10_fails, wSe_X10_fails, wIni_X10, wCo_X10_fails, n_X10_fails⟩
theorem wCo_X10_isOne : Cond.code yX10_isOne cX10_isOne 2 (some .boolean) ∈ zT := zT_mem (i := 1077) (by decide +kernel) rfl
theorem n_X10_isOne : zYN mX10_isOne 1 := ⟨by decide +kernel, by decide +kernel, by decide +kernel⟩
theorem wIn_X10_isOne : Cond.instanceMethod yX10_isOne ∈ zT := zT_mem (i := 1076) (by decide +kernel) rfl
theorem wSe_X10_isOne : Cond.selects RX10 yX10_isOne yX10_isOne ∈ zT := zT_memS (i := 48) (by decide +kernel) rfl
theorem wlX10_228 : Cond.methodLink RX10 228 yX10_isOne ∈ zT := zT_mem (i := 1074) (by decide +kernel) rfl
theorem kX10_228 : zKV RX10 228 mX10_isOne 1 := ⟨wlX10_228, wIn_X10_isOne, wSe_X10_isOne, wIni_X10, wCo_X10_isOne, n_X10_isOne⟩
theorem wCo_X10_loss : Cond.code yX10_loss cX10_loss 5 (some .int) ∈ zT := zT_mem (i := 1170) (by decide +kernel) rfl
theorem n_X10_loss : zYN mX10_loss 4 := ⟨by decide +kernel, by decide +kernel, by decide +kernel⟩
theorem wIn_X10_loss : Cond.instanceMethod yX10_loss ∈ zT := zT_mem (i := 1169) (by decide +kernel) rfl
theorem wSe_X10_loss : Cond.selects RX10 yX10_loss yX10_loss ∈ zT := zT_memS (i := 54) (by decide +kernel) rfl
theorem wlX10_254 : Cond.methodLink RX10 254 yX10_loss ∈ zT := zT_mem (i := 1167) (by decide +kernel) rfl
theorem kX10_254 : zKV RX10 254 mX10_loss 4 := ⟨wlX10_254, wIn_X10_loss, wSe_X10_loss, wIni_X10, wCo_X10_loss, n_X10_loss⟩
theorem kX1_3 : Cond.methodLink RX1 3 Lib.objectInit ∈ zT := zT_mem (i := 34) (by decide +kernel) rfl
theorem wCo_X1_makeUntold : Cond.code yX1_makeUntold cX1_makeUntold 1 (none) ∈ zT := zT_mem (i := 38) (by decide +kernel) rfl
theorem wIni_X1 : Cond.initialized RX1 ∈ zT := zT_mem (i := 3) (by decide +kernel) rfl
theorem n_X1_makeUntold : zYN mX1_makeUntold 0 := ⟨by decide +kernel, by decide +kernel, by decide +kernel⟩
theorem wIn_X1_makeUntold : Cond.instanceMethod yX1_makeUntold ∈ zT := zT_mem (i := 36) (by decide +kernel) rfl
theorem wSe_X1_makeUntold : Cond.selects RX1 yX1_makeUntold yX1_makeUntold ∈ zT := zT_mem (i := 37) (by decide +kernel) rfl
theorem wlX1_34 : Cond.methodLink RX1 34 yX1_makeUntold ∈ zT := zT_mem (i := 35) (by decide +kernel) rfl
theorem kX1_34 : zKV RX1 34 mX1_makeUntold 0 := ⟨wlX1_34, wIn_X1_makeUntold, wSe_X1_makeUntold, wIni_X1, wCo_X1_makeUntold, n_X1_makeUntold⟩
theorem wCo_X9_put : Cond.code yX9_put cX9_put 7 (some .int) ∈ zT := zT_mem (i := 583) (by decide +kernel) rfl
theorem n_X9_put : zYN mX9_put 5 := ⟨by decide +kernel, by decide +kernel, by decide +kernel⟩
theorem wIn_X9_put : Cond.instanceMethod yX9_put ∈ zT := zT_mem (i := 582) (by decide +kernel) rfl
theorem wSe_X9_put : Cond.selects RX9 yX9_put yX9_put ∈ zT := zT_memS (i := 18) (by decide +kernel) rfl
theorem wlX9_178 : Cond.methodLink RX9 178 yX9_put ∈ zT := zT_mem (i := 580) (by decide +kernel) rfl
theorem kX9_178 : zKV RX9 178 mX9_put 5 := ⟨wlX9_178, wIn_X9_put, wSe_X9_put, wIni_X9, wCo_X9_put, n_X9_put⟩
theorem fX9_44 : zF RX9 44 9 4 := zF.mk (RX9, TX9, 11) 355 rfl rfl (by decide +kernel) rfl
theorem wCo_X8_restingPairs : Cond.code yX8_restingPairs cX8_restingPairs 8 (some .int) ∈ zT := zT_mem (i := 757) (by decide +kernel) rfl
theorem n_X8_restingPairs : zYN mX8_restingPairs 2 := ⟨by decide +kernel, by decide +kernel, by decide +kernel⟩
theorem wIn_X8_restingPairs : Cond.instanceMethod yX8_restingPairs ∈ zT := zT_mem (i := 755) (by decide +kernel) rfl
theorem wSe_X8_restingPairs : Cond.selects RX8 yX8_restingPairs yX8_restingPairs ∈ zT := zT_mem (i := 756) (by decide +kernel) rfl
theorem wlX9_259 : Cond.methodLink RX9 259 yX8_restingPairs ∈ zT := zT_mem (i := 754) (by decide +kernel) rfl
theorem kX9_259 : zKV RX9 259 mX8_restingPairs 2 := ⟨wlX9_259, wIn_X8_restingPairs, wSe_X8_restingPairs, wIni_X8, wCo_X8_restingPairs, n_X8_restingPairs⟩
theorem wCo_X10_leafFor : Cond.code yX10_leafFor cX10_leafFor 6 (some .int) ∈ zT := zT_mem (i := 1036) (by decide +kernel) rfl
theorem n_X10_leafFor : zYN mX10_leafFor 1 := ⟨by decide +kernel, by decide +kernel, by decide +kernel⟩
theorem wIn_X10_leafFor : Cond.instanceMethod yX10_leafFor ∈ zT := zT_mem (i := 1035) (by decide +kernel) rfl
theorem wSe_X10_leafFor : Cond.selects RX10 yX10_leafFor yX10_leafFor ∈ zT := zT_memS (i := 40) (by decide +kernel) rfl
theorem wlX10_202 : Cond.methodLink RX10 202 yX10_leafFor ∈ zT := zT_mem (i := 1033) (by decide +kernel) rfl
theorem kX10_202 : zKV RX10 202 mX10_leafFor 1 := ⟨wlX10_202, wIn_X10_leafFor, wSe_X10_leafFor, wIni_X10, wCo_X10_leafFor, n_X10_leafFor⟩
theorem wCo_X10_goThrough : Cond.code yX10_goThrough cX10_goThrough 8 (none) ∈ zT := zT_mem (i := 1044) (by decide +kernel) rfl
theorem n_X10_goThrough : zYN mX10_goThrough 3 := ⟨by decide +kernel, by decide +kernel, by decide +kernel⟩
theorem wIn_X10_goThrough : Cond.instanceMethod yX10_goThrough ∈ zT := zT_mem (i := 1043) (by decide +kernel) rfl
theorem wSe_X10_goThrough : Cond.selects RX10 yX10_goThrough yX10_goThrough ∈ zT := zT_memS (i := 42) (by decide +kernel) rfl
theorem wlX10_206 : Cond.methodLink RX10 206 yX10_goThrough ∈ zT := zT_mem (i := 1041) (by decide +kernel) rfl
theorem kX10_206 : zKV RX10 206 mX10_goThrough 3 := ⟨wlX10_206, wIn_X10_goThrough, wSe_X10_goThrough, wIni_X10, wCo_X10_goThrough, n_X10_goThrough⟩
theorem wCo_X10_isHeard : Cond.code yX10_isHeard cX10_isHeard 4 (some .boolean) ∈ zT := zT_mem (i := 1060) (by decide +kernel) rfl
theorem n_X10_isHeard : zYN mX10_isHeard 1 := ⟨by decide +kernel, by decide +kernel, by decide +kernel⟩
theorem wIn_X10_isHeard : Cond.instanceMethod yX10_isHeard ∈ zT := zT_mem (i := 1059) (by decide +kernel) rfl
theorem wSe_X10_isHeard : Cond.selects RX10 yX10_isHeard yX10_isHeard ∈ zT := zT_memS (i := 46) (by decide +kernel) rfl
theorem wlX10_210 : Cond.methodLink RX10 210 yX10_isHeard ∈ zT := zT_mem (i := 1057) (by decide +kernel) rfl
theorem kX10_210 : zKV RX10 210 mX10_isHeard 1 := ⟨wlX10_210, wIn_X10_isHeard, wSe_X10_isHeard, wIni_X10, wCo_X10_isHeard, n_X10_isHeard⟩
theorem fX10_213 : zF RX10 213 10 38 := zF.mk (RX10, TX10, 47) 863 rfl rfl (by decide +kernel) rfl
theorem wCo_X10_crash : Cond.code yX10_crash cX10_crash 5 (none) ∈ zT := zT_mem (i := 1064) (by decide +kernel) rfl
theorem n_X10_crash : zYN mX10_crash 2 := ⟨by decide +kernel, by decide +kernel, by decide +kernel⟩
theorem wIn_X10_crash : Cond.instanceMethod yX10_crash ∈ zT := zT_mem (i := 1063) (by decide +kernel) rfl
theorem wSe_X10_crash : Cond.selects RX10 yX10_crash yX10_crash ∈ zT := zT_memS (i := 47) (by decide +kernel) rfl
theorem wlX10_216 : Cond.methodLink RX10 216 yX10_crash ∈ zT := zT_mem (i := 1061) (by decide +kernel) rfl
theorem kX10_216 : zKV RX10 216 mX10_crash 2 := ⟨wlX10_216, wIn_X10_crash, wSe_X10_crash, wIni_X10, wCo_X10_crash, n_X10_crash⟩
theorem kX0_3 : Cond.methodLink RX0 3 Lib.objectInit ∈ zT := zT_mem (i := 182) (by decide +kernel) rfl
theorem lX0_9 : Cond.classLink RX0 9 RX7 ∈ zT := zT_mem (i := 183) (by decide +kernel) rfl
theorem lX0_17 : Cond.classLink RX0 17 RX3 ∈ zT := zT_mem (i := 185) (by decide +kernel) rfl
theorem wCo_X7_init : Cond.code yX7_init cX7_init 1 (none) ∈ zT := zT_mem (i := 190) (by decide +kernel) rfl
theorem n_X7_init : zYN mX7_init 0 := ⟨by decide +kernel, by decide +kernel, by decide +kernel⟩
theorem wIn_X7_init : Cond.instanceMethod yX7_init ∈ zT := zT_mem (i := 189) (by decide +kernel) rfl
theorem kX0_31 : zKN RX0 31 mX7_init 0 := ⟨⟨"SwingLeaves", by decide +kernel⟩, wIn_X7_init, wIni_X7, wCo_X7_init, n_X7_init, rfl, rfl⟩
theorem wCo_X3_init : Cond.code yX3_init cX3_init 1 (none) ∈ zT := zT_mem (i := 225) (by decide +kernel) rfl
theorem n_X3_init : zYN mX3_init 0 := ⟨by decide +kernel, by decide +kernel, by decide +kernel⟩
theorem wIn_X3_init : Cond.instanceMethod yX3_init ∈ zT := zT_mem (i := 224) (by decide +kernel) rfl
theorem kX0_32 : zKN RX0 32 mX3_init 0 := ⟨⟨"SwingLeaves", by decide +kernel⟩, wIn_X3_init, wIni_X3, wCo_X3_init, n_X3_init, rfl, rfl⟩
theorem kX2_1 : Cond.methodLink RX2 1 Lib.objectInit ∈ zT := zT_mem (i := 335) (by decide +kernel) rfl
theorem lX2_7 : Cond.classLink RX2 7 RX4 ∈ zT := zT_mem (i := 336) (by decide +kernel) rfl
theorem wIns_X4 : Cond.instantiable RX4 5 ∈ zT := zT_mem (i := 92) (by decide +kernel) rfl
theorem wIni_X4 : Cond.initialized RX4 ∈ zT := zT_mem (i := 5) (by decide +kernel) rfl
theorem wCo_X4_init : Cond.code yX4_init cX4_init 1 (none) ∈ zT := zT_mem (i := 95) (by decide +kernel) rfl
theorem n_X4_init : zYN mX4_init 0 := ⟨by decide +kernel, by decide +kernel, by decide +kernel⟩
theorem wIn_X4_init : Cond.instanceMethod yX4_init ∈ zT := zT_mem (i := 94) (by decide +kernel) rfl
theorem kX2_9 : zKN RX2 9 mX4_init 0 := ⟨⟨"SwingLeaves", by decide +kernel⟩, wIn_X4_init, wIni_X4, wCo_X4_init, n_X4_init, rfl, rfl⟩
theorem fX2_10 : zF RX2 10 2 0 := zF.mk (RX2, TX2, 3) 338 rfl rfl (by decide +kernel) rfl
theorem fX2_16 : zF RX2 16 2 1 := zF.mk (RX2, TX2, 3) 340 rfl rfl (by decide +kernel) rfl
theorem fX2_20 : zF RX2 20 2 2 := zF.mk (RX2, TX2, 3) 342 rfl rfl (by decide +kernel) rfl
theorem kX8_3 : Cond.methodLink RX8 3 Lib.objectInit ∈ zT := zT_mem (i := 280) (by decide +kernel) rfl
theorem lX8_9 : Cond.classLink RX8 9 RX4 ∈ zT := zT_mem (i := 281) (by decide +kernel) rfl
theorem kX8_11 : zKN RX8 11 mX4_init 0 := ⟨⟨"SwingLeaves", by decide +kernel⟩, wIn_X4_init, wIni_X4, wCo_X4_init, n_X4_init, rfl, rfl⟩
theorem lX8_18 : Cond.classLink RX8 18 RX6 ∈ zT := zT_mem (i := 283) (by decide +kernel) rfl
theorem wIns_X6 : Cond.instantiable RX6 4 ∈ zT := zT_mem (i := 284) (by decide +kernel) rfl
theorem wCo_X6_init : Cond.code yX6_init cX6_init 1 (none) ∈ zT := zT_mem (i := 287) (by decide +kernel) rfl
theorem n_X6_init : zYN mX6_init 0 := ⟨by decide +kernel, by decide +kernel, by decide +kernel⟩
theorem wIn_X6_init : Cond.instanceMethod yX6_init ∈ zT := zT_mem (i := 286) (by decide +kernel) rfl
theorem kX8_20 : zKN RX8 20 mX6_init 0 := ⟨⟨"SwingLeaves", by decide +kernel⟩, wIn_X6_init, wIni_X6, wCo_X6_init, n_X6_init, rfl, rfl⟩
theorem fX8_21 : zF RX8 21 8 4 := zF.mk (RX8, TX8, 7) 309 rfl rfl (by decide +kernel) rfl
theorem fX8_25 : zF RX8 25 8 5 := zF.mk (RX8, TX8, 7) 310 rfl rfl (by decide +kernel) rfl
theorem fX8_29 : zF RX8 29 8 6 := zF.mk (RX8, TX8, 7) 312 rfl rfl (by decide +kernel) rfl
theorem fX8_39 : zF RX8 39 8 2 := zF.mk (RX8, TX8, 7) 307 rfl rfl (by decide +kernel) rfl
theorem wCo_X4_copyFrom : Cond.code yX4_copyFrom cX4_copyFrom 2 (none) ∈ zT := zT_mem (i := 462) (by decide +kernel) rfl
theorem n_X4_copyFrom : zYN mX4_copyFrom 1 := ⟨by decide +kernel, by decide +kernel, by decide +kernel⟩
theorem wIn_X4_copyFrom : Cond.instanceMethod yX4_copyFrom ∈ zT := zT_mem (i := 460) (by decide +kernel) rfl
theorem wSe_X4_copyFrom : Cond.selects RX4 yX4_copyFrom yX4_copyFrom ∈ zT := zT_mem (i := 461) (by decide +kernel) rfl
theorem wlX8_43 : Cond.methodLink RX8 43 yX4_copyFrom ∈ zT := zT_mem (i := 639) (by decide +kernel) rfl
theorem kX8_43 : zKV RX8 43 mX4_copyFrom 1 := ⟨wlX8_43, wIn_X4_copyFrom, wSe_X4_copyFrom, wIni_X4, wCo_X4_copyFrom, n_X4_copyFrom⟩
theorem cX8_47 : Cond.constant RX8 47 (1000000000) ∈ zT := zT_mem (i := 659) (by decide +kernel) rfl
theorem wCo_X9_noImage : Cond.code yX9_noImage cX9_noImage 1 (some .boolean) ∈ zT := zT_mem (i := 814) (by decide +kernel) rfl
theorem n_X9_noImage : zYN mX9_noImage 1 := ⟨by decide +kernel, by decide +kernel, by decide +kernel⟩
theorem wSt_X9_noImage : Cond.static yX9_noImage ∈ zT := zT_mem (i := 813) (by decide +kernel) rfl
theorem wlX9_282 : Cond.methodLink RX9 282 yX9_noImage ∈ zT := zT_mem (i := 812) (by decide +kernel) rfl
theorem kX9_282 : zKS RX9 282 mX9_noImage 1 := ⟨wlX9_282, wSt_X9_noImage, wIni_X9, wCo_X9_noImage, n_X9_noImage⟩
theorem fX9_50 : zF RX9 50 9 5 := zF.mk (RX9, TX9, 11) 356 rfl rfl (by decide +kernel) rfl
theorem fX9_97 : zF RX9 97 2 2 := zF.mk (RX2, TX2, 3) 343 rfl rfl (by decide +kernel) rfl
theorem fX9_285 : zF RX9 285 2 0 := zF.mk (RX2, TX2, 3) 339 rfl rfl (by decide +kernel) rfl
theorem wlX9_94 : Cond.methodLink RX9 94 yX4_copyFrom ∈ zT := zT_mem (i := 459) (by decide +kernel) rfl
theorem kX9_94 : zKV RX9 94 mX4_copyFrom 1 := ⟨wlX9_94, wIn_X4_copyFrom, wSe_X4_copyFrom, wIni_X4, wCo_X4_copyFrom, n_X4_copyFrom⟩
theorem fX9_286 : zF RX9 286 2 1 := zF.mk (RX2, TX2, 3) 341 rfl rfl (by decide +kernel) rfl
theorem wCo_X9_carried : Cond.code yX9_carried cX9_carried 2 (some .int) ∈ zT := zT_mem (i := 768) (by decide +kernel) rfl
theorem n_X9_carried : zYN mX9_carried 2 := ⟨by decide +kernel, by decide +kernel, by decide +kernel⟩
theorem wSt_X9_carried : Cond.static yX9_carried ∈ zT := zT_mem (i := 767) (by decide +kernel) rfl
theorem wlX9_262 : Cond.methodLink RX9 262 yX9_carried ∈ zT := zT_mem (i := 766) (by decide +kernel) rfl
theorem kX9_262 : zKS RX9 262 mX9_carried 2 := ⟨wlX9_262, wSt_X9_carried, wIni_X9, wCo_X9_carried, n_X9_carried⟩
theorem wCo_X5_readNumber : Cond.code yX5_readNumber cX5_readNumber 5 (some .int) ∈ zT := zT_mem (i := 424) (by decide +kernel) rfl
theorem n_X5_readNumber : zYN mX5_readNumber 2 := ⟨by decide +kernel, by decide +kernel, by decide +kernel⟩
theorem wIn_X5_readNumber : Cond.instanceMethod yX5_readNumber ∈ zT := zT_mem (i := 423) (by decide +kernel) rfl
theorem wSe_X5_readNumber : Cond.selects RX5 yX5_readNumber yX5_readNumber ∈ zT := zT_memS (i := 3) (by decide +kernel) rfl
theorem wlX5_88 : Cond.methodLink RX5 88 yX5_readNumber ∈ zT := zT_mem (i := 421) (by decide +kernel) rfl
theorem kX5_88 : zKV RX5 88 mX5_readNumber 2 := ⟨wlX5_88, wIn_X5_readNumber, wSe_X5_readNumber, wIni_X5, wCo_X5_readNumber, n_X5_readNumber⟩
theorem fX5_29 : zF RX5 29 5 3 := zF.mk (RX5, TX5, 11) 139 rfl rfl (by decide +kernel) rfl
theorem fX5_12 : zF RX5 12 5 0 := zF.mk (RX5, TX5, 11) 134 rfl rfl (by decide +kernel) rfl
theorem fX5_92 : zF RX5 92 1 0 := zF.mk (RX1, TX1, 7) 43 rfl rfl (by decide +kernel) rfl
theorem fX5_95 : zF RX5 95 1 1 := zF.mk (RX1, TX1, 7) 47 rfl rfl (by decide +kernel) rfl
theorem wCo_X5_readEnd : Cond.code yX5_readEnd cX5_readEnd 1 (none) ∈ zT := zT_mem (i := 439) (by decide +kernel) rfl
theorem n_X5_readEnd : zYN mX5_readEnd 0 := ⟨by decide +kernel, by decide +kernel, by decide +kernel⟩
theorem wIn_X5_readEnd : Cond.instanceMethod yX5_readEnd ∈ zT := zT_mem (i := 438) (by decide +kernel) rfl
theorem wSe_X5_readEnd : Cond.selects RX5 yX5_readEnd yX5_readEnd ∈ zT := zT_memS (i := 6) (by decide +kernel) rfl
theorem wlX5_98 : Cond.methodLink RX5 98 yX5_readEnd ∈ zT := zT_mem (i := 436) (by decide +kernel) rfl
theorem kX5_98 : zKV RX5 98 mX5_readEnd 0 := ⟨wlX5_98, wIn_X5_readEnd, wSe_X5_readEnd, wIni_X5, wCo_X5_readEnd, n_X5_readEnd⟩
theorem fX5_52 : zF RX5 52 5 10 := zF.mk (RX5, TX5, 11) 149 rfl rfl (by decide +kernel) rfl
theorem fX5_21 : zF RX5 21 5 1 := zF.mk (RX5, TX5, 11) 136 rfl rfl (by decide +kernel) rfl
theorem fX5_128 : zF RX5 128 4 4 := zF.mk (RX4, TX4, 5) 121 rfl rfl (by decide +kernel) rfl
theorem fX5_101 : zF RX5 101 1 6 := zF.mk (RX1, TX1, 7) 73 rfl rfl (by decide +kernel) rfl
theorem fX5_104 : zF RX5 104 1 2 := zF.mk (RX1, TX1, 7) 53 rfl rfl (by decide +kernel) rfl
theorem fX5_107 : zF RX5 107 4 0 := zF.mk (RX4, TX4, 5) 100 rfl rfl (by decide +kernel) rfl
theorem fX5_110 : zF RX5 110 1 3 := zF.mk (RX1, TX1, 7) 57 rfl rfl (by decide +kernel) rfl
theorem fX5_113 : zF RX5 113 1 4 := zF.mk (RX1, TX1, 7) 61 rfl rfl (by decide +kernel) rfl
theorem fX5_116 : zF RX5 116 4 1 := zF.mk (RX4, TX4, 5) 104 rfl rfl (by decide +kernel) rfl
theorem fX5_119 : zF RX5 119 4 2 := zF.mk (RX4, TX4, 5) 111 rfl rfl (by decide +kernel) rfl
theorem fX5_122 : zF RX5 122 1 5 := zF.mk (RX1, TX1, 7) 67 rfl rfl (by decide +kernel) rfl
theorem fX5_48 : zF RX5 48 5 9 := zF.mk (RX5, TX5, 11) 148 rfl rfl (by decide +kernel) rfl
theorem fX5_125 : zF RX5 125 4 3 := zF.mk (RX4, TX4, 5) 116 rfl rfl (by decide +kernel) rfl
theorem fX0_58 : zF RX0 58 1 3 := zF.mk (RX1, TX1, 7) 56 rfl rfl (by decide +kernel) rfl
theorem fX0_67 : zF RX0 67 4 2 := zF.mk (RX4, TX4, 5) 109 rfl rfl (by decide +kernel) rfl
theorem wCo_X0_chooseLeaf : Cond.code yX0_chooseLeaf cX0_chooseLeaf 6 (some .int) ∈ zT := zT_mem (i := 496) (by decide +kernel) rfl
theorem n_X0_chooseLeaf : zYN mX0_chooseLeaf 3 := ⟨by decide +kernel, by decide +kernel, by decide +kernel⟩
theorem wIn_X0_chooseLeaf : Cond.instanceMethod yX0_chooseLeaf ∈ zT := zT_mem (i := 495) (by decide +kernel) rfl
theorem wSe_X0_chooseLeaf : Cond.selects RX0 yX0_chooseLeaf yX0_chooseLeaf ∈ zT := zT_memS (i := 13) (by decide +kernel) rfl
theorem wlX0_70 : Cond.methodLink RX0 70 yX0_chooseLeaf ∈ zT := zT_mem (i := 493) (by decide +kernel) rfl
theorem kX0_70 : zKV RX0 70 mX0_chooseLeaf 3 := ⟨wlX0_70, wIn_X0_chooseLeaf, wSe_X0_chooseLeaf, wIni_X0, wCo_X0_chooseLeaf, n_X0_chooseLeaf⟩
theorem fX0_77 : zF RX0 77 7 6 := zF.mk (RX7, TX7, 8) 201 rfl rfl (by decide +kernel) rfl
theorem fX0_84 : zF RX0 84 4 3 := zF.mk (RX4, TX4, 5) 114 rfl rfl (by decide +kernel) rfl
theorem wCo_X0_isHeard : Cond.code yX0_isHeard cX0_isHeard 6 (some .boolean) ∈ zT := zT_mem (i := 504) (by decide +kernel) rfl
theorem n_X0_isHeard : zYN mX0_isHeard 2 := ⟨by decide +kernel, by decide +kernel, by decide +kernel⟩
theorem wIn_X0_isHeard : Cond.instanceMethod yX0_isHeard ∈ zT := zT_mem (i := 503) (by decide +kernel) rfl
theorem wSe_X0_isHeard : Cond.selects RX0 yX0_isHeard yX0_isHeard ∈ zT := zT_memS (i := 14) (by decide +kernel) rfl
theorem wlX0_87 : Cond.methodLink RX0 87 yX0_isHeard ∈ zT := zT_mem (i := 501) (by decide +kernel) rfl
theorem kX0_87 : zKV RX0 87 mX0_isHeard 2 := ⟨wlX0_87, wIn_X0_isHeard, wSe_X0_isHeard, wIni_X0, wCo_X0_isHeard, n_X0_isHeard⟩
theorem fX0_91 : zF RX0 91 7 2 := zF.mk (RX7, TX7, 8) 196 rfl rfl (by decide +kernel) rfl
theorem wCo_X0_crashBoth : Cond.code yX0_crashBoth cX0_crashBoth 3 (none) ∈ zT := zT_mem (i := 508) (by decide +kernel) rfl
theorem n_X0_crashBoth : zYN mX0_crashBoth 2 := ⟨by decide +kernel, by decide +kernel, by decide +kernel⟩
theorem wIn_X0_crashBoth : Cond.instanceMethod yX0_crashBoth ∈ zT := zT_mem (i := 507) (by decide +kernel) rfl
theorem wSe_X0_crashBoth : Cond.selects RX0 yX0_crashBoth yX0_crashBoth ∈ zT := zT_memS (i := 15) (by decide +kernel) rfl
theorem wlX0_94 : Cond.methodLink RX0 94 yX0_crashBoth ∈ zT := zT_mem (i := 505) (by decide +kernel) rfl
theorem kX0_94 : zKV RX0 94 mX0_crashBoth 2 := ⟨wlX0_94, wIn_X0_crashBoth, wSe_X0_crashBoth, wIni_X0, wCo_X0_crashBoth, n_X0_crashBoth⟩
theorem fX0_98 : zF RX0 98 7 1 := zF.mk (RX7, TX7, 8) 194 rfl rfl (by decide +kernel) rfl
theorem wCo_X0_goThrough : Cond.code yX0_goThrough cX0_goThrough 7 (none) ∈ zT := zT_mem (i := 516) (by decide +kernel) rfl
theorem n_X0_goThrough : zYN mX0_goThrough 3 := ⟨by decide +kernel, by decide +kernel, by decide +kernel⟩
theorem wIn_X0_goThrough : Cond.instanceMethod yX0_goThrough ∈ zT := zT_mem (i := 515) (by decide +kernel) rfl
theorem wSe_X0_goThrough : Cond.selects RX0 yX0_goThrough yX0_goThrough ∈ zT := zT_memS (i := 16) (by decide +kernel) rfl
theorem wlX0_101 : Cond.methodLink RX0 101 yX0_goThrough ∈ zT := zT_mem (i := 513) (by decide +kernel) rfl
theorem kX0_101 : zKV RX0 101 mX0_goThrough 3 := ⟨wlX0_101, wIn_X0_goThrough, wSe_X0_goThrough, wIni_X0, wCo_X0_goThrough, n_X0_goThrough⟩
theorem fX0_108 : zF RX0 108 3 1 := zF.mk (RX3, TX3, 6) 232 rfl rfl (by decide +kernel) rfl
theorem wCo_X7_letThrough : Cond.code yX7_letThrough cX7_letThrough 5 (none) ∈ zT := zT_mem (i := 535) (by decide +kernel) rfl
theorem n_X7_letThrough : zYN mX7_letThrough 4 := ⟨by decide +kernel, by decide +kernel, by decide +kernel⟩
theorem wIn_X7_letThrough : Cond.instanceMethod yX7_letThrough ∈ zT := zT_mem (i := 533) (by decide +kernel) rfl
theorem wSe_X7_letThrough : Cond.selects RX7 yX7_letThrough yX7_letThrough ∈ zT := zT_mem (i := 534) (by decide +kernel) rfl
theorem wlX0_114 : Cond.methodLink RX0 114 yX7_letThrough ∈ zT := zT_mem (i := 532) (by decide +kernel) rfl
theorem kX0_114 : zKV RX0 114 mX7_letThrough 4 := ⟨wlX0_114, wIn_X7_letThrough, wSe_X7_letThrough, wIni_X7, wCo_X7_letThrough, n_X7_letThrough⟩
theorem kX5_3 : Cond.methodLink RX5 3 Lib.objectInit ∈ zT := zT_mem (i := 28) (by decide +kernel) rfl
theorem lX5_9 : Cond.classLink RX5 9 RX1 ∈ zT := zT_mem (i := 29) (by decide +kernel) rfl
theorem wIns_X1 : Cond.instantiable RX1 7 ∈ zT := zT_mem (i := 30) (by decide +kernel) rfl
theorem wCo_X1_init : Cond.code yX1_init cX1_init 1 (none) ∈ zT := zT_mem (i := 33) (by decide +kernel) rfl
theorem n_X1_init : zYN mX1_init 0 := ⟨by decide +kernel, by decide +kernel, by decide +kernel⟩
theorem wIn_X1_init : Cond.instanceMethod yX1_init ∈ zT := zT_mem (i := 32) (by decide +kernel) rfl
theorem wlX5_11 : Cond.methodLink RX5 11 yX1_init ∈ zT := zT_mem (i := 31) (by decide +kernel) rfl
theorem kX5_11 : zKI RX5 11 mX1_init 0 := ⟨wlX5_11, wIn_X1_init, wIni_X1, wCo_X1_init, n_X1_init, rfl, rfl⟩
theorem lX5_18 : Cond.classLink RX5 18 RX4 ∈ zT := zT_mem (i := 91) (by decide +kernel) rfl
theorem kX5_20 : zKN RX5 20 mX4_init 0 := ⟨⟨"SwingLeaves", by decide +kernel⟩, wIn_X4_init, wIni_X4, wCo_X4_init, n_X4_init, rfl, rfl⟩
theorem fX10_149 : zF RX10 149 10 14 := zF.mk (RX10, TX10, 47) 839 rfl rfl (by decide +kernel) rfl
theorem wCo_X10_isNumber : Cond.code yX10_isNumber cX10_isNumber 3 (some .boolean) ∈ zT := zT_mem (i := 996) (by decide +kernel) rfl
theorem n_X10_isNumber : zYN mX10_isNumber 2 := ⟨by decide +kernel, by decide +kernel, by decide +kernel⟩
theorem wIn_X10_isNumber : Cond.instanceMethod yX10_isNumber ∈ zT := zT_mem (i := 995) (by decide +kernel) rfl
theorem wSe_X10_isNumber : Cond.selects RX10 yX10_isNumber yX10_isNumber ∈ zT := zT_memS (i := 32) (by decide +kernel) rfl
theorem wlX10_139 : Cond.methodLink RX10 139 yX10_isNumber ∈ zT := zT_mem (i := 993) (by decide +kernel) rfl
theorem kX10_139 : zKV RX10 139 mX10_isNumber 2 := ⟨wlX10_139, wIn_X10_isNumber, wSe_X10_isNumber, wIni_X10, wCo_X10_isNumber, n_X10_isNumber⟩
theorem fX10_153 : zF RX10 153 10 12 := zF.mk (RX10, TX10, 47) 837 rfl rfl (by decide +kernel) rfl
theorem fX10_143 : zF RX10 143 10 11 := zF.mk (RX10, TX10, 47) 836 rfl rfl (by decide +kernel) rfl
theorem fX10_156 : zF RX10 156 10 15 := zF.mk (RX10, TX10, 47) 840 rfl rfl (by decide +kernel) rfl
theorem fX10_159 : zF RX10 159 10 13 := zF.mk (RX10, TX10, 47) 838 rfl rfl (by decide +kernel) rfl
theorem fX10_146 : zF RX10 146 10 8 := zF.mk (RX10, TX10, 47) 833 rfl rfl (by decide +kernel) rfl
theorem wCo_X10_look : Cond.code yX10_look cX10_look 6 (none) ∈ zT := zT_mem (i := 1032) (by decide +kernel) rfl
theorem n_X10_look : zYN mX10_look 1 := ⟨by decide +kernel, by decide +kernel, by decide +kernel⟩
theorem wIn_X10_look : Cond.instanceMethod yX10_look ∈ zT := zT_mem (i := 1031) (by decide +kernel) rfl
theorem wSe_X10_look : Cond.selects RX10 yX10_look yX10_look ∈ zT := zT_memS (i := 39) (by decide +kernel) rfl
theorem wlX10_220 : Cond.methodLink RX10 220 yX10_look ∈ zT := zT_mem (i := 1029) (by decide +kernel) rfl
theorem kX10_220 : zKV RX10 220 mX10_look 1 := ⟨wlX10_220, wIn_X10_look, wSe_X10_look, wIni_X10, wCo_X10_look, n_X10_look⟩
theorem wCo_X5_readLeaf : Cond.code yX5_readLeaf cX5_readLeaf 2 (none) ∈ zT := zT_mem (i := 420) (by decide +kernel) rfl
theorem n_X5_readLeaf : zYN mX5_readLeaf 0 := ⟨by decide +kernel, by decide +kernel, by decide +kernel⟩
theorem wIn_X5_readLeaf : Cond.instanceMethod yX5_readLeaf ∈ zT := zT_mem (i := 419) (by decide +kernel) rfl
theorem wSe_X5_readLeaf : Cond.selects RX5 yX5_readLeaf yX5_readLeaf ∈ zT := zT_memS (i := 2) (by decide +kernel) rfl
theorem wlX5_72 : Cond.methodLink RX5 72 yX5_readLeaf ∈ zT := zT_mem (i := 417) (by decide +kernel) rfl
theorem kX5_72 : zKV RX5 72 mX5_readLeaf 0 := ⟨wlX5_72, wIn_X5_readLeaf, wSe_X5_readLeaf, wIni_X5, wCo_X5_readLeaf, n_X5_readLeaf⟩
theorem wCo_X5_readWaiter : Cond.code yX5_readWaiter cX5_readWaiter 2 (none) ∈ zT := zT_mem (i := 443) (by decide +kernel) rfl
theorem n_X5_readWaiter : zYN mX5_readWaiter 0 := ⟨by decide +kernel, by decide +kernel, by decide +kernel⟩
theorem wIn_X5_readWaiter : Cond.instanceMethod yX5_readWaiter ∈ zT := zT_mem (i := 442) (by decide +kernel) rfl
theorem wSe_X5_readWaiter : Cond.selects RX5 yX5_readWaiter yX5_readWaiter ∈ zT := zT_memS (i := 7) (by decide +kernel) rfl
theorem wlX5_75 : Cond.methodLink RX5 75 yX5_readWaiter ∈ zT := zT_mem (i := 440) (by decide +kernel) rfl
theorem kX5_75 : zKV RX5 75 mX5_readWaiter 0 := ⟨wlX5_75, wIn_X5_readWaiter, wSe_X5_readWaiter, wIni_X5, wCo_X5_readWaiter, n_X5_readWaiter⟩
theorem wCo_X5_readWindow : Cond.code yX5_readWindow cX5_readWindow 1 (none) ∈ zT := zT_mem (i := 447) (by decide +kernel) rfl
theorem n_X5_readWindow : zYN mX5_readWindow 0 := ⟨by decide +kernel, by decide +kernel, by decide +kernel⟩
theorem wIn_X5_readWindow : Cond.instanceMethod yX5_readWindow ∈ zT := zT_mem (i := 446) (by decide +kernel) rfl
theorem wSe_X5_readWindow : Cond.selects RX5 yX5_readWindow yX5_readWindow ∈ zT := zT_memS (i := 8) (by decide +kernel) rfl
theorem wlX5_78 : Cond.methodLink RX5 78 yX5_readWindow ∈ zT := zT_mem (i := 444) (by decide +kernel) rfl
theorem kX5_78 : zKV RX5 78 mX5_readWindow 0 := ⟨wlX5_78, wIn_X5_readWindow, wSe_X5_readWindow, wIni_X5, wCo_X5_readWindow, n_X5_readWindow⟩
theorem wCo_X5_readNoise : Cond.code yX5_readNoise cX5_readNoise 1 (none) ∈ zT := zT_mem (i := 451) (by decide +kernel) rfl
theorem n_X5_readNoise : zYN mX5_readNoise 0 := ⟨by decide +kernel, by decide +kernel, by decide +kernel⟩
theorem wIn_X5_readNoise : Cond.instanceMethod yX5_readNoise ∈ zT := zT_mem (i := 450) (by decide +kernel) rfl
theorem wSe_X5_readNoise : Cond.selects RX5 yX5_readNoise yX5_readNoise ∈ zT := zT_memS (i := 9) (by decide +kernel) rfl
theorem wlX5_81 : Cond.methodLink RX5 81 yX5_readNoise ∈ zT := zT_mem (i := 448) (by decide +kernel) rfl
theorem kX5_81 : zKV RX5 81 mX5_readNoise 0 := ⟨wlX5_81, wIn_X5_readNoise, wSe_X5_readNoise, wIni_X5, wCo_X5_readNoise, n_X5_readNoise⟩
theorem wCo_X7_rest : Cond.code yX7_rest cX7_rest 1 (none) ∈ zT := zT_mem (i := 483) (by decide +kernel) rfl
theorem n_X7_rest : zYN mX7_rest 0 := ⟨by decide +kernel, by decide +kernel, by decide +kernel⟩
theorem wIn_X7_rest : Cond.instanceMethod yX7_rest ∈ zT := zT_mem (i := 481) (by decide +kernel) rfl
theorem wSe_X7_rest : Cond.selects RX7 yX7_rest yX7_rest ∈ zT := zT_mem (i := 482) (by decide +kernel) rfl
theorem wlX0_33 : Cond.methodLink RX0 33 yX7_rest ∈ zT := zT_mem (i := 480) (by decide +kernel) rfl
theorem kX0_33 : zKV RX0 33 mX7_rest 0 := ⟨wlX0_33, wIn_X7_rest, wSe_X7_rest, wIni_X7, wCo_X7_rest, n_X7_rest⟩
theorem wCo_X0_lineUp : Cond.code yX0_lineUp cX0_lineUp 4 (none) ∈ zT := zT_mem (i := 488) (by decide +kernel) rfl
theorem n_X0_lineUp : zYN mX0_lineUp 1 := ⟨by decide +kernel, by decide +kernel, by decide +kernel⟩
theorem wIn_X0_lineUp : Cond.instanceMethod yX0_lineUp ∈ zT := zT_mem (i := 487) (by decide +kernel) rfl
theorem wSe_X0_lineUp : Cond.selects RX0 yX0_lineUp yX0_lineUp ∈ zT := zT_memS (i := 11) (by decide +kernel) rfl
theorem wlX0_36 : Cond.methodLink RX0 36 yX0_lineUp ∈ zT := zT_mem (i := 485) (by decide +kernel) rfl
theorem kX0_36 : zKV RX0 36 mX0_lineUp 1 := ⟨wlX0_36, wIn_X0_lineUp, wSe_X0_lineUp, wIni_X0, wCo_X0_lineUp, n_X0_lineUp⟩
theorem wCo_X0_lookAt : Cond.code yX0_lookAt cX0_lookAt 10 (none) ∈ zT := zT_mem (i := 492) (by decide +kernel) rfl
theorem n_X0_lookAt : zYN mX0_lookAt 2 := ⟨by decide +kernel, by decide +kernel, by decide +kernel⟩
theorem wIn_X0_lookAt : Cond.instanceMethod yX0_lookAt ∈ zT := zT_mem (i := 491) (by decide +kernel) rfl
theorem wSe_X0_lookAt : Cond.selects RX0 yX0_lookAt yX0_lookAt ∈ zT := zT_memS (i := 12) (by decide +kernel) rfl
theorem wlX0_46 : Cond.methodLink RX0 46 yX0_lookAt ∈ zT := zT_mem (i := 489) (by decide +kernel) rfl
theorem kX0_46 : zKV RX0 46 mX0_lookAt 2 := ⟨wlX0_46, wIn_X0_lookAt, wSe_X0_lookAt, wIni_X0, wCo_X0_lookAt, n_X0_lookAt⟩
theorem kX9_1 : Cond.methodLink RX9 1 Lib.objectInit ∈ zT := zT_mem (i := 20) (by decide +kernel) rfl
theorem lX9_7 : Cond.classLink RX9 7 RX5 ∈ zT := zT_mem (i := 23) (by decide +kernel) rfl
theorem wIns_X5 : Cond.instantiable RX5 11 ∈ zT := zT_mem (i := 24) (by decide +kernel) rfl
theorem wCo_X5_init : Cond.code yX5_init cX5_init 1 (none) ∈ zT := zT_mem (i := 27) (by decide +kernel) rfl
theorem n_X5_init : zYN mX5_init 0 := ⟨by decide +kernel, by decide +kernel, by decide +kernel⟩
theorem wIn_X5_init : Cond.instanceMethod yX5_init ∈ zT := zT_mem (i := 26) (by decide +kernel) rfl
theorem kX9_9 : zKN RX9 9 mX5_init 0 := ⟨⟨"SwingLeaves", by decide +kernel⟩, wIn_X5_init, wIni_X5, wCo_X5_init, n_X5_init, rfl, rfl⟩
theorem lX9_16 : Cond.classLink RX9 16 RX1 ∈ zT := zT_mem (i := 173) (by decide +kernel) rfl
theorem wlX9_18 : Cond.methodLink RX9 18 yX1_init ∈ zT := zT_mem (i := 174) (by decide +kernel) rfl
theorem kX9_18 : zKI RX9 18 mX1_init 0 := ⟨wlX9_18, wIn_X1_init, wIni_X1, wCo_X1_init, n_X1_init, rfl, rfl⟩
theorem lX9_23 : Cond.classLink RX9 23 RX4 ∈ zT := zT_mem (i := 175) (by decide +kernel) rfl
theorem kX9_25 : zKN RX9 25 mX4_init 0 := ⟨⟨"SwingLeaves", by decide +kernel⟩, wIn_X4_init, wIni_X4, wCo_X4_init, n_X4_init, rfl, rfl⟩
theorem lX9_30 : Cond.classLink RX9 30 RX0 ∈ zT := zT_mem (i := 177) (by decide +kernel) rfl
theorem wIns_X0 : Cond.instantiable RX0 4 ∈ zT := zT_mem (i := 178) (by decide +kernel) rfl
theorem wCo_X0_init : Cond.code yX0_init cX0_init 3 (none) ∈ zT := zT_mem (i := 181) (by decide +kernel) rfl
theorem n_X0_init : zYN mX0_init 1 := ⟨by decide +kernel, by decide +kernel, by decide +kernel⟩
theorem wIn_X0_init : Cond.instanceMethod yX0_init ∈ zT := zT_mem (i := 180) (by decide +kernel) rfl
theorem wlX9_32 : Cond.methodLink RX9 32 yX0_init ∈ zT := zT_mem (i := 179) (by decide +kernel) rfl
theorem kX9_32 : zKI RX9 32 mX0_init 1 := ⟨wlX9_32, wIn_X0_init, wIni_X0, wCo_X0_init, n_X0_init, rfl, rfl⟩
theorem fX9_35 : zF RX9 35 9 3 := zF.mk (RX9, TX9, 11) 354 rfl rfl (by decide +kernel) rfl
theorem lX9_39 : Cond.classLink RX9 39 RX8 ∈ zT := zT_mem (i := 275) (by decide +kernel) rfl
theorem wIns_X8 : Cond.instantiable RX8 7 ∈ zT := zT_mem (i := 276) (by decide +kernel) rfl
theorem wCo_X8_init : Cond.code yX8_init cX8_init 4 (none) ∈ zT := zT_mem (i := 279) (by decide +kernel) rfl
theorem n_X8_init : zYN mX8_init 3 := ⟨by decide +kernel, by decide +kernel, by decide +kernel⟩
theorem wIn_X8_init : Cond.instanceMethod yX8_init ∈ zT := zT_mem (i := 278) (by decide +kernel) rfl
theorem wlX9_41 : Cond.methodLink RX9 41 yX8_init ∈ zT := zT_mem (i := 277) (by decide +kernel) rfl
theorem kX9_41 : zKI RX9 41 mX8_init 3 := ⟨wlX9_41, wIn_X8_init, wIni_X8, wCo_X8_init, n_X8_init, rfl, rfl⟩
theorem lX9_48 : Cond.classLink RX9 48 RX2 ∈ zT := zT_mem (i := 329) (by decide +kernel) rfl
theorem wCo_X2_init : Cond.code yX2_init cX2_init 1 (none) ∈ zT := zT_mem (i := 334) (by decide +kernel) rfl
theorem wIni_X2 : Cond.initialized RX2 ∈ zT := zT_mem (i := 11) (by decide +kernel) rfl
theorem n_X2_init : zYN mX2_init 0 := ⟨by decide +kernel, by decide +kernel, by decide +kernel⟩
theorem wIn_X2_init : Cond.instanceMethod yX2_init ∈ zT := zT_mem (i := 333) (by decide +kernel) rfl
theorem kX9_72 : zKN RX9 72 mX2_init 0 := ⟨⟨"SwingLeaves", by decide +kernel⟩, wIn_X2_init, wIni_X2, wCo_X2_init, n_X2_init, rfl, rfl⟩
theorem wCo_X10_isLeafLine : Cond.code yX10_isLeafLine cX10_isLeafLine 2 (some .boolean) ∈ zT := zT_mem (i := 992) (by decide +kernel) rfl
theorem n_X10_isLeafLine : zYN mX10_isLeafLine 0 := ⟨by decide +kernel, by decide +kernel, by decide +kernel⟩
theorem wIn_X10_isLeafLine : Cond.instanceMethod yX10_isLeafLine ∈ zT := zT_mem (i := 991) (by decide +kernel) rfl
theorem wSe_X10_isLeafLine : Cond.selects RX10 yX10_isLeafLine yX10_isLeafLine ∈ zT := zT_memS (i := 31) (by decide +kernel) rfl
theorem wlX10_162 : Cond.methodLink RX10 162 yX10_isLeafLine ∈ zT := zT_mem (i := 989) (by decide +kernel) rfl
theorem kX10_162 : zKV RX10 162 mX10_isLeafLine 0 := ⟨wlX10_162, wIn_X10_isLeafLine, wSe_X10_isLeafLine, wIni_X10, wCo_X10_isLeafLine, n_X10_isLeafLine⟩
theorem wCo_X10_isEnd : Cond.code yX10_isEnd cX10_isEnd 1 (some .boolean) ∈ zT := zT_mem (i := 1004) (by decide +kernel) rfl
theorem n_X10_isEnd : zYN mX10_isEnd 0 := ⟨by decide +kernel, by decide +kernel, by decide +kernel⟩
theorem wIn_X10_isEnd : Cond.instanceMethod yX10_isEnd ∈ zT := zT_mem (i := 1003) (by decide +kernel) rfl
theorem wSe_X10_isEnd : Cond.selects RX10 yX10_isEnd yX10_isEnd ∈ zT := zT_memS (i := 34) (by decide +kernel) rfl
theorem wlX10_166 : Cond.methodLink RX10 166 yX10_isEnd ∈ zT := zT_mem (i := 1001) (by decide +kernel) rfl
theorem kX10_166 : zKV RX10 166 mX10_isEnd 0 := ⟨wlX10_166, wIn_X10_isEnd, wSe_X10_isEnd, wIni_X10, wCo_X10_isEnd, n_X10_isEnd⟩
theorem wCo_X10_isWaiterLine : Cond.code yX10_isWaiterLine cX10_isWaiterLine 5 (some .boolean) ∈ zT := zT_mem (i := 1008) (by decide +kernel) rfl
theorem n_X10_isWaiterLine : zYN mX10_isWaiterLine 0 := ⟨by decide +kernel, by decide +kernel, by decide +kernel⟩
theorem wIn_X10_isWaiterLine : Cond.instanceMethod yX10_isWaiterLine ∈ zT := zT_mem (i := 1007) (by decide +kernel) rfl
theorem wSe_X10_isWaiterLine : Cond.selects RX10 yX10_isWaiterLine yX10_isWaiterLine ∈ zT := zT_memS (i := 35) (by decide +kernel) rfl
theorem wlX10_169 : Cond.methodLink RX10 169 yX10_isWaiterLine ∈ zT := zT_mem (i := 1005) (by decide +kernel) rfl
theorem kX10_169 : zKV RX10 169 mX10_isWaiterLine 0 := ⟨wlX10_169, wIn_X10_isWaiterLine, wSe_X10_isWaiterLine, wIni_X10, wCo_X10_isWaiterLine, n_X10_isWaiterLine⟩
theorem wCo_X10_isGlassLine : Cond.code yX10_isGlassLine cX10_isGlassLine 1 (some .boolean) ∈ zT := zT_mem (i := 1012) (by decide +kernel) rfl
theorem n_X10_isGlassLine : zYN mX10_isGlassLine 0 := ⟨by decide +kernel, by decide +kernel, by decide +kernel⟩
theorem wIn_X10_isGlassLine : Cond.instanceMethod yX10_isGlassLine ∈ zT := zT_mem (i := 1011) (by decide +kernel) rfl
theorem wSe_X10_isGlassLine : Cond.selects RX10 yX10_isGlassLine yX10_isGlassLine ∈ zT := zT_memS (i := 36) (by decide +kernel) rfl
theorem wlX10_172 : Cond.methodLink RX10 172 yX10_isGlassLine ∈ zT := zT_mem (i := 1009) (by decide +kernel) rfl
theorem kX10_172 : zKV RX10 172 mX10_isGlassLine 0 := ⟨wlX10_172, wIn_X10_isGlassLine, wSe_X10_isGlassLine, wIni_X10, wCo_X10_isGlassLine, n_X10_isGlassLine⟩
theorem wCo_X10_isNoiseLine : Cond.code yX10_isNoiseLine cX10_isNoiseLine 1 (some .boolean) ∈ zT := zT_mem (i := 1016) (by decide +kernel) rfl
theorem n_X10_isNoiseLine : zYN mX10_isNoiseLine 0 := ⟨by decide +kernel, by decide +kernel, by decide +kernel⟩
theorem wIn_X10_isNoiseLine : Cond.instanceMethod yX10_isNoiseLine ∈ zT := zT_mem (i := 1015) (by decide +kernel) rfl
theorem wSe_X10_isNoiseLine : Cond.selects RX10 yX10_isNoiseLine yX10_isNoiseLine ∈ zT := zT_memS (i := 37) (by decide +kernel) rfl
theorem wlX10_175 : Cond.methodLink RX10 175 yX10_isNoiseLine ∈ zT := zT_mem (i := 1013) (by decide +kernel) rfl
theorem kX10_175 : zKV RX10 175 mX10_isNoiseLine 0 := ⟨wlX10_175, wIn_X10_isNoiseLine, wSe_X10_isNoiseLine, wIni_X10, wCo_X10_isNoiseLine, n_X10_isNoiseLine⟩
theorem wCo_X10_hold : Cond.code yX10_hold cX10_hold 2 (none) ∈ zT := zT_mem (i := 1130) (by decide +kernel) rfl
theorem n_X10_hold : zYN mX10_hold 0 := ⟨by decide +kernel, by decide +kernel, by decide +kernel⟩
theorem wIn_X10_hold : Cond.instanceMethod yX10_hold ∈ zT := zT_mem (i := 1129) (by decide +kernel) rfl
theorem wSe_X10_hold : Cond.selects RX10 yX10_hold yX10_hold ∈ zT := zT_memS (i := 51) (by decide +kernel) rfl
theorem wlX10_245 : Cond.methodLink RX10 245 yX10_hold ∈ zT := zT_mem (i := 1127) (by decide +kernel) rfl
theorem kX10_245 : zKV RX10 245 mX10_hold 0 := ⟨wlX10_245, wIn_X10_hold, wSe_X10_hold, wIni_X10, wCo_X10_hold, n_X10_hold⟩
theorem wCo_X10_costNow : Cond.code yX10_costNow cX10_costNow 6 (some .int) ∈ zT := zT_mem (i := 1028) (by decide +kernel) rfl
theorem n_X10_costNow : zYN mX10_costNow 0 := ⟨by decide +kernel, by decide +kernel, by decide +kernel⟩
theorem wIn_X10_costNow : Cond.instanceMethod yX10_costNow ∈ zT := zT_mem (i := 1027) (by decide +kernel) rfl
theorem wSe_X10_costNow : Cond.selects RX10 yX10_costNow yX10_costNow ∈ zT := zT_memS (i := 38) (by decide +kernel) rfl
theorem wlX10_223 : Cond.methodLink RX10 223 yX10_costNow ∈ zT := zT_mem (i := 1025) (by decide +kernel) rfl
theorem kX10_223 : zKV RX10 223 mX10_costNow 0 := ⟨wlX10_223, wIn_X10_costNow, wSe_X10_costNow, wIni_X10, wCo_X10_costNow, n_X10_costNow⟩
theorem wCo_X10_release : Cond.code yX10_release cX10_release 2 (none) ∈ zT := zT_mem (i := 1134) (by decide +kernel) rfl
theorem n_X10_release : zYN mX10_release 0 := ⟨by decide +kernel, by decide +kernel, by decide +kernel⟩
theorem wIn_X10_release : Cond.instanceMethod yX10_release ∈ zT := zT_mem (i := 1133) (by decide +kernel) rfl
theorem wSe_X10_release : Cond.selects RX10 yX10_release yX10_release ∈ zT := zT_memS (i := 52) (by decide +kernel) rfl
theorem wlX10_248 : Cond.methodLink RX10 248 yX10_release ∈ zT := zT_mem (i := 1131) (by decide +kernel) rfl
theorem kX10_248 : zKV RX10 248 mX10_release 0 := ⟨wlX10_248, wIn_X10_release, wSe_X10_release, wIni_X10, wCo_X10_release, n_X10_release⟩
theorem wCo_X10_draw : Cond.code yX10_draw cX10_draw 4 (some .int) ∈ zT := zT_mem (i := 1110) (by decide +kernel) rfl
theorem n_X10_draw : zYN mX10_draw 1 := ⟨by decide +kernel, by decide +kernel, by decide +kernel⟩
theorem wIn_X10_draw : Cond.instanceMethod yX10_draw ∈ zT := zT_mem (i := 1109) (by decide +kernel) rfl
theorem wSe_X10_draw : Cond.selects RX10 yX10_draw yX10_draw ∈ zT := zT_memS (i := 50) (by decide +kernel) rfl
theorem wlX10_242 : Cond.methodLink RX10 242 yX10_draw ∈ zT := zT_mem (i := 1107) (by decide +kernel) rfl
theorem kX10_242 : zKV RX10 242 mX10_draw 1 := ⟨wlX10_242, wIn_X10_draw, wSe_X10_draw, wIni_X10, wCo_X10_draw, n_X10_draw⟩
theorem wCo_X10_layPlaces : Cond.code yX10_layPlaces cX10_layPlaces 5 (some .int) ∈ zT := zT_mem (i := 1162) (by decide +kernel) rfl
theorem n_X10_layPlaces : zYN mX10_layPlaces 1 := ⟨by decide +kernel, by decide +kernel, by decide +kernel⟩
theorem wIn_X10_layPlaces : Cond.instanceMethod yX10_layPlaces ∈ zT := zT_mem (i := 1161) (by decide +kernel) rfl
theorem wSe_X10_layPlaces : Cond.selects RX10 yX10_layPlaces yX10_layPlaces ∈ zT := zT_memS (i := 53) (by decide +kernel) rfl
theorem wlX10_251 : Cond.methodLink RX10 251 yX10_layPlaces ∈ zT := zT_mem (i := 1159) (by decide +kernel) rfl
theorem kX10_251 : zKV RX10 251 mX10_layPlaces 1 := ⟨wlX10_251, wIn_X10_layPlaces, wSe_X10_layPlaces, wIni_X10, wCo_X10_layPlaces, n_X10_layPlaces⟩
theorem wlX5_55 : Cond.methodLink RX5 55 yX1_makeUntold ∈ zT := zT_mem (i := 403) (by decide +kernel) rfl
theorem kX5_55 : zKV RX5 55 mX1_makeUntold 0 := ⟨wlX5_55, wIn_X1_makeUntold, wSe_X1_makeUntold, wIni_X1, wCo_X1_makeUntold, n_X1_makeUntold⟩
theorem wCo_X4_makeUntold : Cond.code yX4_makeUntold cX4_makeUntold 1 (none) ∈ zT := zT_mem (i := 407) (by decide +kernel) rfl
theorem n_X4_makeUntold : zYN mX4_makeUntold 0 := ⟨by decide +kernel, by decide +kernel, by decide +kernel⟩
theorem wIn_X4_makeUntold : Cond.instanceMethod yX4_makeUntold ∈ zT := zT_mem (i := 405) (by decide +kernel) rfl
theorem wSe_X4_makeUntold : Cond.selects RX4 yX4_makeUntold yX4_makeUntold ∈ zT := zT_mem (i := 406) (by decide +kernel) rfl
theorem wlX5_58 : Cond.methodLink RX5 58 yX4_makeUntold ∈ zT := zT_mem (i := 404) (by decide +kernel) rfl
theorem kX5_58 : zKV RX5 58 mX4_makeUntold 0 := ⟨wlX5_58, wIn_X4_makeUntold, wSe_X4_makeUntold, wIni_X4, wCo_X4_makeUntold, n_X4_makeUntold⟩
theorem wlX5_59 : Cond.methodLink RX5 59 yJ7_fill_53178 ∈ zT := zT_mem (i := 408) (by decide +kernel) rfl
theorem kX5_59 : zKS RX5 59 mJ7_fill_53178 2 := ⟨wlX5_59, wSt_J7_fill_53178, wIni_J7, wCo_J7_fill_53178, n_J7_fill_53178⟩
theorem wCo_X5_readClause : Cond.code yX5_readClause cX5_readClause 2 (none) ∈ zT := zT_mem (i := 416) (by decide +kernel) rfl
theorem n_X5_readClause : zYN mX5_readClause 1 := ⟨by decide +kernel, by decide +kernel, by decide +kernel⟩
theorem wIn_X5_readClause : Cond.instanceMethod yX5_readClause ∈ zT := zT_mem (i := 415) (by decide +kernel) rfl
theorem wSe_X5_readClause : Cond.selects RX5 yX5_readClause yX5_readClause ∈ zT := zT_memS (i := 1) (by decide +kernel) rfl
theorem wlX5_68 : Cond.methodLink RX5 68 yX5_readClause ∈ zT := zT_mem (i := 413) (by decide +kernel) rfl
theorem kX5_68 : zKV RX5 68 mX5_readClause 1 := ⟨wlX5_68, wIn_X5_readClause, wSe_X5_readClause, wIni_X5, wCo_X5_readClause, n_X5_readClause⟩
theorem wCo_X0_run : Cond.code yX0_run cX0_run 3 (none) ∈ zT := zT_mem (i := 479) (by decide +kernel) rfl
theorem n_X0_run : zYN mX0_run 1 := ⟨by decide +kernel, by decide +kernel, by decide +kernel⟩
theorem wIn_X0_run : Cond.instanceMethod yX0_run ∈ zT := zT_mem (i := 477) (by decide +kernel) rfl
theorem wSe_X0_run : Cond.selects RX0 yX0_run yX0_run ∈ zT := zT_mem (i := 478) (by decide +kernel) rfl
theorem wlX8_48 : Cond.methodLink RX8 48 yX0_run ∈ zT := zT_mem (i := 645) (by decide +kernel) rfl
theorem kX8_48 : zKV RX8 48 mX0_run 1 := ⟨wlX8_48, wIn_X0_run, wSe_X0_run, wIni_X0, wCo_X0_run, n_X0_run⟩
theorem fX8_137 : zF RX8 137 0 2 := zF.mk (RX0, TX0, 4) 264 rfl rfl (by decide +kernel) rfl
theorem fX8_141 : zF RX8 141 3 0 := zF.mk (RX3, TX3, 6) 230 rfl rfl (by decide +kernel) rfl
theorem wCo_X0_cost : Cond.code yX0_cost cX0_cost 1 (some .int) ∈ zT := zT_mem (i := 549) (by decide +kernel) rfl
theorem n_X0_cost : zYN mX0_cost 0 := ⟨by decide +kernel, by decide +kernel, by decide +kernel⟩
theorem wIn_X0_cost : Cond.instanceMethod yX0_cost ∈ zT := zT_mem (i := 547) (by decide +kernel) rfl
theorem wSe_X0_cost : Cond.selects RX0 yX0_cost yX0_cost ∈ zT := zT_mem (i := 548) (by decide +kernel) rfl
theorem wlX8_53 : Cond.methodLink RX8 53 yX0_cost ∈ zT := zT_mem (i := 646) (by decide +kernel) rfl
theorem kX8_53 : zKV RX8 53 mX0_cost 0 := ⟨wlX8_53, wIn_X0_cost, wSe_X0_cost, wIni_X0, wCo_X0_cost, n_X0_cost⟩
theorem wCo_X9_drawOf : Cond.code yX9_drawOf cX9_drawOf 2 (some .int) ∈ zT := zT_mem (i := 608) (by decide +kernel) rfl
theorem n_X9_drawOf : zYN mX9_drawOf 1 := ⟨by decide +kernel, by decide +kernel, by decide +kernel⟩
theorem wIn_X9_drawOf : Cond.instanceMethod yX9_drawOf ∈ zT := zT_mem (i := 607) (by decide +kernel) rfl
theorem wSe_X9_drawOf : Cond.selects RX9 yX9_drawOf yX9_drawOf ∈ zT := zT_memS (i := 19) (by decide +kernel) rfl
theorem wlX9_183 : Cond.methodLink RX9 183 yX9_drawOf ∈ zT := zT_mem (i := 605) (by decide +kernel) rfl
theorem kX9_183 : zKV RX9 183 mX9_drawOf 1 := ⟨wlX9_183, wIn_X9_drawOf, wSe_X9_drawOf, wIni_X9, wCo_X9_drawOf, n_X9_drawOf⟩
theorem wlX9_113 : Cond.methodLink RX9 113 yX0_run ∈ zT := zT_mem (i := 476) (by decide +kernel) rfl
theorem kX9_113 : zKV RX9 113 mX0_run 1 := ⟨wlX9_113, wIn_X0_run, wSe_X0_run, wIni_X0, wCo_X0_run, n_X0_run⟩
theorem wlX9_123 : Cond.methodLink RX9 123 yX0_cost ∈ zT := zT_mem (i := 546) (by decide +kernel) rfl
theorem kX9_123 : zKV RX9 123 mX0_cost 0 := ⟨wlX9_123, wIn_X0_cost, wSe_X0_cost, wIni_X0, wCo_X0_cost, n_X0_cost⟩
theorem fX9_194 : zF RX9 194 0 2 := zF.mk (RX0, TX0, 4) 263 rfl rfl (by decide +kernel) rfl
theorem fX9_198 : zF RX9 198 3 0 := zF.mk (RX3, TX3, 6) 229 rfl rfl (by decide +kernel) rfl
theorem wCo_X9_noLeaf : Cond.code yX9_noLeaf cX9_noLeaf 1 (some .boolean) ∈ zT := zT_mem (i := 566) (by decide +kernel) rfl
theorem n_X9_noLeaf : zYN mX9_noLeaf 1 := ⟨by decide +kernel, by decide +kernel, by decide +kernel⟩
theorem wSt_X9_noLeaf : Cond.static yX9_noLeaf ∈ zT := zT_mem (i := 565) (by decide +kernel) rfl
theorem wlX9_132 : Cond.methodLink RX9 132 yX9_noLeaf ∈ zT := zT_mem (i := 564) (by decide +kernel) rfl
theorem kX9_132 : zKS RX9 132 mX9_noLeaf 1 := ⟨wlX9_132, wSt_X9_noLeaf, wIni_X9, wCo_X9_noLeaf, n_X9_noLeaf⟩
theorem fX9_137 : zF RX9 137 1 0 := zF.mk (RX1, TX1, 7) 44 rfl rfl (by decide +kernel) rfl
theorem fX9_140 : zF RX9 140 1 1 := zF.mk (RX1, TX1, 7) 48 rfl rfl (by decide +kernel) rfl
theorem fX9_143 : zF RX9 143 0 1 := zF.mk (RX0, TX0, 4) 261 rfl rfl (by decide +kernel) rfl
theorem fX9_147 : zF RX9 147 7 6 := zF.mk (RX7, TX7, 8) 202 rfl rfl (by decide +kernel) rfl
theorem fX9_152 : zF RX9 152 7 7 := zF.mk (RX7, TX7, 8) 204 rfl rfl (by decide +kernel) rfl
theorem wCo_X7_doing : Cond.code yX7_doing cX7_doing 2 (some .int) ∈ zT := zT_mem (i := 624) (by decide +kernel) rfl
theorem n_X7_doing : zYN mX7_doing 1 := ⟨by decide +kernel, by decide +kernel, by decide +kernel⟩
theorem wIn_X7_doing : Cond.instanceMethod yX7_doing ∈ zT := zT_mem (i := 622) (by decide +kernel) rfl
theorem wSe_X7_doing : Cond.selects RX7 yX7_doing yX7_doing ∈ zT := zT_mem (i := 623) (by decide +kernel) rfl
theorem wlX9_217 : Cond.methodLink RX9 217 yX7_doing ∈ zT := zT_mem (i := 621) (by decide +kernel) rfl
theorem kX9_217 : zKV RX9 217 mX7_doing 1 := ⟨wlX9_217, wIn_X7_doing, wSe_X7_doing, wIni_X7, wCo_X7_doing, n_X7_doing⟩
theorem fX9_203 : zF RX9 203 3 1 := zF.mk (RX3, TX3, 6) 233 rfl rfl (by decide +kernel) rfl
theorem fX9_206 : zF RX9 206 3 2 := zF.mk (RX3, TX3, 6) 236 rfl rfl (by decide +kernel) rfl
theorem fX9_208 : zF RX9 208 3 3 := zF.mk (RX3, TX3, 6) 239 rfl rfl (by decide +kernel) rfl
theorem fX9_211 : zF RX9 211 3 4 := zF.mk (RX3, TX3, 6) 242 rfl rfl (by decide +kernel) rfl
theorem fX9_214 : zF RX9 214 3 5 := zF.mk (RX3, TX3, 6) 245 rfl rfl (by decide +kernel) rfl
theorem wlX9_116 : Cond.methodLink RX9 116 yX0_seconds ∈ zT := zT_mem (i := 538) (by decide +kernel) rfl
theorem kX9_116 : zKV RX9 116 mX0_seconds 0 := ⟨wlX9_116, wIn_X0_seconds, wSe_X0_seconds, wIni_X0, wCo_X0_seconds, n_X0_seconds⟩
theorem wlX9_120 : Cond.methodLink RX9 120 yX0_losses ∈ zT := zT_mem (i := 542) (by decide +kernel) rfl
theorem kX9_120 : zKV RX9 120 mX0_losses 0 := ⟨wlX9_120, wIn_X0_losses, wSe_X0_losses, wIni_X0, wCo_X0_losses, n_X0_losses⟩
theorem wCo_X0_howMany : Cond.code yX0_howMany cX0_howMany 4 (some .int) ∈ zT := zT_mem (i := 555) (by decide +kernel) rfl
theorem n_X0_howMany : zYN mX0_howMany 1 := ⟨by decide +kernel, by decide +kernel, by decide +kernel⟩
theorem wIn_X0_howMany : Cond.instanceMethod yX0_howMany ∈ zT := zT_mem (i := 553) (by decide +kernel) rfl
theorem wSe_X0_howMany : Cond.selects RX0 yX0_howMany yX0_howMany ∈ zT := zT_mem (i := 554) (by decide +kernel) rfl
theorem wlX9_126 : Cond.methodLink RX9 126 yX0_howMany ∈ zT := zT_mem (i := 552) (by decide +kernel) rfl
theorem kX9_126 : zKV RX9 126 mX0_howMany 1 := ⟨wlX9_126, wIn_X0_howMany, wSe_X0_howMany, wIni_X0, wCo_X0_howMany, n_X0_howMany⟩
theorem wCo_X0_end : Cond.code yX0_end cX0_end 3 (some .int) ∈ zT := zT_mem (i := 559) (by decide +kernel) rfl
theorem n_X0_end : zYN mX0_end 0 := ⟨by decide +kernel, by decide +kernel, by decide +kernel⟩
theorem wIn_X0_end : Cond.instanceMethod yX0_end ∈ zT := zT_mem (i := 557) (by decide +kernel) rfl
theorem wSe_X0_end : Cond.selects RX0 yX0_end yX0_end ∈ zT := zT_mem (i := 558) (by decide +kernel) rfl
theorem wlX9_129 : Cond.methodLink RX9 129 yX0_end ∈ zT := zT_mem (i := 556) (by decide +kernel) rfl
theorem kX9_129 : zKV RX9 129 mX0_end 0 := ⟨wlX9_129, wIn_X0_end, wSe_X0_end, wIni_X0, wCo_X0_end, n_X0_end⟩
theorem wCo_X10_isRead : Cond.code yX10_isRead cX10_isRead 2 (some .boolean) ∈ zT := zT_mem (i := 984) (by decide +kernel) rfl
theorem n_X10_isRead : zYN mX10_isRead 0 := ⟨by decide +kernel, by decide +kernel, by decide +kernel⟩
theorem wIn_X10_isRead : Cond.instanceMethod yX10_isRead ∈ zT := zT_mem (i := 983) (by decide +kernel) rfl
theorem wSe_X10_isRead : Cond.selects RX10 yX10_isRead yX10_isRead ∈ zT := zT_memS (i := 29) (by decide +kernel) rfl
theorem wlX10_178 : Cond.methodLink RX10 178 yX10_isRead ∈ zT := zT_mem (i := 981) (by decide +kernel) rfl
theorem kX10_178 : zKV RX10 178 mX10_isRead 0 := ⟨wlX10_178, wIn_X10_isRead, wSe_X10_isRead, wIni_X10, wCo_X10_isRead, n_X10_isRead⟩
theorem wCo_X5_read : Cond.code yX5_read cX5_read 2 (none) ∈ zT := zT_mem (i := 402) (by decide +kernel) rfl
theorem n_X5_read : zYN mX5_read 0 := ⟨by decide +kernel, by decide +kernel, by decide +kernel⟩
theorem wIn_X5_read : Cond.instanceMethod yX5_read ∈ zT := zT_mem (i := 400) (by decide +kernel) rfl
theorem wSe_X5_read : Cond.selects RX5 yX5_read yX5_read ∈ zT := zT_mem (i := 401) (by decide +kernel) rfl
theorem wlX9_82 : Cond.methodLink RX9 82 yX5_read ∈ zT := zT_mem (i := 399) (by decide +kernel) rfl
theorem kX9_82 : zKV RX9 82 mX5_read 0 := ⟨wlX9_82, wIn_X5_read, wSe_X5_read, wIni_X5, wCo_X5_read, n_X5_read⟩
theorem fX9_85 : zF RX9 85 5 5 := zF.mk (RX5, TX5, 11) 143 rfl rfl (by decide +kernel) rfl
theorem fX9_88 : zF RX9 88 5 6 := zF.mk (RX5, TX5, 11) 145 rfl rfl (by decide +kernel) rfl
theorem fX9_89 : zF RX9 89 5 0 := zF.mk (RX5, TX5, 11) 135 rfl rfl (by decide +kernel) rfl
theorem wCo_X1_copyFrom : Cond.code yX1_copyFrom cX1_copyFrom 2 (none) ∈ zT := zT_mem (i := 455) (by decide +kernel) rfl
theorem n_X1_copyFrom : zYN mX1_copyFrom 1 := ⟨by decide +kernel, by decide +kernel, by decide +kernel⟩
theorem wIn_X1_copyFrom : Cond.instanceMethod yX1_copyFrom ∈ zT := zT_mem (i := 453) (by decide +kernel) rfl
theorem wSe_X1_copyFrom : Cond.selects RX1 yX1_copyFrom yX1_copyFrom ∈ zT := zT_mem (i := 454) (by decide +kernel) rfl
theorem wlX9_90 : Cond.methodLink RX9 90 yX1_copyFrom ∈ zT := zT_mem (i := 452) (by decide +kernel) rfl
theorem kX9_90 : zKV RX9 90 mX1_copyFrom 1 := ⟨wlX9_90, wIn_X1_copyFrom, wSe_X1_copyFrom, wIni_X1, wCo_X1_copyFrom, n_X1_copyFrom⟩
theorem fX9_93 : zF RX9 93 5 1 := zF.mk (RX5, TX5, 11) 137 rfl rfl (by decide +kernel) rfl
theorem wlX8_61 : Cond.methodLink RX8 61 yJ7_fill_53178 ∈ zT := zT_mem (i := 640) (by decide +kernel) rfl
theorem kX8_61 : zKS RX8 61 mJ7_fill_53178 2 := ⟨wlX8_61, wSt_J7_fill_53178, wIni_J7, wCo_J7_fill_53178, n_J7_fill_53178⟩
theorem wCo_X8_trialCost : Cond.code yX8_trialCost cX8_trialCost 1 (some .int) ∈ zT := zT_mem (i := 644) (by decide +kernel) rfl
theorem n_X8_trialCost : zYN mX8_trialCost 0 := ⟨by decide +kernel, by decide +kernel, by decide +kernel⟩
theorem wIn_X8_trialCost : Cond.instanceMethod yX8_trialCost ∈ zT := zT_mem (i := 643) (by decide +kernel) rfl
theorem wSe_X8_trialCost : Cond.selects RX8 yX8_trialCost yX8_trialCost ∈ zT := zT_memS (i := 20) (by decide +kernel) rfl
theorem wlX8_67 : Cond.methodLink RX8 67 yX8_trialCost ∈ zT := zT_mem (i := 641) (by decide +kernel) rfl
theorem kX8_67 : zKV RX8 67 mX8_trialCost 0 := ⟨wlX8_67, wIn_X8_trialCost, wSe_X8_trialCost, wIni_X8, wCo_X8_trialCost, n_X8_trialCost⟩
theorem fX8_102 : zF RX8 102 4 4 := zF.mk (RX4, TX4, 5) 122 rfl rfl (by decide +kernel) rfl
theorem wCo_X6_gather : Cond.code yX6_gather cX6_gather 5 (none) ∈ zT := zT_mem (i := 718) (by decide +kernel) rfl
theorem n_X6_gather : zYN mX6_gather 3 := ⟨by decide +kernel, by decide +kernel, by decide +kernel⟩
theorem wIn_X6_gather : Cond.instanceMethod yX6_gather ∈ zT := zT_mem (i := 716) (by decide +kernel) rfl
theorem wSe_X6_gather : Cond.selects RX6 yX6_gather yX6_gather ∈ zT := zT_mem (i := 717) (by decide +kernel) rfl
theorem wlX8_105 : Cond.methodLink RX8 105 yX6_gather ∈ zT := zT_mem (i := 715) (by decide +kernel) rfl
theorem kX8_105 : zKV RX8 105 mX6_gather 3 := ⟨wlX8_105, wIn_X6_gather, wSe_X6_gather, wIni_X6, wCo_X6_gather, n_X6_gather⟩
theorem wCo_X6_seatBy : Cond.code yX6_seatBy cX6_seatBy 5 (none) ∈ zT := zT_mem (i := 726) (by decide +kernel) rfl
theorem n_X6_seatBy : zYN mX6_seatBy 1 := ⟨by decide +kernel, by decide +kernel, by decide +kernel⟩
theorem wIn_X6_seatBy : Cond.instanceMethod yX6_seatBy ∈ zT := zT_mem (i := 724) (by decide +kernel) rfl
theorem wSe_X6_seatBy : Cond.selects RX6 yX6_seatBy yX6_seatBy ∈ zT := zT_mem (i := 725) (by decide +kernel) rfl
theorem wlX8_109 : Cond.methodLink RX8 109 yX6_seatBy ∈ zT := zT_mem (i := 723) (by decide +kernel) rfl
theorem kX8_109 : zKV RX8 109 mX6_seatBy 1 := ⟨wlX8_109, wIn_X6_seatBy, wSe_X6_seatBy, wIni_X6, wCo_X6_seatBy, n_X6_seatBy⟩
theorem fX8_112 : zF RX8 112 6 3 := zF.mk (RX6, TX6, 4) 295 rfl rfl (by decide +kernel) rfl
theorem fX8_115 : zF RX8 115 6 0 := zF.mk (RX6, TX6, 4) 290 rfl rfl (by decide +kernel) rfl
theorem wCo_X6_giveTenths : Cond.code yX6_giveTenths cX6_giveTenths 3 (none) ∈ zT := zT_mem (i := 737) (by decide +kernel) rfl
theorem n_X6_giveTenths : zYN mX6_giveTenths 1 := ⟨by decide +kernel, by decide +kernel, by decide +kernel⟩
theorem wIn_X6_giveTenths : Cond.instanceMethod yX6_giveTenths ∈ zT := zT_mem (i := 735) (by decide +kernel) rfl
theorem wSe_X6_giveTenths : Cond.selects RX6 yX6_giveTenths yX6_giveTenths ∈ zT := zT_mem (i := 736) (by decide +kernel) rfl
theorem wlX8_118 : Cond.methodLink RX8 118 yX6_giveTenths ∈ zT := zT_mem (i := 734) (by decide +kernel) rfl
theorem kX8_118 : zKV RX8 118 mX6_giveTenths 1 := ⟨wlX8_118, wIn_X6_giveTenths, wSe_X6_giveTenths, wIni_X6, wCo_X6_giveTenths, n_X6_giveTenths⟩
theorem fX8_99 : zF RX8 99 4 3 := zF.mk (RX4, TX4, 5) 117 rfl rfl (by decide +kernel) rfl
theorem wCo_X8_kindOnOtherLeaf : Cond.code yX8_kindOnOtherLeaf cX8_kindOnOtherLeaf 2 (some .int) ∈ zT := zT_mem (i := 791) (by decide +kernel) rfl
theorem n_X8_kindOnOtherLeaf : zYN mX8_kindOnOtherLeaf 1 := ⟨by decide +kernel, by decide +kernel, by decide +kernel⟩
theorem wIn_X8_kindOnOtherLeaf : Cond.instanceMethod yX8_kindOnOtherLeaf ∈ zT := zT_mem (i := 789) (by decide +kernel) rfl
theorem wSe_X8_kindOnOtherLeaf : Cond.selects RX8 yX8_kindOnOtherLeaf yX8_kindOnOtherLeaf ∈ zT := zT_mem (i := 790) (by decide +kernel) rfl
theorem wlX9_279 : Cond.methodLink RX9 279 yX8_kindOnOtherLeaf ∈ zT := zT_mem (i := 788) (by decide +kernel) rfl
theorem kX9_279 : zKV RX9 279 mX8_kindOnOtherLeaf 1 := ⟨wlX9_279, wIn_X8_kindOnOtherLeaf, wSe_X8_kindOnOtherLeaf, wIni_X8, wCo_X8_kindOnOtherLeaf, n_X8_kindOnOtherLeaf⟩
theorem wCo_X9_toldOfEvening : Cond.code yX9_toldOfEvening cX9_toldOfEvening 2 (some .int) ∈ zT := zT_mem (i := 475) (by decide +kernel) rfl
theorem n_X9_toldOfEvening : zYN mX9_toldOfEvening 1 := ⟨by decide +kernel, by decide +kernel, by decide +kernel⟩
theorem wIn_X9_toldOfEvening : Cond.instanceMethod yX9_toldOfEvening ∈ zT := zT_mem (i := 474) (by decide +kernel) rfl
theorem wSe_X9_toldOfEvening : Cond.selects RX9 yX9_toldOfEvening yX9_toldOfEvening ∈ zT := zT_memS (i := 10) (by decide +kernel) rfl
theorem wlX9_110 : Cond.methodLink RX9 110 yX9_toldOfEvening ∈ zT := zT_mem (i := 472) (by decide +kernel) rfl
theorem kX9_110 : zKV RX9 110 mX9_toldOfEvening 1 := ⟨wlX9_110, wIn_X9_toldOfEvening, wSe_X9_toldOfEvening, wIni_X9, wCo_X9_toldOfEvening, n_X9_toldOfEvening⟩
theorem wCo_X8_startSearch : Cond.code yX8_startSearch cX8_startSearch 1 (none) ∈ zT := zT_mem (i := 658) (by decide +kernel) rfl
theorem n_X8_startSearch : zYN mX8_startSearch 0 := ⟨by decide +kernel, by decide +kernel, by decide +kernel⟩
theorem wIn_X8_startSearch : Cond.instanceMethod yX8_startSearch ∈ zT := zT_mem (i := 657) (by decide +kernel) rfl
theorem wSe_X8_startSearch : Cond.selects RX8 yX8_startSearch yX8_startSearch ∈ zT := zT_memS (i := 21) (by decide +kernel) rfl
theorem wlX8_70 : Cond.methodLink RX8 70 yX8_startSearch ∈ zT := zT_mem (i := 655) (by decide +kernel) rfl
theorem kX8_70 : zKV RX8 70 mX8_startSearch 0 := ⟨wlX8_70, wIn_X8_startSearch, wSe_X8_startSearch, wIni_X8, wCo_X8_startSearch, n_X8_startSearch⟩
theorem wCo_X6_orders : Cond.code yX6_orders cX6_orders 1 (some .int) ∈ zT := zT_mem (i := 749) (by decide +kernel) rfl
theorem n_X6_orders : zYN mX6_orders 0 := ⟨by decide +kernel, by decide +kernel, by decide +kernel⟩
theorem wIn_X6_orders : Cond.instanceMethod yX6_orders ∈ zT := zT_mem (i := 747) (by decide +kernel) rfl
theorem wSe_X6_orders : Cond.selects RX6 yX6_orders yX6_orders ∈ zT := zT_mem (i := 748) (by decide +kernel) rfl
theorem wlX8_121 : Cond.methodLink RX8 121 yX6_orders ∈ zT := zT_mem (i := 746) (by decide +kernel) rfl
theorem kX8_121 : zKV RX8 121 mX6_orders 0 := ⟨wlX8_121, wIn_X6_orders, wSe_X6_orders, wIni_X6, wCo_X6_orders, n_X6_orders⟩
theorem wCo_X8_weigh : Cond.code yX8_weigh cX8_weigh 3 (none) ∈ zT := zT_mem (i := 667) (by decide +kernel) rfl
theorem n_X8_weigh : zYN mX8_weigh 1 := ⟨by decide +kernel, by decide +kernel, by decide +kernel⟩
theorem wIn_X8_weigh : Cond.instanceMethod yX8_weigh ∈ zT := zT_mem (i := 666) (by decide +kernel) rfl
theorem wSe_X8_weigh : Cond.selects RX8 yX8_weigh yX8_weigh ∈ zT := zT_memS (i := 23) (by decide +kernel) rfl
theorem wlX8_82 : Cond.methodLink RX8 82 yX8_weigh ∈ zT := zT_mem (i := 664) (by decide +kernel) rfl
theorem kX8_82 : zKV RX8 82 mX8_weigh 1 := ⟨wlX8_82, wIn_X8_weigh, wSe_X8_weigh, wIni_X8, wCo_X8_weigh, n_X8_weigh⟩
theorem fX8_124 : zF RX8 124 6 1 := zF.mk (RX6, TX6, 4) 292 rfl rfl (by decide +kernel) rfl
theorem wCo_X8_spellRules : Cond.code yX8_spellRules cX8_spellRules 4 (none) ∈ zT := zT_mem (i := 663) (by decide +kernel) rfl
theorem n_X8_spellRules : zYN mX8_spellRules 1 := ⟨by decide +kernel, by decide +kernel, by decide +kernel⟩
theorem wIn_X8_spellRules : Cond.instanceMethod yX8_spellRules ∈ zT := zT_mem (i := 662) (by decide +kernel) rfl
theorem wSe_X8_spellRules : Cond.selects RX8 yX8_spellRules yX8_spellRules ∈ zT := zT_memS (i := 22) (by decide +kernel) rfl
theorem wlX8_78 : Cond.methodLink RX8 78 yX8_spellRules ∈ zT := zT_mem (i := 660) (by decide +kernel) rfl
theorem kX8_78 : zKV RX8 78 mX8_spellRules 1 := ⟨wlX8_78, wIn_X8_spellRules, wSe_X8_spellRules, wIni_X8, wCo_X8_spellRules, n_X8_spellRules⟩
theorem wCo_X8_oneComesAt : Cond.code yX8_oneComesAt cX8_oneComesAt 3 (some .boolean) ∈ zT := zT_mem (i := 687) (by decide +kernel) rfl
theorem n_X8_oneComesAt : zYN mX8_oneComesAt 1 := ⟨by decide +kernel, by decide +kernel, by decide +kernel⟩
theorem wIn_X8_oneComesAt : Cond.instanceMethod yX8_oneComesAt ∈ zT := zT_mem (i := 686) (by decide +kernel) rfl
theorem wSe_X8_oneComesAt : Cond.selects RX8 yX8_oneComesAt yX8_oneComesAt ∈ zT := zT_memS (i := 24) (by decide +kernel) rfl
theorem wlX8_88 : Cond.methodLink RX8 88 yX8_oneComesAt ∈ zT := zT_mem (i := 684) (by decide +kernel) rfl
theorem kX8_88 : zKV RX8 88 mX8_oneComesAt 1 := ⟨wlX8_88, wIn_X8_oneComesAt, wSe_X8_oneComesAt, wIni_X8, wCo_X8_oneComesAt, n_X8_oneComesAt⟩
theorem wCo_X8_changeAt : Cond.code yX8_changeAt cX8_changeAt 5 (none) ∈ zT := zT_mem (i := 691) (by decide +kernel) rfl
theorem n_X8_changeAt : zYN mX8_changeAt 3 := ⟨by decide +kernel, by decide +kernel, by decide +kernel⟩
theorem wIn_X8_changeAt : Cond.instanceMethod yX8_changeAt ∈ zT := zT_mem (i := 690) (by decide +kernel) rfl
theorem wSe_X8_changeAt : Cond.selects RX8 yX8_changeAt yX8_changeAt ∈ zT := zT_memS (i := 25) (by decide +kernel) rfl
theorem wlX8_92 : Cond.methodLink RX8 92 yX8_changeAt ∈ zT := zT_mem (i := 688) (by decide +kernel) rfl
theorem kX8_92 : zKV RX8 92 mX8_changeAt 3 := ⟨wlX8_92, wIn_X8_changeAt, wSe_X8_changeAt, wIni_X8, wCo_X8_changeAt, n_X8_changeAt⟩
theorem fX8_85 : zF RX8 85 4 1 := zF.mk (RX4, TX4, 5) 106 rfl rfl (by decide +kernel) rfl
theorem wCo_X9_noRule : Cond.code yX9_noRule cX9_noRule 1 (some .boolean) ∈ zT := zT_mem (i := 634) (by decide +kernel) rfl
theorem n_X9_noRule : zYN mX9_noRule 1 := ⟨by decide +kernel, by decide +kernel, by decide +kernel⟩
theorem wSt_X9_noRule : Cond.static yX9_noRule ∈ zT := zT_mem (i := 633) (by decide +kernel) rfl
theorem wlX9_220 : Cond.methodLink RX9 220 yX9_noRule ∈ zT := zT_mem (i := 632) (by decide +kernel) rfl
theorem kX9_220 : zKS RX9 220 mX9_noRule 1 := ⟨wlX9_220, wSt_X9_noRule, wIni_X9, wCo_X9_noRule, n_X9_noRule⟩
theorem wCo_X8_allBy : Cond.code yX8_allBy cX8_allBy 2 (some .int) ∈ zT := zT_mem (i := 638) (by decide +kernel) rfl
theorem n_X8_allBy : zYN mX8_allBy 1 := ⟨by decide +kernel, by decide +kernel, by decide +kernel⟩
theorem wIn_X8_allBy : Cond.instanceMethod yX8_allBy ∈ zT := zT_mem (i := 636) (by decide +kernel) rfl
theorem wSe_X8_allBy : Cond.selects RX8 yX8_allBy yX8_allBy ∈ zT := zT_mem (i := 637) (by decide +kernel) rfl
theorem wlX9_223 : Cond.methodLink RX9 223 yX8_allBy ∈ zT := zT_mem (i := 635) (by decide +kernel) rfl
theorem kX9_223 : zKV RX9 223 mX8_allBy 1 := ⟨wlX9_223, wIn_X8_allBy, wSe_X8_allBy, wIni_X8, wCo_X8_allBy, n_X8_allBy⟩
theorem wCo_X8_windowSaves : Cond.code yX8_windowSaves cX8_windowSaves 2 (some .int) ∈ zT := zT_mem (i := 699) (by decide +kernel) rfl
theorem n_X8_windowSaves : zYN mX8_windowSaves 0 := ⟨by decide +kernel, by decide +kernel, by decide +kernel⟩
theorem wIn_X8_windowSaves : Cond.instanceMethod yX8_windowSaves ∈ zT := zT_mem (i := 697) (by decide +kernel) rfl
theorem wSe_X8_windowSaves : Cond.selects RX8 yX8_windowSaves yX8_windowSaves ∈ zT := zT_mem (i := 698) (by decide +kernel) rfl
theorem wlX9_243 : Cond.methodLink RX9 243 yX8_windowSaves ∈ zT := zT_mem (i := 696) (by decide +kernel) rfl
theorem kX9_243 : zKV RX9 243 mX8_windowSaves 0 := ⟨wlX9_243, wIn_X8_windowSaves, wSe_X8_windowSaves, wIni_X8, wCo_X8_windowSaves, n_X8_windowSaves⟩
theorem wCo_X8_quietSaves : Cond.code yX8_quietSaves cX8_quietSaves 2 (some .int) ∈ zT := zT_mem (i := 703) (by decide +kernel) rfl
theorem n_X8_quietSaves : zYN mX8_quietSaves 0 := ⟨by decide +kernel, by decide +kernel, by decide +kernel⟩
theorem wIn_X8_quietSaves : Cond.instanceMethod yX8_quietSaves ∈ zT := zT_mem (i := 701) (by decide +kernel) rfl
theorem wSe_X8_quietSaves : Cond.selects RX8 yX8_quietSaves yX8_quietSaves ∈ zT := zT_mem (i := 702) (by decide +kernel) rfl
theorem wlX9_246 : Cond.methodLink RX9 246 yX8_quietSaves ∈ zT := zT_mem (i := 700) (by decide +kernel) rfl
theorem kX9_246 : zKV RX9 246 mX8_quietSaves 0 := ⟨wlX9_246, wIn_X8_quietSaves, wSe_X8_quietSaves, wIni_X8, wCo_X8_quietSaves, n_X8_quietSaves⟩
theorem wCo_X9_noSide : Cond.code yX9_noSide cX9_noSide 1 (some .boolean) ∈ zT := zT_mem (i := 710) (by decide +kernel) rfl
theorem n_X9_noSide : zYN mX9_noSide 1 := ⟨by decide +kernel, by decide +kernel, by decide +kernel⟩
theorem wSt_X9_noSide : Cond.static yX9_noSide ∈ zT := zT_mem (i := 709) (by decide +kernel) rfl
theorem wlX9_249 : Cond.methodLink RX9 249 yX9_noSide ∈ zT := zT_mem (i := 708) (by decide +kernel) rfl
theorem kX9_249 : zKS RX9 249 mX9_noSide 1 := ⟨wlX9_249, wSt_X9_noSide, wIni_X9, wCo_X9_noSide, n_X9_noSide⟩
theorem wCo_X8_spread : Cond.code yX8_spread cX8_spread 4 (some .int) ∈ zT := zT_mem (i := 714) (by decide +kernel) rfl
theorem n_X8_spread : zYN mX8_spread 2 := ⟨by decide +kernel, by decide +kernel, by decide +kernel⟩
theorem wIn_X8_spread : Cond.instanceMethod yX8_spread ∈ zT := zT_mem (i := 712) (by decide +kernel) rfl
theorem wSe_X8_spread : Cond.selects RX8 yX8_spread yX8_spread ∈ zT := zT_mem (i := 713) (by decide +kernel) rfl
theorem wlX9_252 : Cond.methodLink RX9 252 yX8_spread ∈ zT := zT_mem (i := 711) (by decide +kernel) rfl
theorem kX9_252 : zKV RX9 252 mX8_spread 2 := ⟨wlX9_252, wIn_X8_spread, wSe_X8_spread, wIni_X8, wCo_X8_spread, n_X8_spread⟩
theorem wCo_X8_findKick : Cond.code yX8_findKick cX8_findKick 3 (none) ∈ zT := zT_mem (i := 675) (by decide +kernel) rfl
theorem n_X8_findKick : zYN mX8_findKick 1 := ⟨by decide +kernel, by decide +kernel, by decide +kernel⟩
theorem wIn_X8_findKick : Cond.instanceMethod yX8_findKick ∈ zT := zT_mem (i := 673) (by decide +kernel) rfl
theorem wSe_X8_findKick : Cond.selects RX8 yX8_findKick yX8_findKick ∈ zT := zT_mem (i := 674) (by decide +kernel) rfl
theorem wlX9_229 : Cond.methodLink RX9 229 yX8_findKick ∈ zT := zT_mem (i := 672) (by decide +kernel) rfl
theorem kX9_229 : zKV RX9 229 mX8_findKick 1 := ⟨wlX9_229, wIn_X8_findKick, wSe_X8_findKick, wIni_X8, wCo_X8_findKick, n_X8_findKick⟩
theorem fX9_233 : zF RX9 233 8 5 := zF.mk (RX8, TX8, 7) 311 rfl rfl (by decide +kernel) rfl
theorem fX9_236 : zF RX9 236 8 6 := zF.mk (RX8, TX8, 7) 313 rfl rfl (by decide +kernel) rfl
theorem wCo_X8_bestRules : Cond.code yX8_bestRules cX8_bestRules 4 (some .int) ∈ zT := zT_mem (i := 654) (by decide +kernel) rfl
theorem n_X8_bestRules : zYN mX8_bestRules 1 := ⟨by decide +kernel, by decide +kernel, by decide +kernel⟩
theorem wIn_X8_bestRules : Cond.instanceMethod yX8_bestRules ∈ zT := zT_mem (i := 652) (by decide +kernel) rfl
theorem wSe_X8_bestRules : Cond.selects RX8 yX8_bestRules yX8_bestRules ∈ zT := zT_mem (i := 653) (by decide +kernel) rfl
theorem wlX9_226 : Cond.methodLink RX9 226 yX8_bestRules ∈ zT := zT_mem (i := 651) (by decide +kernel) rfl
theorem kX9_226 : zKV RX9 226 mX8_bestRules 1 := ⟨wlX9_226, wIn_X8_bestRules, wSe_X8_bestRules, wIni_X8, wCo_X8_bestRules, n_X8_bestRules⟩
theorem wCo_X8_findChange : Cond.code yX8_findChange cX8_findChange 4 (none) ∈ zT := zT_mem (i := 683) (by decide +kernel) rfl
theorem n_X8_findChange : zYN mX8_findChange 2 := ⟨by decide +kernel, by decide +kernel, by decide +kernel⟩
theorem wIn_X8_findChange : Cond.instanceMethod yX8_findChange ∈ zT := zT_mem (i := 681) (by decide +kernel) rfl
theorem wSe_X8_findChange : Cond.selects RX8 yX8_findChange yX8_findChange ∈ zT := zT_mem (i := 682) (by decide +kernel) rfl
theorem wlX9_239 : Cond.methodLink RX9 239 yX8_findChange ∈ zT := zT_mem (i := 680) (by decide +kernel) rfl
theorem kX9_239 : zKV RX9 239 mX8_findChange 2 := ⟨wlX9_239, wIn_X8_findChange, wSe_X8_findChange, wIni_X8, wCo_X8_findChange, n_X8_findChange⟩
theorem wCo_X8_bestOrder : Cond.code yX8_bestOrder cX8_bestOrder 4 (some .int) ∈ zT := zT_mem (i := 745) (by decide +kernel) rfl
theorem n_X8_bestOrder : zYN mX8_bestOrder 2 := ⟨by decide +kernel, by decide +kernel, by decide +kernel⟩
theorem wIn_X8_bestOrder : Cond.instanceMethod yX8_bestOrder ∈ zT := zT_mem (i := 743) (by decide +kernel) rfl
theorem wSe_X8_bestOrder : Cond.selects RX8 yX8_bestOrder yX8_bestOrder ∈ zT := zT_mem (i := 744) (by decide +kernel) rfl
theorem wlX9_256 : Cond.methodLink RX9 256 yX8_bestOrder ∈ zT := zT_mem (i := 742) (by decide +kernel) rfl
theorem kX9_256 : zKV RX9 256 mX8_bestOrder 2 := ⟨wlX9_256, wIn_X8_bestOrder, wSe_X8_bestOrder, wIni_X8, wCo_X8_bestOrder, n_X8_bestOrder⟩
theorem llaw_7 : Cond.classLink RL 7 RX9 ∈ zT := zT_mem (i := 15) (by decide +kernel) rfl
theorem wIns_X9 : Cond.instantiable RX9 11 ∈ zT := zT_mem (i := 16) (by decide +kernel) rfl
theorem wCo_X9_init : Cond.code yX9_init cX9_init 2 (none) ∈ zT := zT_mem (i := 19) (by decide +kernel) rfl
theorem n_X9_init : zYN mX9_init 0 := ⟨by decide +kernel, by decide +kernel, by decide +kernel⟩
theorem wIn_X9_init : Cond.instanceMethod yX9_init ∈ zT := zT_mem (i := 18) (by decide +kernel) rfl
theorem wllaw_9 : Cond.methodLink RL 9 yX9_init ∈ zT := zT_mem (i := 17) (by decide +kernel) rfl
theorem klaw_9 : zKI RL 9 mX9_init 0 := ⟨wllaw_9, wIn_X9_init, wIni_X9, wCo_X9_init, n_X9_init, rfl, rfl⟩
theorem llaw_10 : Cond.classLink RL 10 RX10 ∈ zT := zT_mem (i := 819) (by decide +kernel) rfl
theorem wIns_X10 : Cond.instantiable RX10 47 ∈ zT := zT_mem (i := 820) (by decide +kernel) rfl
theorem wCo_X10_init : Cond.code yX10_init cX10_init 1 (none) ∈ zT := zT_mem (i := 823) (by decide +kernel) rfl
theorem n_X10_init : zYN mX10_init 0 := ⟨by decide +kernel, by decide +kernel, by decide +kernel⟩
theorem wIn_X10_init : Cond.instanceMethod yX10_init ∈ zT := zT_mem (i := 822) (by decide +kernel) rfl
theorem wllaw_12 : Cond.methodLink RL 12 yX10_init ∈ zT := zT_mem (i := 821) (by decide +kernel) rfl
theorem klaw_12 : zKI RL 12 mX10_init 0 := ⟨wllaw_12, wIn_X10_init, wIni_X10, wCo_X10_init, n_X10_init, rfl, rfl⟩
theorem wCo_X9_feed : Cond.code yX9_feed cX9_feed 2 (some .int) ∈ zT := zT_mem (i := 388) (by decide +kernel) rfl
theorem n_X9_feed : zYN mX9_feed 1 := ⟨by decide +kernel, by decide +kernel, by decide +kernel⟩
theorem wIn_X9_feed : Cond.instanceMethod yX9_feed ∈ zT := zT_mem (i := 386) (by decide +kernel) rfl
theorem wSe_X9_feed : Cond.selects RX9 yX9_feed yX9_feed ∈ zT := zT_mem (i := 387) (by decide +kernel) rfl
theorem wllaw_13 : Cond.methodLink RL 13 yX9_feed ∈ zT := zT_mem (i := 385) (by decide +kernel) rfl
theorem klaw_13 : zKV RL 13 mX9_feed 1 := ⟨wllaw_13, wIn_X9_feed, wSe_X9_feed, wIni_X9, wCo_X9_feed, n_X9_feed⟩
theorem wCo_X10_feed : Cond.code yX10_feed cX10_feed 2 (some .int) ∈ zT := zT_mem (i := 971) (by decide +kernel) rfl
theorem n_X10_feed : zYN mX10_feed 1 := ⟨by decide +kernel, by decide +kernel, by decide +kernel⟩
theorem wIn_X10_feed : Cond.instanceMethod yX10_feed ∈ zT := zT_mem (i := 969) (by decide +kernel) rfl
theorem wSe_X10_feed : Cond.selects RX10 yX10_feed yX10_feed ∈ zT := zT_mem (i := 970) (by decide +kernel) rfl
theorem wllaw_17 : Cond.methodLink RL 17 yX10_feed ∈ zT := zT_mem (i := 968) (by decide +kernel) rfl
theorem klaw_17 : zKV RL 17 mX10_feed 1 := ⟨wllaw_17, wIn_X10_feed, wSe_X10_feed, wIni_X10, wCo_X10_feed, n_X10_feed⟩
theorem wCo_X9_house : Cond.code yX9_house cX9_house 2 (some .int) ∈ zT := zT_mem (i := 398) (by decide +kernel) rfl
theorem n_X9_house : zYN mX9_house 0 := ⟨by decide +kernel, by decide +kernel, by decide +kernel⟩
theorem wIn_X9_house : Cond.instanceMethod yX9_house ∈ zT := zT_mem (i := 396) (by decide +kernel) rfl
theorem wSe_X9_house : Cond.selects RX9 yX9_house yX9_house ∈ zT := zT_mem (i := 397) (by decide +kernel) rfl
theorem wllaw_18 : Cond.methodLink RL 18 yX9_house ∈ zT := zT_mem (i := 395) (by decide +kernel) rfl
theorem klaw_18 : zKV RL 18 mX9_house 0 := ⟨wllaw_18, wIn_X9_house, wSe_X9_house, wIni_X9, wCo_X9_house, n_X9_house⟩
theorem wCo_X10_house : Cond.code yX10_house cX10_house 3 (some .int) ∈ zT := zT_mem (i := 980) (by decide +kernel) rfl
theorem n_X10_house : zYN mX10_house 0 := ⟨by decide +kernel, by decide +kernel, by decide +kernel⟩
theorem wIn_X10_house : Cond.instanceMethod yX10_house ∈ zT := zT_mem (i := 978) (by decide +kernel) rfl
theorem wSe_X10_house : Cond.selects RX10 yX10_house yX10_house ∈ zT := zT_mem (i := 979) (by decide +kernel) rfl
theorem wllaw_22 : Cond.methodLink RL 22 yX10_house ∈ zT := zT_mem (i := 977) (by decide +kernel) rfl
theorem klaw_22 : zKV RL 22 mX10_house 0 := ⟨wllaw_22, wIn_X10_house, wSe_X10_house, wIni_X10, wCo_X10_house, n_X10_house⟩
theorem wCo_X9_fault : Cond.code yX9_fault cX9_fault 1 (some .int) ∈ zT := zT_mem (i := 467) (by decide +kernel) rfl
theorem n_X9_fault : zYN mX9_fault 0 := ⟨by decide +kernel, by decide +kernel, by decide +kernel⟩
theorem wIn_X9_fault : Cond.instanceMethod yX9_fault ∈ zT := zT_mem (i := 465) (by decide +kernel) rfl
theorem wSe_X9_fault : Cond.selects RX9 yX9_fault yX9_fault ∈ zT := zT_mem (i := 466) (by decide +kernel) rfl
theorem wllaw_23 : Cond.methodLink RL 23 yX9_fault ∈ zT := zT_mem (i := 464) (by decide +kernel) rfl
theorem klaw_23 : zKV RL 23 mX9_fault 0 := ⟨wllaw_23, wIn_X9_fault, wSe_X9_fault, wIni_X9, wCo_X9_fault, n_X9_fault⟩
theorem wCo_X10_fault : Cond.code yX10_fault cX10_fault 1 (some .int) ∈ zT := zT_mem (i := 1020) (by decide +kernel) rfl
theorem n_X10_fault : zYN mX10_fault 0 := ⟨by decide +kernel, by decide +kernel, by decide +kernel⟩
theorem wIn_X10_fault : Cond.instanceMethod yX10_fault ∈ zT := zT_mem (i := 1018) (by decide +kernel) rfl
theorem wSe_X10_fault : Cond.selects RX10 yX10_fault yX10_fault ∈ zT := zT_mem (i := 1019) (by decide +kernel) rfl
theorem wllaw_26 : Cond.methodLink RL 26 yX10_fault ∈ zT := zT_mem (i := 1017) (by decide +kernel) rfl
theorem klaw_26 : zKV RL 26 mX10_fault 0 := ⟨wllaw_26, wIn_X10_fault, wSe_X10_fault, wIni_X10, wCo_X10_fault, n_X10_fault⟩
theorem wCo_X9_told : Cond.code yX9_told cX9_told 2 (some .int) ∈ zT := zT_mem (i := 471) (by decide +kernel) rfl
theorem n_X9_told : zYN mX9_told 1 := ⟨by decide +kernel, by decide +kernel, by decide +kernel⟩
theorem wIn_X9_told : Cond.instanceMethod yX9_told ∈ zT := zT_mem (i := 469) (by decide +kernel) rfl
theorem wSe_X9_told : Cond.selects RX9 yX9_told yX9_told ∈ zT := zT_mem (i := 470) (by decide +kernel) rfl
theorem wllaw_27 : Cond.methodLink RL 27 yX9_told ∈ zT := zT_mem (i := 468) (by decide +kernel) rfl
theorem klaw_27 : zKV RL 27 mX9_told 1 := ⟨wllaw_27, wIn_X9_told, wSe_X9_told, wIni_X9, wCo_X9_told, n_X9_told⟩
theorem wCo_X10_told : Cond.code yX10_told cX10_told 7 (some .int) ∈ zT := zT_mem (i := 1024) (by decide +kernel) rfl
theorem n_X10_told : zYN mX10_told 1 := ⟨by decide +kernel, by decide +kernel, by decide +kernel⟩
theorem wIn_X10_told : Cond.instanceMethod yX10_told ∈ zT := zT_mem (i := 1022) (by decide +kernel) rfl
theorem wSe_X10_told : Cond.selects RX10 yX10_told yX10_told ∈ zT := zT_mem (i := 1023) (by decide +kernel) rfl
theorem wllaw_30 : Cond.methodLink RL 30 yX10_told ∈ zT := zT_mem (i := 1021) (by decide +kernel) rfl
theorem klaw_30 : zKV RL 30 mX10_told 1 := ⟨wllaw_30, wIn_X10_told, wSe_X10_told, wIni_X10, wCo_X10_told, n_X10_told⟩
theorem wCo_X9_leaf : Cond.code yX9_leaf cX9_leaf 3 (some .int) ∈ zT := zT_mem (i := 563) (by decide +kernel) rfl
theorem n_X9_leaf : zYN mX9_leaf 2 := ⟨by decide +kernel, by decide +kernel, by decide +kernel⟩
theorem wIn_X9_leaf : Cond.instanceMethod yX9_leaf ∈ zT := zT_mem (i := 561) (by decide +kernel) rfl
theorem wSe_X9_leaf : Cond.selects RX9 yX9_leaf yX9_leaf ∈ zT := zT_mem (i := 562) (by decide +kernel) rfl
theorem wllaw_31 : Cond.methodLink RL 31 yX9_leaf ∈ zT := zT_mem (i := 560) (by decide +kernel) rfl
theorem klaw_31 : zKV RL 31 mX9_leaf 2 := ⟨wllaw_31, wIn_X9_leaf, wSe_X9_leaf, wIni_X9, wCo_X9_leaf, n_X9_leaf⟩
theorem wCo_X10_leaf : Cond.code yX10_leaf cX10_leaf 3 (some .int) ∈ zT := zT_mem (i := 1068) (by decide +kernel) rfl
theorem n_X10_leaf : zYN mX10_leaf 2 := ⟨by decide +kernel, by decide +kernel, by decide +kernel⟩
theorem wIn_X10_leaf : Cond.instanceMethod yX10_leaf ∈ zT := zT_mem (i := 1066) (by decide +kernel) rfl
theorem wSe_X10_leaf : Cond.selects RX10 yX10_leaf yX10_leaf ∈ zT := zT_mem (i := 1067) (by decide +kernel) rfl
theorem wllaw_35 : Cond.methodLink RL 35 yX10_leaf ∈ zT := zT_mem (i := 1065) (by decide +kernel) rfl
theorem klaw_35 : zKV RL 35 mX10_leaf 2 := ⟨wllaw_35, wIn_X10_leaf, wSe_X10_leaf, wIni_X10, wCo_X10_leaf, n_X10_leaf⟩
theorem wCo_X9_waiter : Cond.code yX9_waiter cX9_waiter 3 (some .int) ∈ zT := zT_mem (i := 571) (by decide +kernel) rfl
theorem n_X9_waiter : zYN mX9_waiter 2 := ⟨by decide +kernel, by decide +kernel, by decide +kernel⟩
theorem wIn_X9_waiter : Cond.instanceMethod yX9_waiter ∈ zT := zT_mem (i := 569) (by decide +kernel) rfl
theorem wSe_X9_waiter : Cond.selects RX9 yX9_waiter yX9_waiter ∈ zT := zT_mem (i := 570) (by decide +kernel) rfl
theorem wllaw_36 : Cond.methodLink RL 36 yX9_waiter ∈ zT := zT_mem (i := 568) (by decide +kernel) rfl
theorem klaw_36 : zKV RL 36 mX9_waiter 2 := ⟨wllaw_36, wIn_X9_waiter, wSe_X9_waiter, wIni_X9, wCo_X9_waiter, n_X9_waiter⟩
theorem wCo_X10_waiter : Cond.code yX10_waiter cX10_waiter 3 (some .int) ∈ zT := zT_mem (i := 1073) (by decide +kernel) rfl
theorem n_X10_waiter : zYN mX10_waiter 2 := ⟨by decide +kernel, by decide +kernel, by decide +kernel⟩
theorem wIn_X10_waiter : Cond.instanceMethod yX10_waiter ∈ zT := zT_mem (i := 1071) (by decide +kernel) rfl
theorem wSe_X10_waiter : Cond.selects RX10 yX10_waiter yX10_waiter ∈ zT := zT_mem (i := 1072) (by decide +kernel) rfl
theorem wllaw_39 : Cond.methodLink RL 39 yX10_waiter ∈ zT := zT_mem (i := 1070) (by decide +kernel) rfl
theorem klaw_39 : zKV RL 39 mX10_waiter 2 := ⟨wllaw_39, wIn_X10_waiter, wSe_X10_waiter, wIni_X10, wCo_X10_waiter, n_X10_waiter⟩
theorem wCo_X9_come : Cond.code yX9_come cX9_come 3 (some .int) ∈ zT := zT_mem (i := 579) (by decide +kernel) rfl
theorem n_X9_come : zYN mX9_come 2 := ⟨by decide +kernel, by decide +kernel, by decide +kernel⟩
theorem wIn_X9_come : Cond.instanceMethod yX9_come ∈ zT := zT_mem (i := 577) (by decide +kernel) rfl
theorem wSe_X9_come : Cond.selects RX9 yX9_come yX9_come ∈ zT := zT_mem (i := 578) (by decide +kernel) rfl
theorem wllaw_40 : Cond.methodLink RL 40 yX9_come ∈ zT := zT_mem (i := 576) (by decide +kernel) rfl
theorem klaw_40 : zKV RL 40 mX9_come 2 := ⟨wllaw_40, wIn_X9_come, wSe_X9_come, wIni_X9, wCo_X9_come, n_X9_come⟩
theorem wCo_X10_come : Cond.code yX10_come cX10_come 3 (some .int) ∈ zT := zT_mem (i := 1081) (by decide +kernel) rfl
theorem n_X10_come : zYN mX10_come 2 := ⟨by decide +kernel, by decide +kernel, by decide +kernel⟩
theorem wIn_X10_come : Cond.instanceMethod yX10_come ∈ zT := zT_mem (i := 1079) (by decide +kernel) rfl
theorem wSe_X10_come : Cond.selects RX10 yX10_come yX10_come ∈ zT := zT_mem (i := 1080) (by decide +kernel) rfl
theorem wllaw_43 : Cond.methodLink RL 43 yX10_come ∈ zT := zT_mem (i := 1078) (by decide +kernel) rfl
theorem klaw_43 : zKV RL 43 mX10_come 2 := ⟨wllaw_43, wIn_X10_come, wSe_X10_come, wIni_X10, wCo_X10_come, n_X10_come⟩
theorem wCo_X9_rule : Cond.code yX9_rule cX9_rule 3 (some .int) ∈ zT := zT_mem (i := 587) (by decide +kernel) rfl
theorem n_X9_rule : zYN mX9_rule 2 := ⟨by decide +kernel, by decide +kernel, by decide +kernel⟩
theorem wIn_X9_rule : Cond.instanceMethod yX9_rule ∈ zT := zT_mem (i := 585) (by decide +kernel) rfl
theorem wSe_X9_rule : Cond.selects RX9 yX9_rule yX9_rule ∈ zT := zT_mem (i := 586) (by decide +kernel) rfl
theorem wllaw_44 : Cond.methodLink RL 44 yX9_rule ∈ zT := zT_mem (i := 584) (by decide +kernel) rfl
theorem klaw_44 : zKV RL 44 mX9_rule 2 := ⟨wllaw_44, wIn_X9_rule, wSe_X9_rule, wIni_X9, wCo_X9_rule, n_X9_rule⟩
theorem wCo_X10_rule : Cond.code yX10_rule cX10_rule 3 (some .int) ∈ zT := zT_mem (i := 1089) (by decide +kernel) rfl
theorem n_X10_rule : zYN mX10_rule 2 := ⟨by decide +kernel, by decide +kernel, by decide +kernel⟩
theorem wIn_X10_rule : Cond.instanceMethod yX10_rule ∈ zT := zT_mem (i := 1087) (by decide +kernel) rfl
theorem wSe_X10_rule : Cond.selects RX10 yX10_rule yX10_rule ∈ zT := zT_mem (i := 1088) (by decide +kernel) rfl
theorem wllaw_47 : Cond.methodLink RL 47 yX10_rule ∈ zT := zT_mem (i := 1086) (by decide +kernel) rfl
theorem klaw_47 : zKV RL 47 mX10_rule 2 := ⟨wllaw_47, wIn_X10_rule, wSe_X10_rule, wIni_X10, wCo_X10_rule, n_X10_rule⟩
theorem wCo_X9_kick : Cond.code yX9_kick cX9_kick 3 (some .int) ∈ zT := zT_mem (i := 591) (by decide +kernel) rfl
theorem n_X9_kick : zYN mX9_kick 2 := ⟨by decide +kernel, by decide +kernel, by decide +kernel⟩
theorem wIn_X9_kick : Cond.instanceMethod yX9_kick ∈ zT := zT_mem (i := 589) (by decide +kernel) rfl
theorem wSe_X9_kick : Cond.selects RX9 yX9_kick yX9_kick ∈ zT := zT_mem (i := 590) (by decide +kernel) rfl
theorem wllaw_48 : Cond.methodLink RL 48 yX9_kick ∈ zT := zT_mem (i := 588) (by decide +kernel) rfl
theorem klaw_48 : zKV RL 48 mX9_kick 2 := ⟨wllaw_48, wIn_X9_kick, wSe_X9_kick, wIni_X9, wCo_X9_kick, n_X9_kick⟩
theorem wCo_X10_kick : Cond.code yX10_kick cX10_kick 3 (some .int) ∈ zT := zT_mem (i := 1093) (by decide +kernel) rfl
theorem n_X10_kick : zYN mX10_kick 2 := ⟨by decide +kernel, by decide +kernel, by decide +kernel⟩
theorem wIn_X10_kick : Cond.instanceMethod yX10_kick ∈ zT := zT_mem (i := 1091) (by decide +kernel) rfl
theorem wSe_X10_kick : Cond.selects RX10 yX10_kick yX10_kick ∈ zT := zT_mem (i := 1092) (by decide +kernel) rfl
theorem wllaw_51 : Cond.methodLink RL 51 yX10_kick ∈ zT := zT_mem (i := 1090) (by decide +kernel) rfl
theorem klaw_51 : zKV RL 51 mX10_kick 2 := ⟨wllaw_51, wIn_X10_kick, wSe_X10_kick, wIni_X10, wCo_X10_kick, n_X10_kick⟩
theorem wCo_X9_glass : Cond.code yX9_glass cX9_glass 3 (some .int) ∈ zT := zT_mem (i := 595) (by decide +kernel) rfl
theorem n_X9_glass : zYN mX9_glass 1 := ⟨by decide +kernel, by decide +kernel, by decide +kernel⟩
theorem wIn_X9_glass : Cond.instanceMethod yX9_glass ∈ zT := zT_mem (i := 593) (by decide +kernel) rfl
theorem wSe_X9_glass : Cond.selects RX9 yX9_glass yX9_glass ∈ zT := zT_mem (i := 594) (by decide +kernel) rfl
theorem wllaw_52 : Cond.methodLink RL 52 yX9_glass ∈ zT := zT_mem (i := 592) (by decide +kernel) rfl
theorem klaw_52 : zKV RL 52 mX9_glass 1 := ⟨wllaw_52, wIn_X9_glass, wSe_X9_glass, wIni_X9, wCo_X9_glass, n_X9_glass⟩
theorem wCo_X10_glass : Cond.code yX10_glass cX10_glass 2 (some .int) ∈ zT := zT_mem (i := 1097) (by decide +kernel) rfl
theorem n_X10_glass : zYN mX10_glass 1 := ⟨by decide +kernel, by decide +kernel, by decide +kernel⟩
theorem wIn_X10_glass : Cond.instanceMethod yX10_glass ∈ zT := zT_mem (i := 1095) (by decide +kernel) rfl
theorem wSe_X10_glass : Cond.selects RX10 yX10_glass yX10_glass ∈ zT := zT_mem (i := 1096) (by decide +kernel) rfl
theorem wllaw_56 : Cond.methodLink RL 56 yX10_glass ∈ zT := zT_mem (i := 1094) (by decide +kernel) rfl
theorem klaw_56 : zKV RL 56 mX10_glass 1 := ⟨wllaw_56, wIn_X10_glass, wSe_X10_glass, wIni_X10, wCo_X10_glass, n_X10_glass⟩
theorem wCo_X9_noise : Cond.code yX9_noise cX9_noise 3 (some .int) ∈ zT := zT_mem (i := 599) (by decide +kernel) rfl
theorem n_X9_noise : zYN mX9_noise 1 := ⟨by decide +kernel, by decide +kernel, by decide +kernel⟩
theorem wIn_X9_noise : Cond.instanceMethod yX9_noise ∈ zT := zT_mem (i := 597) (by decide +kernel) rfl
theorem wSe_X9_noise : Cond.selects RX9 yX9_noise yX9_noise ∈ zT := zT_mem (i := 598) (by decide +kernel) rfl
theorem wllaw_57 : Cond.methodLink RL 57 yX9_noise ∈ zT := zT_mem (i := 596) (by decide +kernel) rfl
theorem klaw_57 : zKV RL 57 mX9_noise 1 := ⟨wllaw_57, wIn_X9_noise, wSe_X9_noise, wIni_X9, wCo_X9_noise, n_X9_noise⟩
theorem wCo_X10_noise : Cond.code yX10_noise cX10_noise 2 (some .int) ∈ zT := zT_mem (i := 1101) (by decide +kernel) rfl
theorem n_X10_noise : zYN mX10_noise 1 := ⟨by decide +kernel, by decide +kernel, by decide +kernel⟩
theorem wIn_X10_noise : Cond.instanceMethod yX10_noise ∈ zT := zT_mem (i := 1099) (by decide +kernel) rfl
theorem wSe_X10_noise : Cond.selects RX10 yX10_noise yX10_noise ∈ zT := zT_mem (i := 1100) (by decide +kernel) rfl
theorem wllaw_60 : Cond.methodLink RL 60 yX10_noise ∈ zT := zT_mem (i := 1098) (by decide +kernel) rfl
theorem klaw_60 : zKV RL 60 mX10_noise 1 := ⟨wllaw_60, wIn_X10_noise, wSe_X10_noise, wIni_X10, wCo_X10_noise, n_X10_noise⟩
theorem wCo_X9_drift : Cond.code yX9_drift cX9_drift 5 (some .int) ∈ zT := zT_mem (i := 603) (by decide +kernel) rfl
theorem n_X9_drift : zYN mX9_drift 1 := ⟨by decide +kernel, by decide +kernel, by decide +kernel⟩
theorem wIn_X9_drift : Cond.instanceMethod yX9_drift ∈ zT := zT_mem (i := 601) (by decide +kernel) rfl
theorem wSe_X9_drift : Cond.selects RX9 yX9_drift yX9_drift ∈ zT := zT_mem (i := 602) (by decide +kernel) rfl
theorem wllaw_61 : Cond.methodLink RL 61 yX9_drift ∈ zT := zT_mem (i := 600) (by decide +kernel) rfl
theorem klaw_61 : zKV RL 61 mX9_drift 1 := ⟨wllaw_61, wIn_X9_drift, wSe_X9_drift, wIni_X9, wCo_X9_drift, n_X9_drift⟩
theorem wCo_X10_drift : Cond.code yX10_drift cX10_drift 5 (some .int) ∈ zT := zT_mem (i := 1105) (by decide +kernel) rfl
theorem n_X10_drift : zYN mX10_drift 1 := ⟨by decide +kernel, by decide +kernel, by decide +kernel⟩
theorem wIn_X10_drift : Cond.instanceMethod yX10_drift ∈ zT := zT_mem (i := 1103) (by decide +kernel) rfl
theorem wSe_X10_drift : Cond.selects RX10 yX10_drift yX10_drift ∈ zT := zT_mem (i := 1104) (by decide +kernel) rfl
theorem wllaw_64 : Cond.methodLink RL 64 yX10_drift ∈ zT := zT_mem (i := 1102) (by decide +kernel) rfl
theorem klaw_64 : zKV RL 64 mX10_drift 1 := ⟨wllaw_64, wIn_X10_drift, wSe_X10_drift, wIni_X10, wCo_X10_drift, n_X10_drift⟩
theorem wCo_X9_pass : Cond.code yX9_pass cX9_pass 4 (some .int) ∈ zT := zT_mem (i := 616) (by decide +kernel) rfl
theorem n_X9_pass : zYN mX9_pass 2 := ⟨by decide +kernel, by decide +kernel, by decide +kernel⟩
theorem wIn_X9_pass : Cond.instanceMethod yX9_pass ∈ zT := zT_mem (i := 614) (by decide +kernel) rfl
theorem wSe_X9_pass : Cond.selects RX9 yX9_pass yX9_pass ∈ zT := zT_mem (i := 615) (by decide +kernel) rfl
theorem wllaw_65 : Cond.methodLink RL 65 yX9_pass ∈ zT := zT_mem (i := 613) (by decide +kernel) rfl
theorem klaw_65 : zKV RL 65 mX9_pass 2 := ⟨wllaw_65, wIn_X9_pass, wSe_X9_pass, wIni_X9, wCo_X9_pass, n_X9_pass⟩
theorem wCo_X10_pass : Cond.code yX10_pass cX10_pass 3 (some .int) ∈ zT := zT_mem (i := 1118) (by decide +kernel) rfl
theorem n_X10_pass : zYN mX10_pass 2 := ⟨by decide +kernel, by decide +kernel, by decide +kernel⟩
theorem wIn_X10_pass : Cond.instanceMethod yX10_pass ∈ zT := zT_mem (i := 1116) (by decide +kernel) rfl
theorem wSe_X10_pass : Cond.selects RX10 yX10_pass yX10_pass ∈ zT := zT_mem (i := 1117) (by decide +kernel) rfl
theorem wllaw_68 : Cond.methodLink RL 68 yX10_pass ∈ zT := zT_mem (i := 1115) (by decide +kernel) rfl
theorem klaw_68 : zKV RL 68 mX10_pass 2 := ⟨wllaw_68, wIn_X10_pass, wSe_X10_pass, wIni_X10, wCo_X10_pass, n_X10_pass⟩
theorem wCo_X9_leafAt : Cond.code yX9_leafAt cX9_leafAt 3 (some .int) ∈ zT := zT_mem (i := 620) (by decide +kernel) rfl
theorem n_X9_leafAt : zYN mX9_leafAt 2 := ⟨by decide +kernel, by decide +kernel, by decide +kernel⟩
theorem wIn_X9_leafAt : Cond.instanceMethod yX9_leafAt ∈ zT := zT_mem (i := 618) (by decide +kernel) rfl
theorem wSe_X9_leafAt : Cond.selects RX9 yX9_leafAt yX9_leafAt ∈ zT := zT_mem (i := 619) (by decide +kernel) rfl
theorem wllaw_69 : Cond.methodLink RL 69 yX9_leafAt ∈ zT := zT_mem (i := 617) (by decide +kernel) rfl
theorem klaw_69 : zKV RL 69 mX9_leafAt 2 := ⟨wllaw_69, wIn_X9_leafAt, wSe_X9_leafAt, wIni_X9, wCo_X9_leafAt, n_X9_leafAt⟩
theorem wCo_X10_leafAt : Cond.code yX10_leafAt cX10_leafAt 3 (some .int) ∈ zT := zT_mem (i := 1122) (by decide +kernel) rfl
theorem n_X10_leafAt : zYN mX10_leafAt 2 := ⟨by decide +kernel, by decide +kernel, by decide +kernel⟩
theorem wIn_X10_leafAt : Cond.instanceMethod yX10_leafAt ∈ zT := zT_mem (i := 1120) (by decide +kernel) rfl
theorem wSe_X10_leafAt : Cond.selects RX10 yX10_leafAt yX10_leafAt ∈ zT := zT_mem (i := 1121) (by decide +kernel) rfl
theorem wllaw_72 : Cond.methodLink RL 72 yX10_leafAt ∈ zT := zT_mem (i := 1119) (by decide +kernel) rfl
theorem klaw_72 : zKV RL 72 mX10_leafAt 2 := ⟨wllaw_72, wIn_X10_leafAt, wSe_X10_leafAt, wIni_X10, wCo_X10_leafAt, n_X10_leafAt⟩
theorem wCo_X9_all : Cond.code yX9_all cX9_all 2 (some .int) ∈ zT := zT_mem (i := 631) (by decide +kernel) rfl
theorem n_X9_all : zYN mX9_all 1 := ⟨by decide +kernel, by decide +kernel, by decide +kernel⟩
theorem wIn_X9_all : Cond.instanceMethod yX9_all ∈ zT := zT_mem (i := 629) (by decide +kernel) rfl
theorem wSe_X9_all : Cond.selects RX9 yX9_all yX9_all ∈ zT := zT_mem (i := 630) (by decide +kernel) rfl
theorem wllaw_73 : Cond.methodLink RL 73 yX9_all ∈ zT := zT_mem (i := 628) (by decide +kernel) rfl
theorem klaw_73 : zKV RL 73 mX9_all 1 := ⟨wllaw_73, wIn_X9_all, wSe_X9_all, wIni_X9, wCo_X9_all, n_X9_all⟩
theorem wCo_X10_all : Cond.code yX10_all cX10_all 3 (some .int) ∈ zT := zT_mem (i := 1126) (by decide +kernel) rfl
theorem n_X10_all : zYN mX10_all 1 := ⟨by decide +kernel, by decide +kernel, by decide +kernel⟩
theorem wIn_X10_all : Cond.instanceMethod yX10_all ∈ zT := zT_mem (i := 1124) (by decide +kernel) rfl
theorem wSe_X10_all : Cond.selects RX10 yX10_all yX10_all ∈ zT := zT_mem (i := 1125) (by decide +kernel) rfl
theorem wllaw_76 : Cond.methodLink RL 76 yX10_all ∈ zT := zT_mem (i := 1123) (by decide +kernel) rfl
theorem klaw_76 : zKV RL 76 mX10_all 1 := ⟨wllaw_76, wIn_X10_all, wSe_X10_all, wIni_X10, wCo_X10_all, n_X10_all⟩
theorem wCo_X9_best : Cond.code yX9_best cX9_best 2 (some .int) ∈ zT := zT_mem (i := 650) (by decide +kernel) rfl
theorem n_X9_best : zYN mX9_best 1 := ⟨by decide +kernel, by decide +kernel, by decide +kernel⟩
theorem wIn_X9_best : Cond.instanceMethod yX9_best ∈ zT := zT_mem (i := 648) (by decide +kernel) rfl
theorem wSe_X9_best : Cond.selects RX9 yX9_best yX9_best ∈ zT := zT_mem (i := 649) (by decide +kernel) rfl
theorem wllaw_77 : Cond.methodLink RL 77 yX9_best ∈ zT := zT_mem (i := 647) (by decide +kernel) rfl
theorem klaw_77 : zKV RL 77 mX9_best 1 := ⟨wllaw_77, wIn_X9_best, wSe_X9_best, wIni_X9, wCo_X9_best, n_X9_best⟩
theorem wCo_X10_best : Cond.code yX10_best cX10_best 8 (some .int) ∈ zT := zT_mem (i := 1138) (by decide +kernel) rfl
theorem n_X10_best : zYN mX10_best 1 := ⟨by decide +kernel, by decide +kernel, by decide +kernel⟩
theorem wIn_X10_best : Cond.instanceMethod yX10_best ∈ zT := zT_mem (i := 1136) (by decide +kernel) rfl
theorem wSe_X10_best : Cond.selects RX10 yX10_best yX10_best ∈ zT := zT_mem (i := 1137) (by decide +kernel) rfl
theorem wllaw_80 : Cond.methodLink RL 80 yX10_best ∈ zT := zT_mem (i := 1135) (by decide +kernel) rfl
theorem klaw_80 : zKV RL 80 mX10_best 1 := ⟨wllaw_80, wIn_X10_best, wSe_X10_best, wIni_X10, wCo_X10_best, n_X10_best⟩
theorem wCo_X9_bestKick : Cond.code yX9_bestKick cX9_bestKick 3 (some .int) ∈ zT := zT_mem (i := 671) (by decide +kernel) rfl
theorem n_X9_bestKick : zYN mX9_bestKick 2 := ⟨by decide +kernel, by decide +kernel, by decide +kernel⟩
theorem wIn_X9_bestKick : Cond.instanceMethod yX9_bestKick ∈ zT := zT_mem (i := 669) (by decide +kernel) rfl
theorem wSe_X9_bestKick : Cond.selects RX9 yX9_bestKick yX9_bestKick ∈ zT := zT_mem (i := 670) (by decide +kernel) rfl
theorem wllaw_81 : Cond.methodLink RL 81 yX9_bestKick ∈ zT := zT_mem (i := 668) (by decide +kernel) rfl
theorem klaw_81 : zKV RL 81 mX9_bestKick 2 := ⟨wllaw_81, wIn_X9_bestKick, wSe_X9_bestKick, wIni_X9, wCo_X9_bestKick, n_X9_bestKick⟩
theorem wCo_X10_bestKick : Cond.code yX10_bestKick cX10_bestKick 8 (some .int) ∈ zT := zT_mem (i := 1142) (by decide +kernel) rfl
theorem n_X10_bestKick : zYN mX10_bestKick 2 := ⟨by decide +kernel, by decide +kernel, by decide +kernel⟩
theorem wIn_X10_bestKick : Cond.instanceMethod yX10_bestKick ∈ zT := zT_mem (i := 1140) (by decide +kernel) rfl
theorem wSe_X10_bestKick : Cond.selects RX10 yX10_bestKick yX10_bestKick ∈ zT := zT_mem (i := 1141) (by decide +kernel) rfl
theorem wllaw_84 : Cond.methodLink RL 84 yX10_bestKick ∈ zT := zT_mem (i := 1139) (by decide +kernel) rfl
theorem klaw_84 : zKV RL 84 mX10_bestKick 2 := ⟨wllaw_84, wIn_X10_bestKick, wSe_X10_bestKick, wIni_X10, wCo_X10_bestKick, n_X10_bestKick⟩
theorem wCo_X9_change : Cond.code yX9_change cX9_change 4 (some .int) ∈ zT := zT_mem (i := 679) (by decide +kernel) rfl
theorem n_X9_change : zYN mX9_change 3 := ⟨by decide +kernel, by decide +kernel, by decide +kernel⟩
theorem wIn_X9_change : Cond.instanceMethod yX9_change ∈ zT := zT_mem (i := 677) (by decide +kernel) rfl
theorem wSe_X9_change : Cond.selects RX9 yX9_change yX9_change ∈ zT := zT_mem (i := 678) (by decide +kernel) rfl
theorem wllaw_85 : Cond.methodLink RL 85 yX9_change ∈ zT := zT_mem (i := 676) (by decide +kernel) rfl
theorem klaw_85 : zKV RL 85 mX9_change 3 := ⟨wllaw_85, wIn_X9_change, wSe_X9_change, wIni_X9, wCo_X9_change, n_X9_change⟩
theorem wCo_X10_change : Cond.code yX10_change cX10_change 9 (some .int) ∈ zT := zT_mem (i := 1146) (by decide +kernel) rfl
theorem n_X10_change : zYN mX10_change 3 := ⟨by decide +kernel, by decide +kernel, by decide +kernel⟩
theorem wIn_X10_change : Cond.instanceMethod yX10_change ∈ zT := zT_mem (i := 1144) (by decide +kernel) rfl
theorem wSe_X10_change : Cond.selects RX10 yX10_change yX10_change ∈ zT := zT_mem (i := 1145) (by decide +kernel) rfl
theorem wllaw_89 : Cond.methodLink RL 89 yX10_change ∈ zT := zT_mem (i := 1143) (by decide +kernel) rfl
theorem klaw_89 : zKV RL 89 mX10_change 3 := ⟨wllaw_89, wIn_X10_change, wSe_X10_change, wIni_X10, wCo_X10_change, n_X10_change⟩
theorem wCo_X9_worth : Cond.code yX9_worth cX9_worth 3 (some .int) ∈ zT := zT_mem (i := 695) (by decide +kernel) rfl
theorem n_X9_worth : zYN mX9_worth 2 := ⟨by decide +kernel, by decide +kernel, by decide +kernel⟩
theorem wIn_X9_worth : Cond.instanceMethod yX9_worth ∈ zT := zT_mem (i := 693) (by decide +kernel) rfl
theorem wSe_X9_worth : Cond.selects RX9 yX9_worth yX9_worth ∈ zT := zT_mem (i := 694) (by decide +kernel) rfl
theorem wllaw_90 : Cond.methodLink RL 90 yX9_worth ∈ zT := zT_mem (i := 692) (by decide +kernel) rfl
theorem klaw_90 : zKV RL 90 mX9_worth 2 := ⟨wllaw_90, wIn_X9_worth, wSe_X9_worth, wIni_X9, wCo_X9_worth, n_X9_worth⟩
theorem wCo_X10_worth : Cond.code yX10_worth cX10_worth 5 (some .int) ∈ zT := zT_mem (i := 1150) (by decide +kernel) rfl
theorem n_X10_worth : zYN mX10_worth 2 := ⟨by decide +kernel, by decide +kernel, by decide +kernel⟩
theorem wIn_X10_worth : Cond.instanceMethod yX10_worth ∈ zT := zT_mem (i := 1148) (by decide +kernel) rfl
theorem wSe_X10_worth : Cond.selects RX10 yX10_worth yX10_worth ∈ zT := zT_mem (i := 1149) (by decide +kernel) rfl
theorem wllaw_93 : Cond.methodLink RL 93 yX10_worth ∈ zT := zT_mem (i := 1147) (by decide +kernel) rfl
theorem klaw_93 : zKV RL 93 mX10_worth 2 := ⟨wllaw_93, wIn_X10_worth, wSe_X10_worth, wIni_X10, wCo_X10_worth, n_X10_worth⟩
theorem wCo_X9_apart : Cond.code yX9_apart cX9_apart 3 (some .int) ∈ zT := zT_mem (i := 707) (by decide +kernel) rfl
theorem n_X9_apart : zYN mX9_apart 2 := ⟨by decide +kernel, by decide +kernel, by decide +kernel⟩
theorem wIn_X9_apart : Cond.instanceMethod yX9_apart ∈ zT := zT_mem (i := 705) (by decide +kernel) rfl
theorem wSe_X9_apart : Cond.selects RX9 yX9_apart yX9_apart ∈ zT := zT_mem (i := 706) (by decide +kernel) rfl
theorem wllaw_94 : Cond.methodLink RL 94 yX9_apart ∈ zT := zT_mem (i := 704) (by decide +kernel) rfl
theorem klaw_94 : zKV RL 94 mX9_apart 2 := ⟨wllaw_94, wIn_X9_apart, wSe_X9_apart, wIni_X9, wCo_X9_apart, n_X9_apart⟩
theorem wCo_X10_apart : Cond.code yX10_apart cX10_apart 6 (some .int) ∈ zT := zT_mem (i := 1154) (by decide +kernel) rfl
theorem n_X10_apart : zYN mX10_apart 2 := ⟨by decide +kernel, by decide +kernel, by decide +kernel⟩
theorem wIn_X10_apart : Cond.instanceMethod yX10_apart ∈ zT := zT_mem (i := 1152) (by decide +kernel) rfl
theorem wSe_X10_apart : Cond.selects RX10 yX10_apart yX10_apart ∈ zT := zT_mem (i := 1153) (by decide +kernel) rfl
theorem wllaw_97 : Cond.methodLink RL 97 yX10_apart ∈ zT := zT_mem (i := 1151) (by decide +kernel) rfl
theorem klaw_97 : zKV RL 97 mX10_apart 2 := ⟨wllaw_97, wIn_X10_apart, wSe_X10_apart, wIni_X10, wCo_X10_apart, n_X10_apart⟩
theorem wCo_X9_order : Cond.code yX9_order cX9_order 3 (some .int) ∈ zT := zT_mem (i := 741) (by decide +kernel) rfl
theorem n_X9_order : zYN mX9_order 2 := ⟨by decide +kernel, by decide +kernel, by decide +kernel⟩
theorem wIn_X9_order : Cond.instanceMethod yX9_order ∈ zT := zT_mem (i := 739) (by decide +kernel) rfl
theorem wSe_X9_order : Cond.selects RX9 yX9_order yX9_order ∈ zT := zT_mem (i := 740) (by decide +kernel) rfl
theorem wllaw_98 : Cond.methodLink RL 98 yX9_order ∈ zT := zT_mem (i := 738) (by decide +kernel) rfl
theorem klaw_98 : zKV RL 98 mX9_order 2 := ⟨wllaw_98, wIn_X9_order, wSe_X9_order, wIni_X9, wCo_X9_order, n_X9_order⟩
theorem wCo_X10_order : Cond.code yX10_order cX10_order 13 (some .int) ∈ zT := zT_mem (i := 1158) (by decide +kernel) rfl
theorem n_X10_order : zYN mX10_order 2 := ⟨by decide +kernel, by decide +kernel, by decide +kernel⟩
theorem wIn_X10_order : Cond.instanceMethod yX10_order ∈ zT := zT_mem (i := 1156) (by decide +kernel) rfl
theorem wSe_X10_order : Cond.selects RX10 yX10_order yX10_order ∈ zT := zT_mem (i := 1157) (by decide +kernel) rfl
theorem wllaw_101 : Cond.methodLink RL 101 yX10_order ∈ zT := zT_mem (i := 1155) (by decide +kernel) rfl
theorem klaw_101 : zKV RL 101 mX10_order 2 := ⟨wllaw_101, wIn_X10_order, wSe_X10_order, wIni_X10, wCo_X10_order, n_X10_order⟩
theorem wCo_X9_rests : Cond.code yX9_rests cX9_rests 3 (some .int) ∈ zT := zT_mem (i := 753) (by decide +kernel) rfl
theorem n_X9_rests : zYN mX9_rests 2 := ⟨by decide +kernel, by decide +kernel, by decide +kernel⟩
theorem wIn_X9_rests : Cond.instanceMethod yX9_rests ∈ zT := zT_mem (i := 751) (by decide +kernel) rfl
theorem wSe_X9_rests : Cond.selects RX9 yX9_rests yX9_rests ∈ zT := zT_mem (i := 752) (by decide +kernel) rfl
theorem wllaw_102 : Cond.methodLink RL 102 yX9_rests ∈ zT := zT_mem (i := 750) (by decide +kernel) rfl
theorem klaw_102 : zKV RL 102 mX9_rests 2 := ⟨wllaw_102, wIn_X9_rests, wSe_X9_rests, wIni_X9, wCo_X9_rests, n_X9_rests⟩
theorem wCo_X10_rests : Cond.code yX10_rests cX10_rests 7 (some .int) ∈ zT := zT_mem (i := 1166) (by decide +kernel) rfl
theorem n_X10_rests : zYN mX10_rests 2 := ⟨by decide +kernel, by decide +kernel, by decide +kernel⟩
theorem wIn_X10_rests : Cond.instanceMethod yX10_rests ∈ zT := zT_mem (i := 1164) (by decide +kernel) rfl
theorem wSe_X10_rests : Cond.selects RX10 yX10_rests yX10_rests ∈ zT := zT_mem (i := 1165) (by decide +kernel) rfl
theorem wllaw_105 : Cond.methodLink RL 105 yX10_rests ∈ zT := zT_mem (i := 1163) (by decide +kernel) rfl
theorem klaw_105 : zKV RL 105 mX10_rests 2 := ⟨wllaw_105, wIn_X10_rests, wSe_X10_rests, wIni_X10, wCo_X10_rests, n_X10_rests⟩
theorem wCo_X9_stack : Cond.code yX9_stack cX9_stack 4 (some .int) ∈ zT := zT_mem (i := 765) (by decide +kernel) rfl
theorem n_X9_stack : zYN mX9_stack 1 := ⟨by decide +kernel, by decide +kernel, by decide +kernel⟩
theorem wIn_X9_stack : Cond.instanceMethod yX9_stack ∈ zT := zT_mem (i := 763) (by decide +kernel) rfl
theorem wSe_X9_stack : Cond.selects RX9 yX9_stack yX9_stack ∈ zT := zT_mem (i := 764) (by decide +kernel) rfl
theorem wllaw_106 : Cond.methodLink RL 106 yX9_stack ∈ zT := zT_mem (i := 762) (by decide +kernel) rfl
theorem klaw_106 : zKV RL 106 mX9_stack 1 := ⟨wllaw_106, wIn_X9_stack, wSe_X9_stack, wIni_X9, wCo_X9_stack, n_X9_stack⟩
theorem wCo_X10_stack : Cond.code yX10_stack cX10_stack 6 (some .int) ∈ zT := zT_mem (i := 1174) (by decide +kernel) rfl
theorem n_X10_stack : zYN mX10_stack 1 := ⟨by decide +kernel, by decide +kernel, by decide +kernel⟩
theorem wIn_X10_stack : Cond.instanceMethod yX10_stack ∈ zT := zT_mem (i := 1172) (by decide +kernel) rfl
theorem wSe_X10_stack : Cond.selects RX10 yX10_stack yX10_stack ∈ zT := zT_mem (i := 1173) (by decide +kernel) rfl
theorem wllaw_109 : Cond.methodLink RL 109 yX10_stack ∈ zT := zT_mem (i := 1171) (by decide +kernel) rfl
theorem klaw_109 : zKV RL 109 mX10_stack 1 := ⟨wllaw_109, wIn_X10_stack, wSe_X10_stack, wIni_X10, wCo_X10_stack, n_X10_stack⟩
theorem wCo_X9_until : Cond.code yX9_until cX9_until 8 (some .int) ∈ zT := zT_mem (i := 773) (by decide +kernel) rfl
theorem n_X9_until : zYN mX9_until 2 := ⟨by decide +kernel, by decide +kernel, by decide +kernel⟩
theorem wIn_X9_until : Cond.instanceMethod yX9_until ∈ zT := zT_mem (i := 771) (by decide +kernel) rfl
theorem wSe_X9_until : Cond.selects RX9 yX9_until yX9_until ∈ zT := zT_mem (i := 772) (by decide +kernel) rfl
theorem wllaw_110 : Cond.methodLink RL 110 yX9_until ∈ zT := zT_mem (i := 770) (by decide +kernel) rfl
theorem klaw_110 : zKV RL 110 mX9_until 2 := ⟨wllaw_110, wIn_X9_until, wSe_X9_until, wIni_X9, wCo_X9_until, n_X9_until⟩
theorem wCo_X10_until : Cond.code yX10_until cX10_until 8 (some .int) ∈ zT := zT_mem (i := 1178) (by decide +kernel) rfl
theorem n_X10_until : zYN mX10_until 2 := ⟨by decide +kernel, by decide +kernel, by decide +kernel⟩
theorem wIn_X10_until : Cond.instanceMethod yX10_until ∈ zT := zT_mem (i := 1176) (by decide +kernel) rfl
theorem wSe_X10_until : Cond.selects RX10 yX10_until yX10_until ∈ zT := zT_mem (i := 1177) (by decide +kernel) rfl
theorem wllaw_113 : Cond.methodLink RL 113 yX10_until ∈ zT := zT_mem (i := 1175) (by decide +kernel) rfl
theorem klaw_113 : zKV RL 113 mX10_until 2 := ⟨wllaw_113, wIn_X10_until, wSe_X10_until, wIni_X10, wCo_X10_until, n_X10_until⟩
theorem wCo_X9_unheard : Cond.code yX9_unheard cX9_unheard 7 (some .int) ∈ zT := zT_mem (i := 780) (by decide +kernel) rfl
theorem n_X9_unheard : zYN mX9_unheard 3 := ⟨by decide +kernel, by decide +kernel, by decide +kernel⟩
theorem wIn_X9_unheard : Cond.instanceMethod yX9_unheard ∈ zT := zT_mem (i := 778) (by decide +kernel) rfl
theorem wSe_X9_unheard : Cond.selects RX9 yX9_unheard yX9_unheard ∈ zT := zT_mem (i := 779) (by decide +kernel) rfl
theorem wllaw_114 : Cond.methodLink RL 114 yX9_unheard ∈ zT := zT_mem (i := 777) (by decide +kernel) rfl
theorem klaw_114 : zKV RL 114 mX9_unheard 3 := ⟨wllaw_114, wIn_X9_unheard, wSe_X9_unheard, wIni_X9, wCo_X9_unheard, n_X9_unheard⟩
theorem wCo_X10_unheard : Cond.code yX10_unheard cX10_unheard 9 (some .int) ∈ zT := zT_mem (i := 1185) (by decide +kernel) rfl
theorem n_X10_unheard : zYN mX10_unheard 3 := ⟨by decide +kernel, by decide +kernel, by decide +kernel⟩
theorem wIn_X10_unheard : Cond.instanceMethod yX10_unheard ∈ zT := zT_mem (i := 1183) (by decide +kernel) rfl
theorem wSe_X10_unheard : Cond.selects RX10 yX10_unheard yX10_unheard ∈ zT := zT_mem (i := 1184) (by decide +kernel) rfl
theorem wllaw_117 : Cond.methodLink RL 117 yX10_unheard ∈ zT := zT_mem (i := 1182) (by decide +kernel) rfl
theorem klaw_117 : zKV RL 117 mX10_unheard 3 := ⟨wllaw_117, wIn_X10_unheard, wSe_X10_unheard, wIni_X10, wCo_X10_unheard, n_X10_unheard⟩
theorem wCo_X9_learns : Cond.code yX9_learns cX9_learns 4 (some .int) ∈ zT := zT_mem (i := 787) (by decide +kernel) rfl
theorem n_X9_learns : zYN mX9_learns 2 := ⟨by decide +kernel, by decide +kernel, by decide +kernel⟩
theorem wIn_X9_learns : Cond.instanceMethod yX9_learns ∈ zT := zT_mem (i := 785) (by decide +kernel) rfl
theorem wSe_X9_learns : Cond.selects RX9 yX9_learns yX9_learns ∈ zT := zT_mem (i := 786) (by decide +kernel) rfl
theorem wllaw_118 : Cond.methodLink RL 118 yX9_learns ∈ zT := zT_mem (i := 784) (by decide +kernel) rfl
theorem klaw_118 : zKV RL 118 mX9_learns 2 := ⟨wllaw_118, wIn_X9_learns, wSe_X9_learns, wIni_X9, wCo_X9_learns, n_X9_learns⟩
theorem wCo_X10_learns : Cond.code yX10_learns cX10_learns 4 (some .int) ∈ zT := zT_mem (i := 1189) (by decide +kernel) rfl
theorem n_X10_learns : zYN mX10_learns 2 := ⟨by decide +kernel, by decide +kernel, by decide +kernel⟩
theorem wIn_X10_learns : Cond.instanceMethod yX10_learns ∈ zT := zT_mem (i := 1187) (by decide +kernel) rfl
theorem wSe_X10_learns : Cond.selects RX10 yX10_learns yX10_learns ∈ zT := zT_mem (i := 1188) (by decide +kernel) rfl
theorem wllaw_121 : Cond.methodLink RL 121 yX10_learns ∈ zT := zT_mem (i := 1186) (by decide +kernel) rfl
theorem klaw_121 : zKV RL 121 mX10_learns 2 := ⟨wllaw_121, wIn_X10_learns, wSe_X10_learns, wIni_X10, wCo_X10_learns, n_X10_learns⟩
theorem wCo_X9_write : Cond.code yX9_write cX9_write 3 (some .int) ∈ zT := zT_mem (i := 795) (by decide +kernel) rfl
theorem n_X9_write : zYN mX9_write 2 := ⟨by decide +kernel, by decide +kernel, by decide +kernel⟩
theorem wIn_X9_write : Cond.instanceMethod yX9_write ∈ zT := zT_mem (i := 793) (by decide +kernel) rfl
theorem wSe_X9_write : Cond.selects RX9 yX9_write yX9_write ∈ zT := zT_mem (i := 794) (by decide +kernel) rfl
theorem wllaw_122 : Cond.methodLink RL 122 yX9_write ∈ zT := zT_mem (i := 792) (by decide +kernel) rfl
theorem klaw_122 : zKV RL 122 mX9_write 2 := ⟨wllaw_122, wIn_X9_write, wSe_X9_write, wIni_X9, wCo_X9_write, n_X9_write⟩
theorem wCo_X10_write : Cond.code yX10_write cX10_write 3 (some .int) ∈ zT := zT_mem (i := 1193) (by decide +kernel) rfl
theorem n_X10_write : zYN mX10_write 2 := ⟨by decide +kernel, by decide +kernel, by decide +kernel⟩
theorem wIn_X10_write : Cond.instanceMethod yX10_write ∈ zT := zT_mem (i := 1191) (by decide +kernel) rfl
theorem wSe_X10_write : Cond.selects RX10 yX10_write yX10_write ∈ zT := zT_mem (i := 1192) (by decide +kernel) rfl
theorem wllaw_125 : Cond.methodLink RL 125 yX10_write ∈ zT := zT_mem (i := 1190) (by decide +kernel) rfl
theorem klaw_125 : zKV RL 125 mX10_write 2 := ⟨wllaw_125, wIn_X10_write, wSe_X10_write, wIni_X10, wCo_X10_write, n_X10_write⟩
theorem wCo_X9_tear : Cond.code yX9_tear cX9_tear 2 (some .int) ∈ zT := zT_mem (i := 799) (by decide +kernel) rfl
theorem n_X9_tear : zYN mX9_tear 0 := ⟨by decide +kernel, by decide +kernel, by decide +kernel⟩
theorem wIn_X9_tear : Cond.instanceMethod yX9_tear ∈ zT := zT_mem (i := 797) (by decide +kernel) rfl
theorem wSe_X9_tear : Cond.selects RX9 yX9_tear yX9_tear ∈ zT := zT_mem (i := 798) (by decide +kernel) rfl
theorem wllaw_126 : Cond.methodLink RL 126 yX9_tear ∈ zT := zT_mem (i := 796) (by decide +kernel) rfl
theorem klaw_126 : zKV RL 126 mX9_tear 0 := ⟨wllaw_126, wIn_X9_tear, wSe_X9_tear, wIni_X9, wCo_X9_tear, n_X9_tear⟩
theorem wCo_X10_tear : Cond.code yX10_tear cX10_tear 2 (some .int) ∈ zT := zT_mem (i := 1197) (by decide +kernel) rfl
theorem n_X10_tear : zYN mX10_tear 0 := ⟨by decide +kernel, by decide +kernel, by decide +kernel⟩
theorem wIn_X10_tear : Cond.instanceMethod yX10_tear ∈ zT := zT_mem (i := 1195) (by decide +kernel) rfl
theorem wSe_X10_tear : Cond.selects RX10 yX10_tear yX10_tear ∈ zT := zT_mem (i := 1196) (by decide +kernel) rfl
theorem wllaw_129 : Cond.methodLink RL 129 yX10_tear ∈ zT := zT_mem (i := 1194) (by decide +kernel) rfl
theorem klaw_129 : zKV RL 129 mX10_tear 0 := ⟨wllaw_129, wIn_X10_tear, wSe_X10_tear, wIni_X10, wCo_X10_tear, n_X10_tear⟩
theorem wCo_X9_judge : Cond.code yX9_judge cX9_judge 2 (some .int) ∈ zT := zT_mem (i := 803) (by decide +kernel) rfl
theorem n_X9_judge : zYN mX9_judge 0 := ⟨by decide +kernel, by decide +kernel, by decide +kernel⟩
theorem wIn_X9_judge : Cond.instanceMethod yX9_judge ∈ zT := zT_mem (i := 801) (by decide +kernel) rfl
theorem wSe_X9_judge : Cond.selects RX9 yX9_judge yX9_judge ∈ zT := zT_mem (i := 802) (by decide +kernel) rfl
theorem wllaw_130 : Cond.methodLink RL 130 yX9_judge ∈ zT := zT_mem (i := 800) (by decide +kernel) rfl
theorem klaw_130 : zKV RL 130 mX9_judge 0 := ⟨wllaw_130, wIn_X9_judge, wSe_X9_judge, wIni_X9, wCo_X9_judge, n_X9_judge⟩
theorem wCo_X10_judge : Cond.code yX10_judge cX10_judge 2 (some .int) ∈ zT := zT_mem (i := 1201) (by decide +kernel) rfl
theorem n_X10_judge : zYN mX10_judge 0 := ⟨by decide +kernel, by decide +kernel, by decide +kernel⟩
theorem wIn_X10_judge : Cond.instanceMethod yX10_judge ∈ zT := zT_mem (i := 1199) (by decide +kernel) rfl
theorem wSe_X10_judge : Cond.selects RX10 yX10_judge yX10_judge ∈ zT := zT_mem (i := 1200) (by decide +kernel) rfl
theorem wllaw_133 : Cond.methodLink RL 133 yX10_judge ∈ zT := zT_mem (i := 1198) (by decide +kernel) rfl
theorem klaw_133 : zKV RL 133 mX10_judge 0 := ⟨wllaw_133, wIn_X10_judge, wSe_X10_judge, wIni_X10, wCo_X10_judge, n_X10_judge⟩
theorem wCo_X9_seed : Cond.code yX9_seed cX9_seed 3 (some .int) ∈ zT := zT_mem (i := 807) (by decide +kernel) rfl
theorem n_X9_seed : zYN mX9_seed 1 := ⟨by decide +kernel, by decide +kernel, by decide +kernel⟩
theorem wIn_X9_seed : Cond.instanceMethod yX9_seed ∈ zT := zT_mem (i := 805) (by decide +kernel) rfl
theorem wSe_X9_seed : Cond.selects RX9 yX9_seed yX9_seed ∈ zT := zT_mem (i := 806) (by decide +kernel) rfl
theorem wllaw_134 : Cond.methodLink RL 134 yX9_seed ∈ zT := zT_mem (i := 804) (by decide +kernel) rfl
theorem klaw_134 : zKV RL 134 mX9_seed 1 := ⟨wllaw_134, wIn_X9_seed, wSe_X9_seed, wIni_X9, wCo_X9_seed, n_X9_seed⟩
theorem wCo_X10_seed : Cond.code yX10_seed cX10_seed 2 (some .int) ∈ zT := zT_mem (i := 1205) (by decide +kernel) rfl
theorem n_X10_seed : zYN mX10_seed 1 := ⟨by decide +kernel, by decide +kernel, by decide +kernel⟩
theorem wIn_X10_seed : Cond.instanceMethod yX10_seed ∈ zT := zT_mem (i := 1203) (by decide +kernel) rfl
theorem wSe_X10_seed : Cond.selects RX10 yX10_seed yX10_seed ∈ zT := zT_mem (i := 1204) (by decide +kernel) rfl
theorem wllaw_137 : Cond.methodLink RL 137 yX10_seed ∈ zT := zT_mem (i := 1202) (by decide +kernel) rfl
theorem klaw_137 : zKV RL 137 mX10_seed 1 := ⟨wllaw_137, wIn_X10_seed, wSe_X10_seed, wIni_X10, wCo_X10_seed, n_X10_seed⟩
theorem wCo_X9_keep : Cond.code yX9_keep cX9_keep 2 (some .int) ∈ zT := zT_mem (i := 811) (by decide +kernel) rfl
theorem n_X9_keep : zYN mX9_keep 1 := ⟨by decide +kernel, by decide +kernel, by decide +kernel⟩
theorem wIn_X9_keep : Cond.instanceMethod yX9_keep ∈ zT := zT_mem (i := 809) (by decide +kernel) rfl
theorem wSe_X9_keep : Cond.selects RX9 yX9_keep yX9_keep ∈ zT := zT_mem (i := 810) (by decide +kernel) rfl
theorem wllaw_138 : Cond.methodLink RL 138 yX9_keep ∈ zT := zT_mem (i := 808) (by decide +kernel) rfl
theorem klaw_138 : zKV RL 138 mX9_keep 1 := ⟨wllaw_138, wIn_X9_keep, wSe_X9_keep, wIni_X9, wCo_X9_keep, n_X9_keep⟩
theorem wCo_X10_keep : Cond.code yX10_keep cX10_keep 3 (some .int) ∈ zT := zT_mem (i := 1209) (by decide +kernel) rfl
theorem n_X10_keep : zYN mX10_keep 1 := ⟨by decide +kernel, by decide +kernel, by decide +kernel⟩
theorem wIn_X10_keep : Cond.instanceMethod yX10_keep ∈ zT := zT_mem (i := 1207) (by decide +kernel) rfl
theorem wSe_X10_keep : Cond.selects RX10 yX10_keep yX10_keep ∈ zT := zT_mem (i := 1208) (by decide +kernel) rfl
theorem wllaw_141 : Cond.methodLink RL 141 yX10_keep ∈ zT := zT_mem (i := 1206) (by decide +kernel) rfl
theorem klaw_141 : zKV RL 141 mX10_keep 1 := ⟨wllaw_141, wIn_X10_keep, wSe_X10_keep, wIni_X10, wCo_X10_keep, n_X10_keep⟩
theorem wCo_X9_goBack : Cond.code yX9_goBack cX9_goBack 2 (some .int) ∈ zT := zT_mem (i := 818) (by decide +kernel) rfl
theorem n_X9_goBack : zYN mX9_goBack 1 := ⟨by decide +kernel, by decide +kernel, by decide +kernel⟩
theorem wIn_X9_goBack : Cond.instanceMethod yX9_goBack ∈ zT := zT_mem (i := 816) (by decide +kernel) rfl
theorem wSe_X9_goBack : Cond.selects RX9 yX9_goBack yX9_goBack ∈ zT := zT_mem (i := 817) (by decide +kernel) rfl
theorem wllaw_142 : Cond.methodLink RL 142 yX9_goBack ∈ zT := zT_mem (i := 815) (by decide +kernel) rfl
theorem klaw_142 : zKV RL 142 mX9_goBack 1 := ⟨wllaw_142, wIn_X9_goBack, wSe_X9_goBack, wIni_X9, wCo_X9_goBack, n_X9_goBack⟩
theorem wCo_X10_goBack : Cond.code yX10_goBack cX10_goBack 3 (some .int) ∈ zT := zT_mem (i := 1213) (by decide +kernel) rfl
theorem n_X10_goBack : zYN mX10_goBack 1 := ⟨by decide +kernel, by decide +kernel, by decide +kernel⟩
theorem wIn_X10_goBack : Cond.instanceMethod yX10_goBack ∈ zT := zT_mem (i := 1211) (by decide +kernel) rfl
theorem wSe_X10_goBack : Cond.selects RX10 yX10_goBack yX10_goBack ∈ zT := zT_mem (i := 1212) (by decide +kernel) rfl
theorem wllaw_145 : Cond.methodLink RL 145 yX10_goBack ∈ zT := zT_mem (i := 1210) (by decide +kernel) rfl
theorem klaw_145 : zKV RL 145 mX10_goBack 1 := ⟨wllaw_145, wIn_X10_goBack, wSe_X10_goBack, wIni_X10, wCo_X10_goBack, n_X10_goBack⟩
end
section

section ZR2
variable {l : Launch} {G : zG} {M : zM} {pc : Nat} {lv : List (Nat × Value)} {st : List Value} {μ : Mem} {ν : Lng} {K : Int32 → Mem → Lng → Prop} {k t n q j : Nat}
theorem nI_lt_in {i : Int32} (hi : i = nI j) (hj : j < n) (hn : Nat.blt n 2147483648 = true) : vp_in i n := by rw [hi]; exact vp_in_nI hj (Nat.blt_eq.mp hn)
theorem nI_cl {i : Int32} (hi : i = nI j) (hj : j < n) (hn : Nat.blt n 2147483648 = true) : i.toNatClampNeg = j := by rw [hi]; exact nI_clamp (Nat.lt_trans hj (Nat.blt_eq.mp hn))
theorem m_ialdN {g : Nat → Int32} {i : Int32} (hd : decode (zcc M) pc = .ok (.iaload, 1)) (hs : zsh[k]? = some (.inl (0, n, .inl g))) (hi : i = nI j) (hj : j < n) (hn : Nat.blt n 2147483648 = true) (kk : Am l G M (pc + 1) lv (.int (μ k j) :: st) μ ν K) : Am l G M pc lv (.int i :: .ref k :: st) μ ν K :=
  m_iald hd hs (nI_lt_in hi hj hn) (by rw [nI_cl hi hj hn]; exact kk)
theorem m_zaldN {g : Nat → Int32} {i : Int32} (hd : decode (zcc M) pc = .ok (.baload, 1)) (hs : zsh[k]? = some (.inl (1, n, .inl g))) (hi : i = nI j) (hj : j < n) (hn : Nat.blt n 2147483648 = true) (kk : Am l G M (pc + 1) lv (.int (μ k j) :: st) μ ν K) : Am l G M pc lv (.int i :: .ref k :: st) μ ν K :=
  m_zald hd hs (nI_lt_in hi hj hn) (by rw [nI_cl hi hj hn]; exact kk)
theorem m_oald {i : Int32} (hd : decode (zcc M) pc = .ok (.iaload, 1)) (hi : i = nI j) (hj : j < 7) (kk : Am l G M (pc + 1) lv (.int (zord j) :: st) μ ν K) : Am l G M pc lv (.int i :: .retAddr 0 :: st) μ ν K :=
  z_oald hd (nI_lt_in hi hj rfl) (by rw [nI_cl hi hj rfl]; exact kk)
theorem m_sald {i : Int32} (hd : decode (zcc M) pc = .ok (.iaload, 1)) (hi : i = nI j) (hj : j < zgL G) (hn : zgL G < 2147483648) (kk : Am l G M (pc + 1) lv (.int (zgx G j) :: st) μ ν K) : Am l G M pc lv (.int i :: .retAddr 1 :: st) μ ν K :=
  z_sald hd (nI_lt_in hi hj (Nat.blt_eq.mpr hn)) (by rw [nI_cl hi hj (Nat.blt_eq.mpr hn)]; exact kk)
theorem m_iastN {g : Nat → Int32} {i x : Int32} (hd : decode (zcc M) pc = .ok (.iastore, 1)) (hs : zsh[k]? = some (.inl (0, n, .inl g))) (hi : i = nI j) (hj : j < n) (hn : Nat.blt n 2147483648 = true) (kk : Am l G M (pc + 1) lv st (up2 μ k j x) ν K) : Am l G M pc lv (.int x :: .int i :: .ref k :: st) μ ν K :=
  m_iast hd hs (nI_lt_in hi hj hn) (by rw [nI_cl hi hj hn]; exact kk)
theorem m_zastN {g : Nat → Int32} {i x : Int32} (hd : decode (zcc M) pc = .ok (.bastore, 1)) (hs : zsh[k]? = some (.inl (1, n, .inl g))) (hi : i = nI j) (hj : j < n) (hn : Nat.blt n 2147483648 = true) (hx : narrow .boolean (.int x) = .int x) (kk : Am l G M (pc + 1) lv st (up2 μ k j x) ν K) : Am l G M pc lv (.int x :: .int i :: .ref k :: st) μ ν K :=
  m_zast hd hs (nI_lt_in hi hj hn) hx (by rw [nI_cl hi hj hn]; exact kk)
theorem m_aaldN {f : Nat → Option Nat} {C0 : String} {i : Int32} (hd : decode (zcc M) pc = .ok (.aaload, 1)) (hs : zsh[k]? = some (.inl (t, n, .inr f))) (ht : (ztys (zgt G))[t]? = some (zgt G t, .object C0)) (hi : i = nI j) (hj : j < n) (hn : Nat.blt n 2147483648 = true) (hf : f j = some q) (kk : Am l G M (pc + 1) lv (.ref q :: st) μ ν K) : Am l G M pc lv (.int i :: .ref k :: st) μ ν K :=
  m_aald hd hs ht (nI_lt_in hi hj hn) (by rw [nI_cl hi hj hn]; exact hf) kk
theorem z_lv {w : List zC} {cs ss : Nat} {K : Int32 → List zC → Prop} {lv' : List (Nat × Value)} (ks : List Nat) (h : lv_pick lv ks = lv') (kk : AW l G M pc lv' st w cs ss K) : AW l G M pc lv st w cs ss K := by
  intro p e s m args below meth c H locs ls Q C R hH hl
  refine kk p e s m args below meth c H locs ls Q C R hH ⟨hl.1, hl.2.1, fun q hq => ?_⟩
  obtain ⟨a, ha, rfl⟩ := List.mem_map.mp hq
  rw [← h] at ha
  obtain ⟨i, -, hi⟩ := List.mem_filterMap.mp ha
  exact hl.2.2 _ (List.mem_map.mpr ⟨a, List.mem_of_getElem? hi, rfl⟩)
end ZR2
def zSwing (k : Nat) : Prop := zsh[k]? = some (.inr (7, [.ref (k + 1), .ref (k + 2), .ref (k + 3), .int 0, .int 0, .int 0, .int 0, .int 0])) ∧ zsh[k + 1]? = some (.inl (0, 2, .inl zz)) ∧ zsh[k + 2]? = some (.inl (0, 2, .inl zz)) ∧ zsh[k + 3]? = some (.inl (0, 2, .inl zz))
def zPas (k : Nat) : Prop := zsh[k]? = some (.inr (3, [.int 0, .int 0, .int 0, .int 0, .int 0, .int 0]))
def zPlan (k : Nat) : Prop := zsh[k]? = some (.inr (4, [.ref (k + 1), .ref (k + 2), .ref (k + 3), .int 0, .int 0])) ∧ zsh[k + 1]? = some (.inl (0, 6, .inl zz)) ∧ zsh[k + 2]? = some (.inl (0, 6, .inl zz)) ∧ zsh[k + 3]? = some (.inl (0, 6, .inl zz))
def zHouse (k : Nat) : Prop := zsh[k]? = some (.inr (1, [.ref (k + 1), .ref (k + 2), .ref (k + 3), .ref (k + 4), .ref (k + 5), .ref (k + 6), .int 0])) ∧ zsh[k + 1]? = some (.inl (0, 2, .inl zz)) ∧ zsh[k + 2]? = some (.inl (0, 2, .inl zz)) ∧ zsh[k + 3]? = some (.inl (0, 6, .inl zz)) ∧ zsh[k + 4]? = some (.inl (0, 6, .inl zz)) ∧ zsh[k + 5]? = some (.inl (0, 6, .inl zz)) ∧ zsh[k + 6]? = some (.inl (0, 6, .inl zz))
def zImage (k : Nat) : Prop := zsh[k]? = some (.inr (2, [.ref (k + 1), .long 0, .int 0])) ∧ zPlan (k + 1)
theorem zSwing_of (i : Nat) (h : i < 2) : zSwing (30 + 4 * i) := by
  match i, h with
  | 0, _ => exact ⟨rfl, rfl, rfl, rfl⟩
  | 1, _ => exact ⟨rfl, rfl, rfl, rfl⟩
theorem zPas_of (i : Nat) (h : i < 6) : zPas (38 + i) := by
  match i, h with
  | 0, _ => exact rfl
  | 1, _ => exact rfl
  | 2, _ => exact rfl
  | 3, _ => exact rfl
  | 4, _ => exact rfl
  | 5, _ => exact rfl
theorem zImage_of (i : Nat) (h : i < 2) : zImage (56 + 5 * i) := by
  match i, h with
  | 0, _ => exact ⟨rfl, rfl, rfl, rfl, rfl⟩
  | 1, _ => exact ⟨rfl, rfl, rfl, rfl, rfl⟩
theorem zPlan9 : zPlan 9 := ⟨rfl, rfl, rfl, rfl⟩
theorem zPlan22 : zPlan 22 := ⟨rfl, rfl, rfl, rfl⟩
theorem zPlan45 : zPlan 45 := ⟨rfl, rfl, rfl, rfl⟩
theorem zHouse2 : zHouse 2 := ⟨rfl, rfl, rfl, rfl, rfl, rfl, rfl⟩
theorem zHouse15 : zHouse 15 := ⟨rfl, rfl, rfl, rfl, rfl, rfl, rfl⟩
theorem zSwing_row (i : Nat) (h : i < 2) : (fun j => [some 30, some 34].getD j none) i = some (30 + 4 * i) := by
  match i, h with
  | 0, _ => rfl
  | 1, _ => rfl
theorem zPas_row (i : Nat) (h : i < 6) : (fun j => [some 38, some 39, some 40, some 41, some 42, some 43].getD j none) i = some (38 + i) := by
  match i, h with
  | 0, _ => rfl
  | 1, _ => rfl
  | 2, _ => rfl
  | 3, _ => rfl
  | 4, _ => rfl
  | 5, _ => rfl
theorem zImage_row (i : Nat) (h : i < 2) : (fun j => [some 56, some 61].getD j none) i = some (56 + 5 * i) := by
  match i, h with
  | 0, _ => rfl
  | 1, _ => rfl
/-- a truth value as an int -/
def zb (c : Prop) [Decidable c] : Int32 := if c then 1 else 0
end
section

abbrev Cf (l : Launch) (G : zG) (M : zM) (As : List Value) (μ : Mem) (ν : Lng) (r : Int32) (μ' : Mem) (ν' : Lng) : Prop := Cm l G M As μ ν (fun a b c => a = r ∧ b = μ' ∧ c = ν')
abbrev Cv (l : Launch) (G : zG) (M : zM) (As : List Value) (μ : Mem) (ν : Lng) (μ' : Mem) (ν' : Lng) : Prop := Cm l G M As μ ν (fun _ b c => b = μ' ∧ c = ν')
def fBusy (μ : Mem) (k s : Nat) (t : Int32) : Int32 := if t < μ (k + 1) s then 0 else if μ (k + 2) s ≤ t then 0 else 1
def fOpen (μ : Mem) (k : Nat) (t : Int32) : Int32 := if t < μ k 3 then 0 else if μ k 4 ≤ t then 0 else 1
def fBack (μ : Mem) (k : Nat) (t : Int32) : Int32 := if t < μ k 4 then 0 else if μ k 5 ≤ t then 0 else 1
def fDoing (μ : Mem) (k : Nat) (t : Int32) : Int32 := if ¬ fBusy μ k 0 t = 0 then 1 else if ¬ fBusy μ k 1 t = 0 then 1 else if fOpen μ k t = 0 then (if fBack μ k t = 0 then 0 else 3) else 2
def fLet (μ : Mem) (k s : Nat) (w t u : Int32) : Mem :=
  if t < μ (k + 2) s then
    let μ1 := up2 μ (k + 1) s (if t < μ (k + 1) s then t else μ (k + 1) s)
    up2 (up2 μ1 (k + 2) s (if μ1 (k + 2) s < u then u else μ1 (k + 2) s)) (k + 3) s w
  else up2 (up2 (up2 μ (k + 1) s t) (k + 2) s u) (k + 3) s w
def fKick (μ : Mem) (k : Nat) (t h b : Int32) : Mem :=
  let μ1 := up2 μ k 3 t
  let μ2 := up2 μ1 k 4 (t + h)
  let μ3 := up2 μ2 k 5 (μ2 k 4 + b)
  up2 μ3 k 7 (μ3 k 7 + 1)
def fFill (μ : Mem) (k n : Nat) (v : Int32) : Mem := va_up μ k (fun j => if j < n then v else μ k j)
theorem fFill_0 (μ : Mem) (k : Nat) (v : Int32) : fFill μ k 0 v = μ := by
  funext a b
  by_cases h : a = k
  · subst h; simp [fFill, va_up]
  · simp [fFill, va_up, h]
theorem fFill_s (μ : Mem) (k i : Nat) (v : Int32) : up2 (fFill μ k i v) k i v = fFill μ k (i + 1) v := by
  funext a b
  by_cases h : a = k
  · subst h
    rw [up2_row]
    by_cases hb : b = i
    · subst hb; simp [fFill, va_up]
    · rw [if_neg hb]
      simp only [fFill, va_up, if_true]
      by_cases h1 : b < i
      · rw [if_pos h1, if_pos (by omega)]
      · rw [if_neg h1, if_neg (by omega)]
  · rw [up2_ne h]; simp [fFill, va_up, h]
set_option maxRecDepth 100000 in
set_option maxHeartbeats 4000000 in
theorem c_busyFor {l : Launch} {G : zG} {k : Nat} (hk : zSwing k) {μ : Mem} {ν : Lng} {s : Nat} (hs : s < 2) {t : Int32} : Cm l G mX7_busyFor [.ref k, .int (nI s), .int t] μ ν (fun a9 b9 c9 => a9 = fBusy μ k s t ∧ b9 = μ ∧ c9 = ν) := by
  refine Con.of (by decide) (Nat.le_of_ble_eq_true rfl) ?_
  show Am l G mX7_busyFor 0 [(0, .ref k), (1, .int (nI s)), (2, .int t)] [] μ ν _
  refine z_aload_n dX7_busyFor_0 rfl ?_
  refine m_getr dX7_busyFor_1 fX7_9 hk.1 rfl ?_
  refine z_iload_n dX7_busyFor_4 rfl ?_
  refine m_ialdN (j := s) dX7_busyFor_5 hk.2.1 rfl (by omega) rfl ?_
  refine z_iload_n dX7_busyFor_6 rfl ?_
  refine z_icmp_gt 24 dX7_busyFor_7 (by decide) (fun h7 => ?_) (fun h7 => ?_)
  · skip
    refine z_iconst (v := 0) dX7_busyFor_24 rfl ?_
    refine m_iret dX7_busyFor_25 rfl rfl ?_
    exact ⟨by simp only [fBusy, h7, if_true, if_false], rfl, rfl⟩
  · skip
    refine z_iload_n dX7_busyFor_10 rfl ?_
    refine z_aload_n dX7_busyFor_11 rfl ?_
    refine m_getr dX7_busyFor_12 fX7_15 hk.1 rfl ?_
    refine z_iload_n dX7_busyFor_15 rfl ?_
    refine m_ialdN (j := s) dX7_busyFor_16 hk.2.2.1 rfl (by omega) rfl ?_
    refine z_icmp_ge 24 dX7_busyFor_17 (by decide) (fun h17 => ?_) (fun h17 => ?_)
    · skip
      refine z_iconst (v := 0) dX7_busyFor_24 rfl ?_
      refine m_iret dX7_busyFor_25 rfl rfl ?_
      exact ⟨by simp only [fBusy, h7, h17, if_true, if_false], rfl, rfl⟩
    · skip
      refine z_iconst (v := 1) dX7_busyFor_20 rfl ?_
      refine z_goto 25 dX7_busyFor_21 (by decide) ?_
      refine m_iret dX7_busyFor_25 rfl rfl ?_
      exact ⟨by simp only [fBusy, h7, h17, if_true, if_false], rfl, rfl⟩
set_option maxRecDepth 100000 in
set_option maxHeartbeats 4000000 in
theorem c_openAt {l : Launch} {G : zG} {k : Nat} (hk : zSwing k) {μ : Mem} {ν : Lng} {t : Int32} : Cm l G mX7_openAt [.ref k, .int t] μ ν (fun a9 b9 c9 => a9 = fOpen μ k t ∧ b9 = μ ∧ c9 = ν) := by
  refine Con.of (by decide) (Nat.le_of_ble_eq_true rfl) ?_
  show Am l G mX7_openAt 0 [(0, .ref k), (1, .int t)] [] μ ν _
  refine z_aload_n dX7_openAt_0 rfl ?_
  refine m_geti dX7_openAt_1 fX7_21 hk.1 rfl ?_
  refine z_iload_n dX7_openAt_4 rfl ?_
  refine z_icmp_gt 20 dX7_openAt_5 (by decide) (fun h5 => ?_) (fun h5 => ?_)
  · skip
    refine z_iconst (v := 0) dX7_openAt_20 rfl ?_
    refine m_iret dX7_openAt_21 rfl rfl ?_
    exact ⟨by simp only [fOpen, h5, if_true, if_false], rfl, rfl⟩
  · skip
    refine z_iload_n dX7_openAt_8 rfl ?_
    refine z_aload_n dX7_openAt_9 rfl ?_
    refine m_geti dX7_openAt_10 fX7_25 hk.1 rfl ?_
    refine z_icmp_ge 20 dX7_openAt_13 (by decide) (fun h13 => ?_) (fun h13 => ?_)
    · skip
      refine z_iconst (v := 0) dX7_openAt_20 rfl ?_
      refine m_iret dX7_openAt_21 rfl rfl ?_
      exact ⟨by simp only [fOpen, h5, h13, if_true, if_false], rfl, rfl⟩
    · skip
      refine z_iconst (v := 1) dX7_openAt_16 rfl ?_
      refine z_goto 21 dX7_openAt_17 (by decide) ?_
      refine m_iret dX7_openAt_21 rfl rfl ?_
      exact ⟨by simp only [fOpen, h5, h13, if_true, if_false], rfl, rfl⟩
set_option maxRecDepth 100000 in
set_option maxHeartbeats 4000000 in
theorem c_comesBackAt {l : Launch} {G : zG} {k : Nat} (hk : zSwing k) {μ : Mem} {ν : Lng} {t : Int32} : Cm l G mX7_comesBackAt [.ref k, .int t] μ ν (fun a9 b9 c9 => a9 = fBack μ k t ∧ b9 = μ ∧ c9 = ν) := by
  refine Con.of (by decide) (Nat.le_of_ble_eq_true rfl) ?_
  show Am l G mX7_comesBackAt 0 [(0, .ref k), (1, .int t)] [] μ ν _
  refine z_aload_n dX7_comesBackAt_0 rfl ?_
  refine m_geti dX7_comesBackAt_1 fX7_25 hk.1 rfl ?_
  refine z_iload_n dX7_comesBackAt_4 rfl ?_
  refine z_icmp_gt 20 dX7_comesBackAt_5 (by decide) (fun h5 => ?_) (fun h5 => ?_)
  · skip
    refine z_iconst (v := 0) dX7_comesBackAt_20 rfl ?_
    refine m_iret dX7_comesBackAt_21 rfl rfl ?_
    exact ⟨by simp only [fBack, h5, if_true, if_false], rfl, rfl⟩
  · skip
    refine z_iload_n dX7_comesBackAt_8 rfl ?_
    refine z_aload_n dX7_comesBackAt_9 rfl ?_
    refine m_geti dX7_comesBackAt_10 fX7_28 hk.1 rfl ?_
    refine z_icmp_ge 20 dX7_comesBackAt_13 (by decide) (fun h13 => ?_) (fun h13 => ?_)
    · skip
      refine z_iconst (v := 0) dX7_comesBackAt_20 rfl ?_
      refine m_iret dX7_comesBackAt_21 rfl rfl ?_
      exact ⟨by simp only [fBack, h5, h13, if_true, if_false], rfl, rfl⟩
    · skip
      refine z_iconst (v := 1) dX7_comesBackAt_16 rfl ?_
      refine z_goto 21 dX7_comesBackAt_17 (by decide) ?_
      refine m_iret dX7_comesBackAt_21 rfl rfl ?_
      exact ⟨by simp only [fBack, h5, h13, if_true, if_false], rfl, rfl⟩
set_option maxRecDepth 100000 in
set_option maxHeartbeats 4000000 in
theorem c_letThrough {l : Launch} {G : zG} {k : Nat} (hk : zSwing k) {μ : Mem} {ν : Lng} {s : Nat} (hs : s < 2) {w t u : Int32} : Cm l G mX7_letThrough [.ref k, .int w, .int (nI s), .int t, .int u] μ ν (fun _ b9 c9 => b9 = fLet μ k s w t u ∧ c9 = ν) := by
  refine Con.of (by decide) (Nat.le_of_ble_eq_true rfl) ?_
  show Am l G mX7_letThrough 0 [(0, .ref k), (1, .int w), (2, .int (nI s)), (3, .int t), (4, .int u)] [] μ ν _
  refine z_aload_n dX7_letThrough_0 rfl ?_
  refine m_getr dX7_letThrough_1 fX7_15 hk.1 rfl ?_
  refine z_iload_n dX7_letThrough_4 rfl ?_
  refine m_ialdN (j := s) dX7_letThrough_5 hk.2.2.1 rfl (by omega) rfl ?_
  refine z_iload_n dX7_letThrough_6 rfl ?_
  refine z_icmp_gt 28 dX7_letThrough_7 (by decide) (fun h7 => ?_) (fun h7 => ?_)
  · skip
    refine z_aload_n dX7_letThrough_28 rfl ?_
    refine m_getr dX7_letThrough_29 fX7_9 hk.1 rfl ?_
    refine z_iload_n dX7_letThrough_32 rfl ?_
    refine z_aload_n dX7_letThrough_33 rfl ?_
    refine m_getr dX7_letThrough_34 fX7_9 hk.1 rfl ?_
    refine z_iload_n dX7_letThrough_37 rfl ?_
    refine m_ialdN (j := s) dX7_letThrough_38 hk.2.1 rfl (by omega) rfl ?_
    refine z_iload_n dX7_letThrough_39 rfl ?_
    refine z_min dX7_letThrough_40 kX7_43 wSt_min wIniMath wCo_min rfl rfl rfl rfl ?_
    refine m_iastN (j := s) dX7_letThrough_43 hk.2.1 rfl (by omega) rfl ?_
    refine z_aload_n dX7_letThrough_44 rfl ?_
    refine m_getr dX7_letThrough_45 fX7_15 hk.1 rfl ?_
    refine z_iload_n dX7_letThrough_48 rfl ?_
    refine z_aload_n dX7_letThrough_49 rfl ?_
    refine m_getr dX7_letThrough_50 fX7_15 hk.1 rfl ?_
    refine z_iload_n dX7_letThrough_53 rfl ?_
    refine m_ialdN (j := s) dX7_letThrough_54 hk.2.2.1 rfl (by omega) rfl ?_
    refine z_iload dX7_letThrough_55 rfl ?_
    refine z_max dX7_letThrough_57 kX7_49 wSt_max wIniMath wCo_max rfl rfl rfl rfl ?_
    refine m_iastN (j := s) dX7_letThrough_60 hk.2.2.1 rfl (by omega) rfl ?_
    refine z_aload_n dX7_letThrough_61 rfl ?_
    refine m_getr dX7_letThrough_62 fX7_18 hk.1 rfl ?_
    refine z_iload_n dX7_letThrough_65 rfl ?_
    refine z_iload_n dX7_letThrough_66 rfl ?_
    refine m_iastN (j := s) dX7_letThrough_67 hk.2.2.2 rfl (by omega) rfl ?_
    refine m_ret dX7_letThrough_68 rfl ?_
    exact ⟨by simp only [fLet, h7, if_true, if_false], rfl⟩
  · skip
    refine z_aload_n dX7_letThrough_10 rfl ?_
    refine m_getr dX7_letThrough_11 fX7_9 hk.1 rfl ?_
    refine z_iload_n dX7_letThrough_14 rfl ?_
    refine z_iload_n dX7_letThrough_15 rfl ?_
    refine m_iastN (j := s) dX7_letThrough_16 hk.2.1 rfl (by omega) rfl ?_
    refine z_aload_n dX7_letThrough_17 rfl ?_
    refine m_getr dX7_letThrough_18 fX7_15 hk.1 rfl ?_
    refine z_iload_n dX7_letThrough_21 rfl ?_
    refine z_iload dX7_letThrough_22 rfl ?_
    refine m_iastN (j := s) dX7_letThrough_24 hk.2.2.1 rfl (by omega) rfl ?_
    refine z_goto 61 dX7_letThrough_25 (by decide) ?_
    refine z_aload_n dX7_letThrough_61 rfl ?_
    refine m_getr dX7_letThrough_62 fX7_18 hk.1 rfl ?_
    refine z_iload_n dX7_letThrough_65 rfl ?_
    refine z_iload_n dX7_letThrough_66 rfl ?_
    refine m_iastN (j := s) dX7_letThrough_67 hk.2.2.2 rfl (by omega) rfl ?_
    refine m_ret dX7_letThrough_68 rfl ?_
    exact ⟨by simp only [fLet, h7, if_true, if_false], rfl⟩
set_option maxRecDepth 100000 in
set_option maxHeartbeats 4000000 in
theorem c_takeKick {l : Launch} {G : zG} {k : Nat} (hk : zSwing k) {μ : Mem} {ν : Lng} {t h b : Int32} : Cm l G mX7_takeKick [.ref k, .int t, .int h, .int b] μ ν (fun _ b9 c9 => b9 = fKick μ k t h b ∧ c9 = ν) := by
  refine Con.of (by decide) (Nat.le_of_ble_eq_true rfl) ?_
  show Am l G mX7_takeKick 0 [(0, .ref k), (1, .int t), (2, .int h), (3, .int b)] [] μ ν _
  refine z_aload_n dX7_takeKick_0 rfl ?_
  refine z_iload_n dX7_takeKick_1 rfl ?_
  refine m_puti dX7_takeKick_2 fX7_21 (fun q h => by cases h; rfl) rfl rfl hk.1 rfl ?_
  refine z_aload_n dX7_takeKick_5 rfl ?_
  refine z_iload_n dX7_takeKick_6 rfl ?_
  refine z_iload_n dX7_takeKick_7 rfl ?_
  refine z_iadd dX7_takeKick_8 ?_
  refine m_puti dX7_takeKick_9 fX7_25 (fun q h => by cases h; rfl) rfl rfl hk.1 rfl ?_
  refine z_aload_n dX7_takeKick_12 rfl ?_
  refine z_aload_n dX7_takeKick_13 rfl ?_
  refine m_geti dX7_takeKick_14 fX7_25 hk.1 rfl ?_
  refine z_iload_n dX7_takeKick_17 rfl ?_
  refine z_iadd dX7_takeKick_18 ?_
  refine m_puti dX7_takeKick_19 fX7_28 (fun q h => by cases h; rfl) rfl rfl hk.1 rfl ?_
  refine z_aload_n dX7_takeKick_22 rfl ?_
  refine z_dup dX7_takeKick_23 rfl ?_
  refine m_geti dX7_takeKick_24 fX7_34 hk.1 rfl ?_
  refine z_iconst (v := 1) dX7_takeKick_27 rfl ?_
  refine z_iadd dX7_takeKick_28 ?_
  refine m_puti dX7_takeKick_29 fX7_34 (fun q h => by cases h; rfl) rfl rfl hk.1 rfl ?_
  refine m_ret dX7_takeKick_32 rfl ?_
  exact ⟨rfl, rfl⟩
set_option maxRecDepth 100000 in
set_option maxHeartbeats 4000000 in
theorem c_fill {l : Launch} {G : zG} {k n : Nat} (hs : zsh[k]? = some (.inl (0, n, .inl zz))) (hn : n < 2147483648) {μ : Mem} {ν : Lng} {v : Int32} : Cm l G mJ7_fill_53178 [.ref k, .int v] μ ν (fun _ b9 c9 => b9 = fFill μ k n v ∧ c9 = ν) := by
  refine Con.of (by decide) (Nat.le_of_ble_eq_true rfl) ?_
  show Am l G mJ7_fill_53178 0 [(0, .ref k), (1, .int v)] [] μ ν _
  have h0 := m_for (l := l) (G := G) (M := mJ7_fill_53178) (pc := 5) (ν := ν) (K := (fun _ b9 c9 => b9 = fFill μ k n v ∧ c9 = ν)) (N := n) (fun i => [(3, .int (nI n)), (2, .int (nI i)), (0, .ref k), (1, .int v)]) (fun i => fFill μ k i v) (fun i hi H => by
    refine z_iload_n dJ7_fill_53178_5 rfl ?_
    refine z_iload_n dJ7_fill_53178_6 rfl ?_
    refine z_icmp_ge 20 dJ7_fill_53178_7 (by decide) (fun h7 => absurd h7 (nI_ge hi hn)) (fun h7 => ?_)
    refine z_aload_n dJ7_fill_53178_10 rfl ?_
    refine z_iload_n dJ7_fill_53178_11 rfl ?_
    refine z_iload_n dJ7_fill_53178_12 rfl ?_
    refine m_iastN (j := i) dJ7_fill_53178_13 hs rfl hi (Nat.blt_eq.mpr hn) ?_
    refine z_iinc (fun y => [(2, .int y), (3, .int (nI n)), (0, .ref k), (1, .int v)]) dJ7_fill_53178_14 rfl rfl (fun _ => rfl) (fun x2_14 ex2_14 => ?_)
    obtain rfl : x2_14 = nI (i + 1) := by rw [ex2_14]; exact nI_1 i
    refine z_goto 5 dJ7_fill_53178_17 (by decide) ?_
    refine z_lv [1, 0, 2, 3] rfl ?_
    rw [fFill_s]
    exact H) (by
    refine z_iload_n dJ7_fill_53178_5 rfl ?_
    refine z_iload_n dJ7_fill_53178_6 rfl ?_
    refine z_icmp_ge 20 dJ7_fill_53178_7 (by decide) (fun h7 => ?_) (fun h7 => absurd (nI_le (Nat.le_refl n) hn) h7)
    refine m_ret dJ7_fill_53178_20 rfl ?_
    exact ⟨rfl, rfl⟩)
  refine z_iconst (v := 0) dJ7_fill_53178_0 rfl ?_
  refine z_istore_n (i := 2) (fun y => [(2, .int y), (0, .ref k), (1, .int v)]) dJ7_fill_53178_1 rfl rfl (fun _ => rfl) (fun x9 e9 => ?_)
  subst e9
  refine z_aload_n dJ7_fill_53178_2 rfl ?_
  refine m_alen dJ7_fill_53178_3 hs ?_
  refine z_istore_n (i := 3) (fun y => [(3, .int y), (2, .int 0), (0, .ref k), (1, .int v)]) dJ7_fill_53178_4 rfl rfl (fun _ => rfl) (fun x9 e9 => ?_)
  subst e9
  have h9 := h0 0 (Nat.zero_le n)
  rw [fFill_0] at h9
  exact h9
def fRest (μ : Mem) (k : Nat) : Mem := up2 (up2 (up2 (up2 (up2 (fFill (fFill (fFill μ (k + 1) 2 0) (k + 2) 2 0) (k + 3) 2 (-1)) k 3 0) k 4 0) k 5 0) k 6 0) k 7 0
set_option maxRecDepth 100000 in
set_option maxHeartbeats 4000000 in
theorem c_rest {l : Launch} {G : zG} {k : Nat} (hk : zSwing k) {μ : Mem} {ν : Lng}  : Cm l G mX7_rest [.ref k] μ ν (fun _ b9 c9 => b9 = fRest μ k ∧ c9 = ν) := by
  refine Con.of (by decide) (Nat.le_of_ble_eq_true rfl) ?_
  show Am l G mX7_rest 0 [(0, .ref k)] [] μ ν _
  refine z_aload_n dX7_rest_0 rfl ?_
  refine m_getr dX7_rest_1 fX7_9 hk.1 rfl ?_
  refine z_iconst (v := 0) dX7_rest_4 rfl ?_
  refine m_callSv (As := [.ref _, .int _]) dX7_rest_5 kX7_37 ⟨rfl, rfl⟩ rfl ⟨rfl, rfl⟩ rfl rfl rfl (c_fill hk.2.1 (by decide)) (fun μ5 ν5 hk5 => ?_)
  obtain ⟨rfl, rfl⟩ := hk5
  refine z_aload_n dX7_rest_8 rfl ?_
  refine m_getr dX7_rest_9 fX7_15 hk.1 rfl ?_
  refine z_iconst (v := 0) dX7_rest_12 rfl ?_
  refine m_callSv (As := [.ref _, .int _]) dX7_rest_13 kX7_37 ⟨rfl, rfl⟩ rfl ⟨rfl, rfl⟩ rfl rfl rfl (c_fill hk.2.2.1 (by decide)) (fun μ13 ν13 hk13 => ?_)
  obtain ⟨rfl, rfl⟩ := hk13
  refine z_aload_n dX7_rest_16 rfl ?_
  refine m_getr dX7_rest_17 fX7_18 hk.1 rfl ?_
  refine z_iconst (v := -1) dX7_rest_20 rfl ?_
  refine m_callSv (As := [.ref _, .int _]) dX7_rest_21 kX7_37 ⟨rfl, rfl⟩ rfl ⟨rfl, rfl⟩ rfl rfl rfl (c_fill hk.2.2.2 (by decide)) (fun μ21 ν21 hk21 => ?_)
  obtain ⟨rfl, rfl⟩ := hk21
  refine z_aload_n dX7_rest_24 rfl ?_
  refine z_iconst (v := 0) dX7_rest_25 rfl ?_
  refine m_puti dX7_rest_26 fX7_21 (fun q h => by cases h; rfl) rfl rfl hk.1 rfl ?_
  refine z_aload_n dX7_rest_29 rfl ?_
  refine z_iconst (v := 0) dX7_rest_30 rfl ?_
  refine m_puti dX7_rest_31 fX7_25 (fun q h => by cases h; rfl) rfl rfl hk.1 rfl ?_
  refine z_aload_n dX7_rest_34 rfl ?_
  refine z_iconst (v := 0) dX7_rest_35 rfl ?_
  refine m_puti dX7_rest_36 fX7_28 (fun q h => by cases h; rfl) rfl rfl hk.1 rfl ?_
  refine z_aload_n dX7_rest_39 rfl ?_
  refine z_iconst (v := 0) dX7_rest_40 rfl ?_
  refine m_puti dX7_rest_41 fX7_31 (fun q h => by cases h; rfl) rfl rfl hk.1 rfl ?_
  refine z_aload_n dX7_rest_44 rfl ?_
  refine z_iconst (v := 0) dX7_rest_45 rfl ?_
  refine m_puti dX7_rest_46 fX7_34 (fun q h => by cases h; rfl) rfl rfl hk.1 rfl ?_
  refine m_ret dX7_rest_49 rfl ?_
  exact ⟨rfl, rfl⟩
set_option maxRecDepth 100000 in
set_option maxHeartbeats 4000000 in
theorem c_doing {l : Launch} {G : zG} {k : Nat} (hk : zSwing k) {μ : Mem} {ν : Lng} {t : Int32} : Cm l G mX7_doing [.ref k, .int t] μ ν (fun a9 b9 c9 => a9 = fDoing μ k t ∧ b9 = μ ∧ c9 = ν) := by
  refine Con.of (by decide) (Nat.le_of_ble_eq_true rfl) ?_
  show Am l G mX7_doing 0 [(0, .ref k), (1, .int t)] [] μ ν _
  refine z_aload_n dX7_doing_0 rfl ?_
  refine z_iconst (v := 0) dX7_doing_1 rfl ?_
  refine z_iload_n dX7_doing_2 rfl ?_
  refine m_callV (As := [.int _, .int _]) dX7_doing_3 kX7_52 ⟨rfl, rfl⟩ rfl ⟨rfl, rfl⟩ rfl rfl hk.1 rfl rfl (c_busyFor hk (s := 0) (by decide)) (fun r3 μ3 ν3 hk3 => ?_)
  obtain ⟨rfl, rfl, rfl⟩ := hk3
  refine z_if_ne 18 dX7_doing_6 (by decide) (fun h6 => ?_) (fun h6 => ?_)
  · skip
    refine z_iconst (v := 1) dX7_doing_18 rfl ?_
    refine m_iret dX7_doing_19 rfl rfl ?_
    exact ⟨by simp only [fDoing, not_false_eq_true, not_true_eq_false, h6, if_true, if_false], rfl, rfl⟩
  · skip
    refine z_aload_n dX7_doing_9 rfl ?_
    refine z_iconst (v := 1) dX7_doing_10 rfl ?_
    refine z_iload_n dX7_doing_11 rfl ?_
    refine m_callV (As := [.int _, .int _]) dX7_doing_12 kX7_52 ⟨rfl, rfl⟩ rfl ⟨rfl, rfl⟩ rfl rfl hk.1 rfl rfl (c_busyFor hk (s := 1) (by decide)) (fun r12 μ12 ν12 hk12 => ?_)
    obtain ⟨rfl, rfl, rfl⟩ := hk12
    refine z_if_eq 20 dX7_doing_15 (by decide) (fun h15 => ?_) (fun h15 => ?_)
    · skip
      refine z_aload_n dX7_doing_20 rfl ?_
      refine z_iload_n dX7_doing_21 rfl ?_
      refine m_callV (As := [.int _]) dX7_doing_22 kX7_56 ⟨rfl, rfl⟩ rfl ⟨rfl, rfl⟩ rfl rfl hk.1 rfl rfl (c_openAt hk) (fun r22 μ22 ν22 hk22 => ?_)
      obtain ⟨rfl, rfl, rfl⟩ := hk22
      refine z_if_eq 30 dX7_doing_25 (by decide) (fun h25 => ?_) (fun h25 => ?_)
      · skip
        refine z_aload_n dX7_doing_30 rfl ?_
        refine z_iload_n dX7_doing_31 rfl ?_
        refine m_callV (As := [.int _]) dX7_doing_32 kX7_60 ⟨rfl, rfl⟩ rfl ⟨rfl, rfl⟩ rfl rfl hk.1 rfl rfl (c_comesBackAt hk) (fun r32 μ32 ν32 hk32 => ?_)
        obtain ⟨rfl, rfl, rfl⟩ := hk32
        refine z_if_eq 42 dX7_doing_35 (by decide) (fun h35 => ?_) (fun h35 => ?_)
        · skip
          refine z_iconst (v := 0) dX7_doing_42 rfl ?_
          refine m_iret dX7_doing_43 rfl rfl ?_
          exact ⟨by simp only [fDoing, not_false_eq_true, not_true_eq_false, h6, h15, h25, h35, if_true, if_false], rfl, rfl⟩
        · skip
          refine z_iconst (v := 3) dX7_doing_38 rfl ?_
          refine z_goto 43 dX7_doing_39 (by decide) ?_
          refine m_iret dX7_doing_43 rfl rfl ?_
          exact ⟨by simp only [fDoing, not_false_eq_true, not_true_eq_false, h6, h15, h25, h35, if_true, if_false], rfl, rfl⟩
      · skip
        refine z_iconst (v := 2) dX7_doing_28 rfl ?_
        refine m_iret dX7_doing_29 rfl rfl ?_
        exact ⟨by simp only [fDoing, not_false_eq_true, not_true_eq_false, h6, h15, h25, if_true, if_false], rfl, rfl⟩
    · skip
      refine z_iconst (v := 1) dX7_doing_18 rfl ?_
      refine m_iret dX7_doing_19 rfl rfl ?_
      exact ⟨by simp only [fDoing, not_false_eq_true, not_true_eq_false, h6, h15, if_true, if_false], rfl, rfl⟩
set_option maxRecDepth 100000 in
set_option maxHeartbeats 4000000 in
theorem c_crash {l : Launch} {G : zG} {k : Nat} (hk : zPas k) {μ : Mem} {ν : Lng} : Cm l G mX3_crash [.ref k] μ ν (fun _ b9 c9 => b9 = up2 (up2 μ k 0 6) k 5 1 ∧ c9 = ν) := by
  refine Con.of (by decide) (Nat.le_of_ble_eq_true rfl) ?_
  show Am l G mX3_crash 0 [(0, .ref k)] [] μ ν _
  refine z_aload_n dX3_crash_0 rfl ?_
  refine z_bipush (v := 6) dX3_crash_1 rfl ?_
  refine m_puti dX3_crash_3 fX3_9 (fun q h => by cases h; rfl) rfl rfl hk rfl ?_
  refine z_aload_n dX3_crash_6 rfl ?_
  refine z_iconst (v := 1) dX3_crash_7 rfl ?_
  refine m_puti dX3_crash_8 fX3_27 (fun q h => by cases h; rfl) rfl rfl hk rfl ?_
  refine m_ret dX3_crash_11 rfl ?_
  exact ⟨rfl, rfl⟩
end
