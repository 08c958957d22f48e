-- ===== PART A: goes FIRST, ahead of the names: the tables' words, and 'selects' of the private methods out of them =====
/-- a private method of a class that the tables say can be made, by its rows of tables_1 -/
def lw_okq (q : MethodName × Nat) : Prop := (q.1.cls ≠ "java/lang/invoke/MethodHandle" ∧ q.1.cls ≠ "java/lang/invoke/VarHandle") ∧ Cond.instantiable q.1.cls q.2 ∈ tables_1 ∧ Cond.privateMethod q.1 ∈ tables_1 ∧ Cond.instanceMethod q.1 ∈ tables_1
theorem lw_p0 : lw_okq (⟨"SwingLeaves$Reader", "skipBlanks", "()V"⟩, 11) := ⟨⟨by decide +kernel, by decide +kernel⟩, List.mem_of_getElem? (i := 24) (by decide +kernel), List.mem_of_getElem? (i := 410) (by decide +kernel), List.mem_of_getElem? (i := 411) (by decide +kernel)⟩
theorem lw_p1 : lw_okq (⟨"SwingLeaves$Reader", "readClause", "(I)V"⟩, 11) := ⟨⟨by decide +kernel, by decide +kernel⟩, List.mem_of_getElem? (i := 24) (by decide +kernel), List.mem_of_getElem? (i := 414) (by decide +kernel), List.mem_of_getElem? (i := 415) (by decide +kernel)⟩
theorem lw_p2 : lw_okq (⟨"SwingLeaves$Reader", "readLeaf", "()V"⟩, 11) := ⟨⟨by decide +kernel, by decide +kernel⟩, List.mem_of_getElem? (i := 24) (by decide +kernel), List.mem_of_getElem? (i := 418) (by decide +kernel), List.mem_of_getElem? (i := 419) (by decide +kernel)⟩
theorem lw_p3 : lw_okq (⟨"SwingLeaves$Reader", "readNumber", "(II)I"⟩, 11) := ⟨⟨by decide +kernel, by decide +kernel⟩, List.mem_of_getElem? (i := 24) (by decide +kernel), List.mem_of_getElem? (i := 422) (by decide +kernel), List.mem_of_getElem? (i := 423) (by decide +kernel)⟩
theorem lw_p4 : lw_okq (⟨"SwingLeaves$Reader", "figureAt", "(I)Z"⟩, 11) := ⟨⟨by decide +kernel, by decide +kernel⟩, List.mem_of_getElem? (i := 24) (by decide +kernel), List.mem_of_getElem? (i := 426) (by decide +kernel), List.mem_of_getElem? (i := 427) (by decide +kernel)⟩
theorem lw_p5 : lw_okq (⟨"SwingLeaves$Reader", "fail", "(II)V"⟩, 11) := ⟨⟨by decide +kernel, by decide +kernel⟩, List.mem_of_getElem? (i := 24) (by decide +kernel), List.mem_of_getElem? (i := 430) (by decide +kernel), List.mem_of_getElem? (i := 431) (by decide +kernel)⟩
theorem lw_p6 : lw_okq (⟨"SwingLeaves$Reader", "readEnd", "()V"⟩, 11) := ⟨⟨by decide +kernel, by decide +kernel⟩, List.mem_of_getElem? (i := 24) (by decide +kernel), List.mem_of_getElem? (i := 437) (by decide +kernel), List.mem_of_getElem? (i := 438) (by decide +kernel)⟩
theorem lw_p7 : lw_okq (⟨"SwingLeaves$Reader", "readWaiter", "()V"⟩, 11) := ⟨⟨by decide +kernel, by decide +kernel⟩, List.mem_of_getElem? (i := 24) (by decide +kernel), List.mem_of_getElem? (i := 441) (by decide +kernel), List.mem_of_getElem? (i := 442) (by decide +kernel)⟩
theorem lw_p8 : lw_okq (⟨"SwingLeaves$Reader", "readWindow", "()V"⟩, 11) := ⟨⟨by decide +kernel, by decide +kernel⟩, List.mem_of_getElem? (i := 24) (by decide +kernel), List.mem_of_getElem? (i := 445) (by decide +kernel), List.mem_of_getElem? (i := 446) (by decide +kernel)⟩
theorem lw_p9 : lw_okq (⟨"SwingLeaves$Reader", "readNoise", "()V"⟩, 11) := ⟨⟨by decide +kernel, by decide +kernel⟩, List.mem_of_getElem? (i := 24) (by decide +kernel), List.mem_of_getElem? (i := 449) (by decide +kernel), List.mem_of_getElem? (i := 450) (by decide +kernel)⟩
theorem lw_p10 : lw_okq (⟨"SwingLeaves", "toldOfEvening", "(I)I"⟩, 11) := ⟨⟨by decide +kernel, by decide +kernel⟩, List.mem_of_getElem? (i := 16) (by decide +kernel), List.mem_of_getElem? (i := 473) (by decide +kernel), List.mem_of_getElem? (i := 474) (by decide +kernel)⟩
theorem lw_p11 : lw_okq (⟨"SwingLeaves$Evening", "lineUp", "(LSwingLeaves$Plan;)V"⟩, 4) := ⟨⟨by decide +kernel, by decide +kernel⟩, List.mem_of_getElem? (i := 178) (by decide +kernel), List.mem_of_getElem? (i := 486) (by decide +kernel), List.mem_of_getElem? (i := 487) (by decide +kernel)⟩
theorem lw_p12 : lw_okq (⟨"SwingLeaves$Evening", "lookAt", "(ILSwingLeaves$Plan;)V"⟩, 4) := ⟨⟨by decide +kernel, by decide +kernel⟩, List.mem_of_getElem? (i := 178) (by decide +kernel), List.mem_of_getElem? (i := 490) (by decide +kernel), List.mem_of_getElem? (i := 491) (by decide +kernel)⟩
theorem lw_p13 : lw_okq (⟨"SwingLeaves$Evening", "chooseLeaf", "(III)I"⟩, 4) := ⟨⟨by decide +kernel, by decide +kernel⟩, List.mem_of_getElem? (i := 178) (by decide +kernel), List.mem_of_getElem? (i := 494) (by decide +kernel), List.mem_of_getElem? (i := 495) (by decide +kernel)⟩
theorem lw_p14 : lw_okq (⟨"SwingLeaves$Evening", "isHeard", "(ILSwingLeaves$Plan;)Z"⟩, 4) := ⟨⟨by decide +kernel, by decide +kernel⟩, List.mem_of_getElem? (i := 178) (by decide +kernel), List.mem_of_getElem? (i := 502) (by decide +kernel), List.mem_of_getElem? (i := 503) (by decide +kernel)⟩
theorem lw_p15 : lw_okq (⟨"SwingLeaves$Evening", "crashBoth", "(II)V"⟩, 4) := ⟨⟨by decide +kernel, by decide +kernel⟩, List.mem_of_getElem? (i := 178) (by decide +kernel), List.mem_of_getElem? (i := 506) (by decide +kernel), List.mem_of_getElem? (i := 507) (by decide +kernel)⟩
def lw_privs_1 : List (MethodName × Nat) := [(⟨"SwingLeaves$Reader", "skipBlanks", "()V"⟩, 11), (⟨"SwingLeaves$Reader", "readClause", "(I)V"⟩, 11), (⟨"SwingLeaves$Reader", "readLeaf", "()V"⟩, 11), (⟨"SwingLeaves$Reader", "readNumber", "(II)I"⟩, 11), (⟨"SwingLeaves$Reader", "figureAt", "(I)Z"⟩, 11), (⟨"SwingLeaves$Reader", "fail", "(II)V"⟩, 11), (⟨"SwingLeaves$Reader", "readEnd", "()V"⟩, 11), (⟨"SwingLeaves$Reader", "readWaiter", "()V"⟩, 11), (⟨"SwingLeaves$Reader", "readWindow", "()V"⟩, 11), (⟨"SwingLeaves$Reader", "readNoise", "()V"⟩, 11), (⟨"SwingLeaves", "toldOfEvening", "(I)I"⟩, 11), (⟨"SwingLeaves$Evening", "lineUp", "(LSwingLeaves$Plan;)V"⟩, 4), (⟨"SwingLeaves$Evening", "lookAt", "(ILSwingLeaves$Plan;)V"⟩, 4), (⟨"SwingLeaves$Evening", "chooseLeaf", "(III)I"⟩, 4), (⟨"SwingLeaves$Evening", "isHeard", "(ILSwingLeaves$Plan;)Z"⟩, 4), (⟨"SwingLeaves$Evening", "crashBoth", "(II)V"⟩, 4)]
theorem lw_r1 : ∀ q ∈ lw_privs_1, lw_okq q := List.forall_mem_cons.mpr ⟨lw_p0, List.forall_mem_cons.mpr ⟨lw_p1, List.forall_mem_cons.mpr ⟨lw_p2, List.forall_mem_cons.mpr ⟨lw_p3, List.forall_mem_cons.mpr ⟨lw_p4, List.forall_mem_cons.mpr ⟨lw_p5, List.forall_mem_cons.mpr ⟨lw_p6, List.forall_mem_cons.mpr ⟨lw_p7, List.forall_mem_cons.mpr ⟨lw_p8, List.forall_mem_cons.mpr ⟨lw_p9, List.forall_mem_cons.mpr ⟨lw_p10, List.forall_mem_cons.mpr ⟨lw_p11, List.forall_mem_cons.mpr ⟨lw_p12, List.forall_mem_cons.mpr ⟨lw_p13, List.forall_mem_cons.mpr ⟨lw_p14, List.forall_mem_cons.mpr ⟨lw_p15, fun _ h => absurd h List.not_mem_nil⟩⟩⟩⟩⟩⟩⟩⟩⟩⟩⟩⟩⟩⟩⟩⟩
theorem lw_p16 : lw_okq (⟨"SwingLeaves$Evening", "goThrough", "(ILSwingLeaves$Plan;I)V"⟩, 4) := ⟨⟨by decide +kernel, by decide +kernel⟩, List.mem_of_getElem? (i := 178) (by decide +kernel), List.mem_of_getElem? (i := 514) (by decide +kernel), List.mem_of_getElem? (i := 515) (by decide +kernel)⟩
theorem lw_p17 : lw_okq (⟨"SwingLeaves", "noWaiter", "(I)Z"⟩, 11) := ⟨⟨by decide +kernel, by decide +kernel⟩, List.mem_of_getElem? (i := 16) (by decide +kernel), List.mem_of_getElem? (i := 573) (by decide +kernel), List.mem_of_getElem? (i := 574) (by decide +kernel)⟩
theorem lw_p18 : lw_okq (⟨"SwingLeaves", "put", "([IIIII)I"⟩, 11) := ⟨⟨by decide +kernel, by decide +kernel⟩, List.mem_of_getElem? (i := 16) (by decide +kernel), List.mem_of_getElem? (i := 581) (by decide +kernel), List.mem_of_getElem? (i := 582) (by decide +kernel)⟩
theorem lw_p19 : lw_okq (⟨"SwingLeaves", "drawOf", "(I)I"⟩, 11) := ⟨⟨by decide +kernel, by decide +kernel⟩, List.mem_of_getElem? (i := 16) (by decide +kernel), List.mem_of_getElem? (i := 606) (by decide +kernel), List.mem_of_getElem? (i := 607) (by decide +kernel)⟩
theorem lw_p20 : lw_okq (⟨"SwingLeaves$Trials", "trialCost", "()I"⟩, 7) := ⟨⟨by decide +kernel, by decide +kernel⟩, List.mem_of_getElem? (i := 276) (by decide +kernel), List.mem_of_getElem? (i := 642) (by decide +kernel), List.mem_of_getElem? (i := 643) (by decide +kernel)⟩
theorem lw_p21 : lw_okq (⟨"SwingLeaves$Trials", "startSearch", "()V"⟩, 7) := ⟨⟨by decide +kernel, by decide +kernel⟩, List.mem_of_getElem? (i := 276) (by decide +kernel), List.mem_of_getElem? (i := 656) (by decide +kernel), List.mem_of_getElem? (i := 657) (by decide +kernel)⟩
theorem lw_p22 : lw_okq (⟨"SwingLeaves$Trials", "spellRules", "(I)V"⟩, 7) := ⟨⟨by decide +kernel, by decide +kernel⟩, List.mem_of_getElem? (i := 276) (by decide +kernel), List.mem_of_getElem? (i := 661) (by decide +kernel), List.mem_of_getElem? (i := 662) (by decide +kernel)⟩
theorem lw_p23 : lw_okq (⟨"SwingLeaves$Trials", "weigh", "(I)V"⟩, 7) := ⟨⟨by decide +kernel, by decide +kernel⟩, List.mem_of_getElem? (i := 276) (by decide +kernel), List.mem_of_getElem? (i := 665) (by decide +kernel), List.mem_of_getElem? (i := 666) (by decide +kernel)⟩
theorem lw_p24 : lw_okq (⟨"SwingLeaves$Trials", "oneComesAt", "(I)Z"⟩, 7) := ⟨⟨by decide +kernel, by decide +kernel⟩, List.mem_of_getElem? (i := 276) (by decide +kernel), List.mem_of_getElem? (i := 685) (by decide +kernel), List.mem_of_getElem? (i := 686) (by decide +kernel)⟩
theorem lw_p25 : lw_okq (⟨"SwingLeaves$Trials", "changeAt", "(III)V"⟩, 7) := ⟨⟨by decide +kernel, by decide +kernel⟩, List.mem_of_getElem? (i := 276) (by decide +kernel), List.mem_of_getElem? (i := 689) (by decide +kernel), List.mem_of_getElem? (i := 690) (by decide +kernel)⟩
theorem lw_p26 : lw_okq (⟨"SwingLeaves$Seating", "insertTenth", "(I)V"⟩, 4) := ⟨⟨by decide +kernel, by decide +kernel⟩, List.mem_of_getElem? (i := 284) (by decide +kernel), List.mem_of_getElem? (i := 720) (by decide +kernel), List.mem_of_getElem? (i := 721) (by decide +kernel)⟩
theorem lw_p27 : lw_okq (⟨"SwingLeaves$Seating", "bringForward", "(II)V"⟩, 4) := ⟨⟨by decide +kernel, by decide +kernel⟩, List.mem_of_getElem? (i := 284) (by decide +kernel), List.mem_of_getElem? (i := 733) (by decide +kernel), List.mem_of_getElem? (i := 734) (by decide +kernel)⟩
theorem lw_p28 : lw_okq (⟨"SwingLeaves$Trials", "lossOf", "(IIII)I"⟩, 7) := ⟨⟨by decide +kernel, by decide +kernel⟩, List.mem_of_getElem? (i := 276) (by decide +kernel), List.mem_of_getElem? (i := 761) (by decide +kernel), List.mem_of_getElem? (i := 762) (by decide +kernel)⟩
theorem lw_p29 : lw_okq (⟨"SwingLeavesModel", "isRead", "()Z"⟩, 47) := ⟨⟨by decide +kernel, by decide +kernel⟩, List.mem_of_getElem? (i := 822) (by decide +kernel), List.mem_of_getElem? (i := 984) (by decide +kernel), List.mem_of_getElem? (i := 985) (by decide +kernel)⟩
theorem lw_p30 : lw_okq (⟨"SwingLeavesModel", "nextToken", "()V"⟩, 47) := ⟨⟨by decide +kernel, by decide +kernel⟩, List.mem_of_getElem? (i := 822) (by decide +kernel), List.mem_of_getElem? (i := 988) (by decide +kernel), List.mem_of_getElem? (i := 989) (by decide +kernel)⟩
theorem lw_p31 : lw_okq (⟨"SwingLeavesModel", "isLeafLine", "()Z"⟩, 47) := ⟨⟨by decide +kernel, by decide +kernel⟩, List.mem_of_getElem? (i := 822) (by decide +kernel), List.mem_of_getElem? (i := 992) (by decide +kernel), List.mem_of_getElem? (i := 993) (by decide +kernel)⟩
def lw_privs_2 : List (MethodName × Nat) := [(⟨"SwingLeaves$Evening", "goThrough", "(ILSwingLeaves$Plan;I)V"⟩, 4), (⟨"SwingLeaves", "noWaiter", "(I)Z"⟩, 11), (⟨"SwingLeaves", "put", "([IIIII)I"⟩, 11), (⟨"SwingLeaves", "drawOf", "(I)I"⟩, 11), (⟨"SwingLeaves$Trials", "trialCost", "()I"⟩, 7), (⟨"SwingLeaves$Trials", "startSearch", "()V"⟩, 7), (⟨"SwingLeaves$Trials", "spellRules", "(I)V"⟩, 7), (⟨"SwingLeaves$Trials", "weigh", "(I)V"⟩, 7), (⟨"SwingLeaves$Trials", "oneComesAt", "(I)Z"⟩, 7), (⟨"SwingLeaves$Trials", "changeAt", "(III)V"⟩, 7), (⟨"SwingLeaves$Seating", "insertTenth", "(I)V"⟩, 4), (⟨"SwingLeaves$Seating", "bringForward", "(II)V"⟩, 4), (⟨"SwingLeaves$Trials", "lossOf", "(IIII)I"⟩, 7), (⟨"SwingLeavesModel", "isRead", "()Z"⟩, 47), (⟨"SwingLeavesModel", "nextToken", "()V"⟩, 47), (⟨"SwingLeavesModel", "isLeafLine", "()Z"⟩, 47)]
theorem lw_r2 : ∀ q ∈ lw_privs_2, lw_okq q := List.forall_mem_cons.mpr ⟨lw_p16, List.forall_mem_cons.mpr ⟨lw_p17, List.forall_mem_cons.mpr ⟨lw_p18, List.forall_mem_cons.mpr ⟨lw_p19, List.forall_mem_cons.mpr ⟨lw_p20, List.forall_mem_cons.mpr ⟨lw_p21, List.forall_mem_cons.mpr ⟨lw_p22, List.forall_mem_cons.mpr ⟨lw_p23, List.forall_mem_cons.mpr ⟨lw_p24, List.forall_mem_cons.mpr ⟨lw_p25, List.forall_mem_cons.mpr ⟨lw_p26, List.forall_mem_cons.mpr ⟨lw_p27, List.forall_mem_cons.mpr ⟨lw_p28, List.forall_mem_cons.mpr ⟨lw_p29, List.forall_mem_cons.mpr ⟨lw_p30, List.forall_mem_cons.mpr ⟨lw_p31, fun _ h => absurd h List.not_mem_nil⟩⟩⟩⟩⟩⟩⟩⟩⟩⟩⟩⟩⟩⟩⟩⟩
theorem lw_p32 : lw_okq (⟨"SwingLeavesModel", "isNumber", "(II)Z"⟩, 47) := ⟨⟨by decide +kernel, by decide +kernel⟩, List.mem_of_getElem? (i := 822) (by decide +kernel), List.mem_of_getElem? (i := 996) (by decide +kernel), List.mem_of_getElem? (i := 997) (by decide +kernel)⟩
theorem lw_p33 : lw_okq (⟨"SwingLeavesModel", "fails", "(I)Z"⟩, 47) := ⟨⟨by decide +kernel, by decide +kernel⟩, List.mem_of_getElem? (i := 822) (by decide +kernel), List.mem_of_getElem? (i := 1000) (by decide +kernel), List.mem_of_getElem? (i := 1001) (by decide +kernel)⟩
theorem lw_p34 : lw_okq (⟨"SwingLeavesModel", "isEnd", "()Z"⟩, 47) := ⟨⟨by decide +kernel, by decide +kernel⟩, List.mem_of_getElem? (i := 822) (by decide +kernel), List.mem_of_getElem? (i := 1004) (by decide +kernel), List.mem_of_getElem? (i := 1005) (by decide +kernel)⟩
theorem lw_p35 : lw_okq (⟨"SwingLeavesModel", "isWaiterLine", "()Z"⟩, 47) := ⟨⟨by decide +kernel, by decide +kernel⟩, List.mem_of_getElem? (i := 822) (by decide +kernel), List.mem_of_getElem? (i := 1008) (by decide +kernel), List.mem_of_getElem? (i := 1009) (by decide +kernel)⟩
theorem lw_p36 : lw_okq (⟨"SwingLeavesModel", "isGlassLine", "()Z"⟩, 47) := ⟨⟨by decide +kernel, by decide +kernel⟩, List.mem_of_getElem? (i := 822) (by decide +kernel), List.mem_of_getElem? (i := 1012) (by decide +kernel), List.mem_of_getElem? (i := 1013) (by decide +kernel)⟩
theorem lw_p37 : lw_okq (⟨"SwingLeavesModel", "isNoiseLine", "()Z"⟩, 47) := ⟨⟨by decide +kernel, by decide +kernel⟩, List.mem_of_getElem? (i := 822) (by decide +kernel), List.mem_of_getElem? (i := 1016) (by decide +kernel), List.mem_of_getElem? (i := 1017) (by decide +kernel)⟩
theorem lw_p38 : lw_okq (⟨"SwingLeavesModel", "costNow", "()I"⟩, 47) := ⟨⟨by decide +kernel, by decide +kernel⟩, List.mem_of_getElem? (i := 822) (by decide +kernel), List.mem_of_getElem? (i := 1028) (by decide +kernel), List.mem_of_getElem? (i := 1029) (by decide +kernel)⟩
theorem lw_p39 : lw_okq (⟨"SwingLeavesModel", "look", "(I)V"⟩, 47) := ⟨⟨by decide +kernel, by decide +kernel⟩, List.mem_of_getElem? (i := 822) (by decide +kernel), List.mem_of_getElem? (i := 1032) (by decide +kernel), List.mem_of_getElem? (i := 1033) (by decide +kernel)⟩
theorem lw_p40 : lw_okq (⟨"SwingLeavesModel", "leafFor", "(I)I"⟩, 47) := ⟨⟨by decide +kernel, by decide +kernel⟩, List.mem_of_getElem? (i := 822) (by decide +kernel), List.mem_of_getElem? (i := 1036) (by decide +kernel), List.mem_of_getElem? (i := 1037) (by decide +kernel)⟩
theorem lw_p41 : lw_okq (⟨"SwingLeavesModel", "isBusy", "(III)Z"⟩, 47) := ⟨⟨by decide +kernel, by decide +kernel⟩, List.mem_of_getElem? (i := 822) (by decide +kernel), List.mem_of_getElem? (i := 1040) (by decide +kernel), List.mem_of_getElem? (i := 1041) (by decide +kernel)⟩
theorem lw_p42 : lw_okq (⟨"SwingLeavesModel", "goThrough", "(III)V"⟩, 47) := ⟨⟨by decide +kernel, by decide +kernel⟩, List.mem_of_getElem? (i := 822) (by decide +kernel), List.mem_of_getElem? (i := 1044) (by decide +kernel), List.mem_of_getElem? (i := 1045) (by decide +kernel)⟩
theorem lw_p43 : lw_okq (⟨"SwingLeavesModel", "swing", "(II)I"⟩, 47) := ⟨⟨by decide +kernel, by decide +kernel⟩, List.mem_of_getElem? (i := 822) (by decide +kernel), List.mem_of_getElem? (i := 1048) (by decide +kernel), List.mem_of_getElem? (i := 1049) (by decide +kernel)⟩
theorem lw_p44 : lw_okq (⟨"SwingLeavesModel", "lose", "(I)V"⟩, 47) := ⟨⟨by decide +kernel, by decide +kernel⟩, List.mem_of_getElem? (i := 822) (by decide +kernel), List.mem_of_getElem? (i := 1052) (by decide +kernel), List.mem_of_getElem? (i := 1053) (by decide +kernel)⟩
theorem lw_p45 : lw_okq (⟨"SwingLeavesModel", "widen", "(IIII)V"⟩, 47) := ⟨⟨by decide +kernel, by decide +kernel⟩, List.mem_of_getElem? (i := 822) (by decide +kernel), List.mem_of_getElem? (i := 1056) (by decide +kernel), List.mem_of_getElem? (i := 1057) (by decide +kernel)⟩
theorem lw_p46 : lw_okq (⟨"SwingLeavesModel", "isHeard", "(I)Z"⟩, 47) := ⟨⟨by decide +kernel, by decide +kernel⟩, List.mem_of_getElem? (i := 822) (by decide +kernel), List.mem_of_getElem? (i := 1060) (by decide +kernel), List.mem_of_getElem? (i := 1061) (by decide +kernel)⟩
theorem lw_p47 : lw_okq (⟨"SwingLeavesModel", "crash", "(II)V"⟩, 47) := ⟨⟨by decide +kernel, by decide +kernel⟩, List.mem_of_getElem? (i := 822) (by decide +kernel), List.mem_of_getElem? (i := 1064) (by decide +kernel), List.mem_of_getElem? (i := 1065) (by decide +kernel)⟩
def lw_privs_3 : List (MethodName × Nat) := [(⟨"SwingLeavesModel", "isNumber", "(II)Z"⟩, 47), (⟨"SwingLeavesModel", "fails", "(I)Z"⟩, 47), (⟨"SwingLeavesModel", "isEnd", "()Z"⟩, 47), (⟨"SwingLeavesModel", "isWaiterLine", "()Z"⟩, 47), (⟨"SwingLeavesModel", "isGlassLine", "()Z"⟩, 47), (⟨"SwingLeavesModel", "isNoiseLine", "()Z"⟩, 47), (⟨"SwingLeavesModel", "costNow", "()I"⟩, 47), (⟨"SwingLeavesModel", "look", "(I)V"⟩, 47), (⟨"SwingLeavesModel", "leafFor", "(I)I"⟩, 47), (⟨"SwingLeavesModel", "isBusy", "(III)Z"⟩, 47), (⟨"SwingLeavesModel", "goThrough", "(III)V"⟩, 47), (⟨"SwingLeavesModel", "swing", "(II)I"⟩, 47), (⟨"SwingLeavesModel", "lose", "(I)V"⟩, 47), (⟨"SwingLeavesModel", "widen", "(IIII)V"⟩, 47), (⟨"SwingLeavesModel", "isHeard", "(I)Z"⟩, 47), (⟨"SwingLeavesModel", "crash", "(II)V"⟩, 47)]
theorem lw_r3 : ∀ q ∈ lw_privs_3, lw_okq q := List.forall_mem_cons.mpr ⟨lw_p32, List.forall_mem_cons.mpr ⟨lw_p33, List.forall_mem_cons.mpr ⟨lw_p34, List.forall_mem_cons.mpr ⟨lw_p35, List.forall_mem_cons.mpr ⟨lw_p36, List.forall_mem_cons.mpr ⟨lw_p37, List.forall_mem_cons.mpr ⟨lw_p38, List.forall_mem_cons.mpr ⟨lw_p39, List.forall_mem_cons.mpr ⟨lw_p40, List.forall_mem_cons.mpr ⟨lw_p41, List.forall_mem_cons.mpr ⟨lw_p42, List.forall_mem_cons.mpr ⟨lw_p43, List.forall_mem_cons.mpr ⟨lw_p44, List.forall_mem_cons.mpr ⟨lw_p45, List.forall_mem_cons.mpr ⟨lw_p46, List.forall_mem_cons.mpr ⟨lw_p47, fun _ h => absurd h List.not_mem_nil⟩⟩⟩⟩⟩⟩⟩⟩⟩⟩⟩⟩⟩⟩⟩⟩
theorem lw_p48 : lw_okq (⟨"SwingLeavesModel", "isOne", "(I)Z"⟩, 47) := ⟨⟨by decide +kernel, by decide +kernel⟩, List.mem_of_getElem? (i := 822) (by decide +kernel), List.mem_of_getElem? (i := 1077) (by decide +kernel), List.mem_of_getElem? (i := 1078) (by decide +kernel)⟩
theorem lw_p49 : lw_okq (⟨"SwingLeavesModel", "becomes", "(II)I"⟩, 47) := ⟨⟨by decide +kernel, by decide +kernel⟩, List.mem_of_getElem? (i := 822) (by decide +kernel), List.mem_of_getElem? (i := 1085) (by decide +kernel), List.mem_of_getElem? (i := 1086) (by decide +kernel)⟩
theorem lw_p50 : lw_okq (⟨"SwingLeavesModel", "draw", "(I)I"⟩, 47) := ⟨⟨by decide +kernel, by decide +kernel⟩, List.mem_of_getElem? (i := 822) (by decide +kernel), List.mem_of_getElem? (i := 1110) (by decide +kernel), List.mem_of_getElem? (i := 1111) (by decide +kernel)⟩
theorem lw_p51 : lw_okq (⟨"SwingLeavesModel", "hold", "()V"⟩, 47) := ⟨⟨by decide +kernel, by decide +kernel⟩, List.mem_of_getElem? (i := 822) (by decide +kernel), List.mem_of_getElem? (i := 1130) (by decide +kernel), List.mem_of_getElem? (i := 1131) (by decide +kernel)⟩
theorem lw_p52 : lw_okq (⟨"SwingLeavesModel", "release", "()V"⟩, 47) := ⟨⟨by decide +kernel, by decide +kernel⟩, List.mem_of_getElem? (i := 822) (by decide +kernel), List.mem_of_getElem? (i := 1134) (by decide +kernel), List.mem_of_getElem? (i := 1135) (by decide +kernel)⟩
theorem lw_p53 : lw_okq (⟨"SwingLeavesModel", "layPlaces", "(I)I"⟩, 47) := ⟨⟨by decide +kernel, by decide +kernel⟩, List.mem_of_getElem? (i := 822) (by decide +kernel), List.mem_of_getElem? (i := 1162) (by decide +kernel), List.mem_of_getElem? (i := 1163) (by decide +kernel)⟩
theorem lw_p54 : lw_okq (⟨"SwingLeavesModel", "loss", "(IIII)I"⟩, 47) := ⟨⟨by decide +kernel, by decide +kernel⟩, List.mem_of_getElem? (i := 822) (by decide +kernel), List.mem_of_getElem? (i := 1170) (by decide +kernel), List.mem_of_getElem? (i := 1171) (by decide +kernel)⟩
def lw_privs_4 : List (MethodName × Nat) := [(⟨"SwingLeavesModel", "isOne", "(I)Z"⟩, 47), (⟨"SwingLeavesModel", "becomes", "(II)I"⟩, 47), (⟨"SwingLeavesModel", "draw", "(I)I"⟩, 47), (⟨"SwingLeavesModel", "hold", "()V"⟩, 47), (⟨"SwingLeavesModel", "release", "()V"⟩, 47), (⟨"SwingLeavesModel", "layPlaces", "(I)I"⟩, 47), (⟨"SwingLeavesModel", "loss", "(IIII)I"⟩, 47)]
theorem lw_r4 : ∀ q ∈ lw_privs_4, lw_okq q := List.forall_mem_cons.mpr ⟨lw_p48, List.forall_mem_cons.mpr ⟨lw_p49, List.forall_mem_cons.mpr ⟨lw_p50, List.forall_mem_cons.mpr ⟨lw_p51, List.forall_mem_cons.mpr ⟨lw_p52, List.forall_mem_cons.mpr ⟨lw_p53, List.forall_mem_cons.mpr ⟨lw_p54, fun _ h => absurd h List.not_mem_nil⟩⟩⟩⟩⟩⟩⟩
def lw_privs : List (MethodName × Nat) := lw_privs_1 ++ (lw_privs_2 ++ (lw_privs_3 ++ (lw_privs_4)))
def lw_tbl : List Cond := k2_sels lw_privs ++ tables_1
theorem lw_privs_ok : ∀ q ∈ lw_privs, lw_okq q := by
  show ∀ q ∈ lw_privs_1 ++ (lw_privs_2 ++ (lw_privs_3 ++ (lw_privs_4))), lw_okq q
  exact List.forall_mem_append.mpr ⟨lw_r1, List.forall_mem_append.mpr ⟨lw_r2, List.forall_mem_append.mpr ⟨lw_r3, lw_r4⟩⟩⟩
def RX0 : String := "SwingLeaves$Evening"
def TX0 : u_T := fun k => match k with
  | 0 => ("SwingLeaves$Evening", "house", "LSwingLeaves$House;", true)
  | 1 => ("SwingLeaves$Evening", "swings", "[LSwingLeaves$Swing;", true)
  | 2 => ("SwingLeaves$Evening", "passages", "[LSwingLeaves$Passage;", true)
  | _ => ("SwingLeaves$Evening", "queue", "[I", true)
def tyX0 : Nat → FieldType := fun k => match k with
  | 0 => .object "SwingLeaves$House"
  | 1 => .array (.object "SwingLeaves$Swing")
  | 2 => .array (.object "SwingLeaves$Passage")
  | _ => .array .int
abbrev wsX00 : List Cond := u_ws RX0 TX0 4
theorem nmX0 : ∀ a, a < 4 → ∀ b, b < 4 → a ≠ b → (TX0 a).2.1 ≠ (TX0 b).2.1 := by decide +kernel
theorem tyX0_ok : ∀ k, k < 4 → parseFieldDescriptor (TX0 k).2.2.1 = some (tyX0 k) := by decide +kernel
abbrev cX0_init : ByteArray := prog_2_method_1_code
def yX0_init : MethodName := ⟨RX0, "<init>", "(LSwingLeaves$House;)V"⟩
abbrev cX0_run : ByteArray := prog_2_method_2_code
def yX0_run : MethodName := ⟨RX0, "run", "(LSwingLeaves$Plan;)V"⟩
abbrev cX0_lineUp : ByteArray := prog_2_method_3_code
def yX0_lineUp : MethodName := ⟨RX0, "lineUp", "(LSwingLeaves$Plan;)V"⟩
abbrev cX0_lookAt : ByteArray := prog_2_method_4_code
def yX0_lookAt : MethodName := ⟨RX0, "lookAt", "(ILSwingLeaves$Plan;)V"⟩
abbrev cX0_chooseLeaf : ByteArray := prog_2_method_5_code
def yX0_chooseLeaf : MethodName := ⟨RX0, "chooseLeaf", "(III)I"⟩
abbrev cX0_isHeard : ByteArray := prog_2_method_6_code
def yX0_isHeard : MethodName := ⟨RX0, "isHeard", "(ILSwingLeaves$Plan;)Z"⟩
abbrev cX0_goThrough : ByteArray := prog_2_method_7_code
def yX0_goThrough : MethodName := ⟨RX0, "goThrough", "(ILSwingLeaves$Plan;I)V"⟩
abbrev cX0_crashBoth : ByteArray := prog_2_method_8_code
def yX0_crashBoth : MethodName := ⟨RX0, "crashBoth", "(II)V"⟩
abbrev cX0_seconds : ByteArray := prog_2_method_9_code
def yX0_seconds : MethodName := ⟨RX0, "seconds", "()I"⟩
abbrev cX0_losses : ByteArray := prog_2_method_10_code
def yX0_losses : MethodName := ⟨RX0, "losses", "()I"⟩
abbrev cX0_cost : ByteArray := prog_2_method_11_code
def yX0_cost : MethodName := ⟨RX0, "cost", "()I"⟩
abbrev cX0_howMany : ByteArray := prog_2_method_12_code
def yX0_howMany : MethodName := ⟨RX0, "howMany", "(I)I"⟩
abbrev cX0_end : ByteArray := prog_2_method_13_code
def yX0_end : MethodName := ⟨RX0, "end", "()I"⟩
def RX1 : String := "SwingLeaves$House"
def TX1 : u_T := fun k => match k with
  | 0 => ("SwingLeaves$House", "holds", "[I", true)
  | 1 => ("SwingLeaves$House", "backs", "[I", true)
  | 2 => ("SwingLeaves$House", "sides", "[I", true)
  | 3 => ("SwingLeaves$House", "spans", "[I", true)
  | 4 => ("SwingLeaves$House", "values", "[I", true)
  | 5 => ("SwingLeaves$House", "callers", "[I", true)
  | _ => ("SwingLeaves$House", "waiters", "I", false)
def tyX1 : Nat → FieldType := fun k => match k with
  | 0 => .array .int
  | 1 => .array .int
  | 2 => .array .int
  | 3 => .array .int
  | 4 => .array .int
  | 5 => .array .int
  | _ => .int
abbrev wsX10 : List Cond := u_ws RX1 TX1 7
theorem nmX1 : ∀ a, a < 7 → ∀ b, b < 7 → a ≠ b → (TX1 a).2.1 ≠ (TX1 b).2.1 := by decide +kernel
theorem tyX1_ok : ∀ k, k < 7 → parseFieldDescriptor (TX1 k).2.2.1 = some (tyX1 k) := by decide +kernel
abbrev cX1_init : ByteArray := prog_3_method_1_code
def yX1_init : MethodName := ⟨RX1, "<init>", "()V"⟩
abbrev cX1_makeUntold : ByteArray := prog_3_method_2_code
def yX1_makeUntold : MethodName := ⟨RX1, "makeUntold", "()V"⟩
abbrev cX1_copyFrom : ByteArray := prog_3_method_3_code
def yX1_copyFrom : MethodName := ⟨RX1, "copyFrom", "(LSwingLeaves$House;)V"⟩
def RX2 : String := "SwingLeaves$Image"
def TX2 : u_T := fun k => match k with
  | 0 => ("SwingLeaves$Image", "plan", "LSwingLeaves$Plan;", true)
  | 1 => ("SwingLeaves$Image", "drawn", "J", false)
  | _ => ("SwingLeaves$Image", "kept", "Z", false)
def tyX2 : Nat → FieldType := fun k => match k with
  | 0 => .object "SwingLeaves$Plan"
  | 1 => .long
  | _ => .boolean
abbrev wsX20 : List Cond := u_ws RX2 TX2 3
theorem nmX2 : ∀ a, a < 3 → ∀ b, b < 3 → a ≠ b → (TX2 a).2.1 ≠ (TX2 b).2.1 := by decide +kernel
theorem tyX2_ok : ∀ k, k < 3 → parseFieldDescriptor (TX2 k).2.2.1 = some (tyX2 k) := by decide +kernel
abbrev cX2_init : ByteArray := prog_4_method_1_code
def yX2_init : MethodName := ⟨RX2, "<init>", "()V"⟩
def RX3 : String := "SwingLeaves$Passage"
def TX3 : u_T := fun k => match k with
  | 0 => ("SwingLeaves$Passage", "kind", "I", false)
  | 1 => ("SwingLeaves$Passage", "start", "I", false)
  | 2 => ("SwingLeaves$Passage", "end", "I", false)
  | 3 => ("SwingLeaves$Passage", "leaf", "I", false)
  | 4 => ("SwingLeaves$Passage", "waited", "I", false)
  | _ => ("SwingLeaves$Passage", "lost", "I", false)
def tyX3 : Nat → FieldType := fun k => match k with
  | 0 => .int
  | 1 => .int
  | 2 => .int
  | 3 => .int
  | 4 => .int
  | _ => .int
abbrev wsX30 : List Cond := u_ws RX3 TX3 6
theorem nmX3 : ∀ a, a < 6 → ∀ b, b < 6 → a ≠ b → (TX3 a).2.1 ≠ (TX3 b).2.1 := by decide +kernel
theorem tyX3_ok : ∀ k, k < 6 → parseFieldDescriptor (TX3 k).2.2.1 = some (tyX3 k) := by decide +kernel
abbrev cX3_init : ByteArray := prog_5_method_1_code
def yX3_init : MethodName := ⟨RX3, "<init>", "()V"⟩
abbrev cX3_crash : ByteArray := prog_5_method_2_code
def yX3_crash : MethodName := ⟨RX3, "crash", "()V"⟩
def RX4 : String := "SwingLeaves$Plan"
def TX4 : u_T := fun k => match k with
  | 0 => ("SwingLeaves$Plan", "comings", "[I", true)
  | 1 => ("SwingLeaves$Plan", "kicks", "[I", true)
  | 2 => ("SwingLeaves$Plan", "rules", "[I", true)
  | 3 => ("SwingLeaves$Plan", "clear", "I", false)
  | _ => ("SwingLeaves$Plan", "noise", "I", false)
def tyX4 : Nat → FieldType := fun k => match k with
  | 0 => .array .int
  | 1 => .array .int
  | 2 => .array .int
  | 3 => .int
  | _ => .int
abbrev wsX40 : List Cond := u_ws RX4 TX4 5
theorem nmX4 : ∀ a, a < 5 → ∀ b, b < 5 → a ≠ b → (TX4 a).2.1 ≠ (TX4 b).2.1 := by decide +kernel
theorem tyX4_ok : ∀ k, k < 5 → parseFieldDescriptor (TX4 k).2.2.1 = some (tyX4 k) := by decide +kernel
abbrev cX4_init : ByteArray := prog_6_method_1_code
def yX4_init : MethodName := ⟨RX4, "<init>", "()V"⟩
abbrev cX4_makeUntold : ByteArray := prog_6_method_2_code
def yX4_makeUntold : MethodName := ⟨RX4, "makeUntold", "()V"⟩
abbrev cX4_copyFrom : ByteArray := prog_6_method_3_code
def yX4_copyFrom : MethodName := ⟨RX4, "copyFrom", "(LSwingLeaves$Plan;)V"⟩
def RX5 : String := "SwingLeaves$Reader"
def TX5 : u_T := fun k => match k with
  | 0 => ("SwingLeaves$Reader", "house", "LSwingLeaves$House;", true)
  | 1 => ("SwingLeaves$Reader", "plan", "LSwingLeaves$Plan;", true)
  | 2 => ("SwingLeaves$Reader", "text", "[I", true)
  | 3 => ("SwingLeaves$Reader", "leafTold", "[I", true)
  | 4 => ("SwingLeaves$Reader", "length", "I", false)
  | 5 => ("SwingLeaves$Reader", "fault", "I", false)
  | 6 => ("SwingLeaves$Reader", "faultPlace", "I", false)
  | 7 => ("SwingLeaves$Reader", "at", "I", false)
  | 8 => ("SwingLeaves$Reader", "numberPlace", "I", false)
  | 9 => ("SwingLeaves$Reader", "windowTold", "Z", false)
  | _ => ("SwingLeaves$Reader", "noiseTold", "Z", false)
def tyX5 : Nat → FieldType := fun k => match k with
  | 0 => .object "SwingLeaves$House"
  | 1 => .object "SwingLeaves$Plan"
  | 2 => .array .int
  | 3 => .array .int
  | 4 => .int
  | 5 => .int
  | 6 => .int
  | 7 => .int
  | 8 => .int
  | 9 => .boolean
  | _ => .boolean
abbrev wsX50 : List Cond := u_ws RX5 TX5 11
theorem nmX5 : ∀ a, a < 11 → ∀ b, b < 11 → a ≠ b → (TX5 a).2.1 ≠ (TX5 b).2.1 := by decide +kernel
theorem tyX5_ok : ∀ k, k < 11 → parseFieldDescriptor (TX5 k).2.2.1 = some (tyX5 k) := by decide +kernel
abbrev cX5_init : ByteArray := prog_7_method_1_code
def yX5_init : MethodName := ⟨RX5, "<init>", "()V"⟩
abbrev cX5_take : ByteArray := prog_7_method_2_code
def yX5_take : MethodName := ⟨RX5, "take", "(I)I"⟩
abbrev cX5_read : ByteArray := prog_7_method_3_code
def yX5_read : MethodName := ⟨RX5, "read", "()V"⟩
abbrev cX5_readClause : ByteArray := prog_7_method_4_code
def yX5_readClause : MethodName := ⟨RX5, "readClause", "(I)V"⟩
abbrev cX5_readLeaf : ByteArray := prog_7_method_5_code
def yX5_readLeaf : MethodName := ⟨RX5, "readLeaf", "()V"⟩
abbrev cX5_readWaiter : ByteArray := prog_7_method_6_code
def yX5_readWaiter : MethodName := ⟨RX5, "readWaiter", "()V"⟩
abbrev cX5_readWindow : ByteArray := prog_7_method_7_code
def yX5_readWindow : MethodName := ⟨RX5, "readWindow", "()V"⟩
abbrev cX5_readNoise : ByteArray := prog_7_method_8_code
def yX5_readNoise : MethodName := ⟨RX5, "readNoise", "()V"⟩
abbrev cX5_readNumber : ByteArray := prog_7_method_9_code
def yX5_readNumber : MethodName := ⟨RX5, "readNumber", "(II)I"⟩
abbrev cX5_readEnd : ByteArray := prog_7_method_10_code
def yX5_readEnd : MethodName := ⟨RX5, "readEnd", "()V"⟩
abbrev cX5_skipBlanks : ByteArray := prog_7_method_11_code
def yX5_skipBlanks : MethodName := ⟨RX5, "skipBlanks", "()V"⟩
abbrev cX5_figureAt : ByteArray := prog_7_method_12_code
def yX5_figureAt : MethodName := ⟨RX5, "figureAt", "(I)Z"⟩
abbrev cX5_fail : ByteArray := prog_7_method_13_code
def yX5_fail : MethodName := ⟨RX5, "fail", "(II)V"⟩
def RX6 : String := "SwingLeaves$Seating"
def TX6 : u_T := fun k => match k with
  | 0 => ("SwingLeaves$Seating", "tenths", "[I", true)
  | 1 => ("SwingLeaves$Seating", "seated", "[I", true)
  | 2 => ("SwingLeaves$Seating", "members", "[I", true)
  | _ => ("SwingLeaves$Seating", "count", "I", false)
def tyX6 : Nat → FieldType := fun k => match k with
  | 0 => .array .int
  | 1 => .array .int
  | 2 => .array .int
  | _ => .int
abbrev wsX60 : List Cond := u_ws RX6 TX6 4
theorem nmX6 : ∀ a, a < 4 → ∀ b, b < 4 → a ≠ b → (TX6 a).2.1 ≠ (TX6 b).2.1 := by decide +kernel
theorem tyX6_ok : ∀ k, k < 4 → parseFieldDescriptor (TX6 k).2.2.1 = some (tyX6 k) := by decide +kernel
abbrev cX6_init : ByteArray := prog_8_method_1_code
def yX6_init : MethodName := ⟨RX6, "<init>", "()V"⟩
abbrev cX6_gather : ByteArray := prog_8_method_2_code
def yX6_gather : MethodName := ⟨RX6, "gather", "(LSwingLeaves$House;LSwingLeaves$Plan;I)V"⟩
abbrev cX6_insertTenth : ByteArray := prog_8_method_3_code
def yX6_insertTenth : MethodName := ⟨RX6, "insertTenth", "(I)V"⟩
abbrev cX6_orders : ByteArray := prog_8_method_4_code
def yX6_orders : MethodName := ⟨RX6, "orders", "()I"⟩
abbrev cX6_seatBy : ByteArray := prog_8_method_5_code
def yX6_seatBy : MethodName := ⟨RX6, "seatBy", "(I)V"⟩
abbrev cX6_bringForward : ByteArray := prog_8_method_6_code
def yX6_bringForward : MethodName := ⟨RX6, "bringForward", "(II)V"⟩
abbrev cX6_giveTenths : ByteArray := prog_8_method_7_code
def yX6_giveTenths : MethodName := ⟨RX6, "giveTenths", "(LSwingLeaves$Plan;)V"⟩
def RX7 : String := "SwingLeaves$Swing"
def TX7 : u_T := fun k => match k with
  | 0 => ("SwingLeaves$Swing", "busyFrom", "[I", true)
  | 1 => ("SwingLeaves$Swing", "busyTill", "[I", true)
  | 2 => ("SwingLeaves$Swing", "latest", "[I", true)
  | 3 => ("SwingLeaves$Swing", "openFrom", "I", false)
  | 4 => ("SwingLeaves$Swing", "openTill", "I", false)
  | 5 => ("SwingLeaves$Swing", "backTill", "I", false)
  | 6 => ("SwingLeaves$Swing", "takers", "I", false)
  | _ => ("SwingLeaves$Swing", "kicks", "I", false)
def tyX7 : Nat → FieldType := fun k => match k with
  | 0 => .array .int
  | 1 => .array .int
  | 2 => .array .int
  | 3 => .int
  | 4 => .int
  | 5 => .int
  | 6 => .int
  | _ => .int
abbrev wsX70 : List Cond := u_ws RX7 TX7 8
theorem nmX7 : ∀ a, a < 8 → ∀ b, b < 8 → a ≠ b → (TX7 a).2.1 ≠ (TX7 b).2.1 := by decide +kernel
theorem tyX7_ok : ∀ k, k < 8 → parseFieldDescriptor (TX7 k).2.2.1 = some (tyX7 k) := by decide +kernel
abbrev cX7_init : ByteArray := prog_9_method_1_code
def yX7_init : MethodName := ⟨RX7, "<init>", "()V"⟩
abbrev cX7_rest : ByteArray := prog_9_method_2_code
def yX7_rest : MethodName := ⟨RX7, "rest", "()V"⟩
abbrev cX7_busyFor : ByteArray := prog_9_method_3_code
def yX7_busyFor : MethodName := ⟨RX7, "busyFor", "(II)Z"⟩
abbrev cX7_openAt : ByteArray := prog_9_method_4_code
def yX7_openAt : MethodName := ⟨RX7, "openAt", "(I)Z"⟩
abbrev cX7_comesBackAt : ByteArray := prog_9_method_5_code
def yX7_comesBackAt : MethodName := ⟨RX7, "comesBackAt", "(I)Z"⟩
abbrev cX7_letThrough : ByteArray := prog_9_method_6_code
def yX7_letThrough : MethodName := ⟨RX7, "letThrough", "(IIII)V"⟩
abbrev cX7_takeKick : ByteArray := prog_9_method_7_code
def yX7_takeKick : MethodName := ⟨RX7, "takeKick", "(III)V"⟩
abbrev cX7_doing : ByteArray := prog_9_method_8_code
def yX7_doing : MethodName := ⟨RX7, "doing", "(I)I"⟩
def RX8 : String := "SwingLeaves$Trials"
def TX8 : u_T := fun k => match k with
  | 0 => ("SwingLeaves$Trials", "house", "LSwingLeaves$House;", true)
  | 1 => ("SwingLeaves$Trials", "plan", "LSwingLeaves$Plan;", true)
  | 2 => ("SwingLeaves$Trials", "evening", "LSwingLeaves$Evening;", true)
  | 3 => ("SwingLeaves$Trials", "trial", "LSwingLeaves$Plan;", true)
  | 4 => ("SwingLeaves$Trials", "seating", "LSwingLeaves$Seating;", true)
  | 5 => ("SwingLeaves$Trials", "found", "I", false)
  | _ => ("SwingLeaves$Trials", "foundCost", "I", false)
def tyX8 : Nat → FieldType := fun k => match k with
  | 0 => .object "SwingLeaves$House"
  | 1 => .object "SwingLeaves$Plan"
  | 2 => .object "SwingLeaves$Evening"
  | 3 => .object "SwingLeaves$Plan"
  | 4 => .object "SwingLeaves$Seating"
  | 5 => .int
  | _ => .int
abbrev wsX80 : List Cond := u_ws RX8 TX8 7
theorem nmX8 : ∀ a, a < 7 → ∀ b, b < 7 → a ≠ b → (TX8 a).2.1 ≠ (TX8 b).2.1 := by decide +kernel
theorem tyX8_ok : ∀ k, k < 7 → parseFieldDescriptor (TX8 k).2.2.1 = some (tyX8 k) := by decide +kernel
abbrev cX8_init : ByteArray := prog_10_method_1_code
def yX8_init : MethodName := ⟨RX8, "<init>", "(LSwingLeaves$House;LSwingLeaves$Plan;LSwingLeaves$Evening;)V"⟩
abbrev cX8_startSearch : ByteArray := prog_10_method_2_code
def yX8_startSearch : MethodName := ⟨RX8, "startSearch", "()V"⟩
abbrev cX8_weigh : ByteArray := prog_10_method_3_code
def yX8_weigh : MethodName := ⟨RX8, "weigh", "(I)V"⟩
abbrev cX8_trialCost : ByteArray := prog_10_method_4_code
def yX8_trialCost : MethodName := ⟨RX8, "trialCost", "()I"⟩
abbrev cX8_allBy : ByteArray := prog_10_method_5_code
def yX8_allBy : MethodName := ⟨RX8, "allBy", "(I)I"⟩
abbrev cX8_bestRules : ByteArray := prog_10_method_6_code
def yX8_bestRules : MethodName := ⟨RX8, "bestRules", "(I)I"⟩
abbrev cX8_spellRules : ByteArray := prog_10_method_7_code
def yX8_spellRules : MethodName := ⟨RX8, "spellRules", "(I)V"⟩
abbrev cX8_findKick : ByteArray := prog_10_method_8_code
def yX8_findKick : MethodName := ⟨RX8, "findKick", "(I)V"⟩
abbrev cX8_findChange : ByteArray := prog_10_method_9_code
def yX8_findChange : MethodName := ⟨RX8, "findChange", "(II)V"⟩
abbrev cX8_oneComesAt : ByteArray := prog_10_method_10_code
def yX8_oneComesAt : MethodName := ⟨RX8, "oneComesAt", "(I)Z"⟩
abbrev cX8_changeAt : ByteArray := prog_10_method_11_code
def yX8_changeAt : MethodName := ⟨RX8, "changeAt", "(III)V"⟩
abbrev cX8_windowSaves : ByteArray := prog_10_method_12_code
def yX8_windowSaves : MethodName := ⟨RX8, "windowSaves", "()I"⟩
abbrev cX8_quietSaves : ByteArray := prog_10_method_13_code
def yX8_quietSaves : MethodName := ⟨RX8, "quietSaves", "()I"⟩
abbrev cX8_spread : ByteArray := prog_10_method_14_code
def yX8_spread : MethodName := ⟨RX8, "spread", "(II)I"⟩
abbrev cX8_bestOrder : ByteArray := prog_10_method_15_code
def yX8_bestOrder : MethodName := ⟨RX8, "bestOrder", "(II)I"⟩
abbrev cX8_restingPairs : ByteArray := prog_10_method_16_code
def yX8_restingPairs : MethodName := ⟨RX8, "restingPairs", "(II)I"⟩
abbrev cX8_lossOf : ByteArray := prog_10_method_17_code
def yX8_lossOf : MethodName := ⟨RX8, "lossOf", "(IIII)I"⟩
abbrev cX8_kindOnOtherLeaf : ByteArray := prog_10_method_18_code
def yX8_kindOnOtherLeaf : MethodName := ⟨RX8, "kindOnOtherLeaf", "(I)I"⟩
def RX9 : String := "SwingLeaves"
def TX9 : u_T := fun k => match k with
  | 0 => ("SwingLeaves", "reader", "LSwingLeaves$Reader;", true)
  | 1 => ("SwingLeaves", "house", "LSwingLeaves$House;", true)
  | 2 => ("SwingLeaves", "plan", "LSwingLeaves$Plan;", true)
  | 3 => ("SwingLeaves", "evening", "LSwingLeaves$Evening;", true)
  | 4 => ("SwingLeaves", "trials", "LSwingLeaves$Trials;", true)
  | 5 => ("SwingLeaves", "images", "[LSwingLeaves$Image;", true)
  | 6 => ("SwingLeaves", "bookWaiters", "[I", true)
  | 7 => ("SwingLeaves", "bookKinds", "[I", true)
  | 8 => ("SwingLeaves", "bookLines", "I", false)
  | 9 => ("SwingLeaves", "drawn", "J", false)
  | _ => ("SwingLeaves", "faultPlace", "I", false)
def tyX9 : Nat → FieldType := fun k => match k with
  | 0 => .object "SwingLeaves$Reader"
  | 1 => .object "SwingLeaves$House"
  | 2 => .object "SwingLeaves$Plan"
  | 3 => .object "SwingLeaves$Evening"
  | 4 => .object "SwingLeaves$Trials"
  | 5 => .array (.object "SwingLeaves$Image")
  | 6 => .array .int
  | 7 => .array .int
  | 8 => .int
  | 9 => .long
  | _ => .int
abbrev wsX90 : List Cond := u_ws RX9 TX9 11
theorem nmX9 : ∀ a, a < 11 → ∀ b, b < 11 → a ≠ b → (TX9 a).2.1 ≠ (TX9 b).2.1 := by decide +kernel
theorem tyX9_ok : ∀ k, k < 11 → parseFieldDescriptor (TX9 k).2.2.1 = some (tyX9 k) := by decide +kernel
abbrev cX9_init : ByteArray := prog_1_method_1_code
def yX9_init : MethodName := ⟨RX9, "<init>", "()V"⟩
abbrev cX9_feed : ByteArray := prog_1_method_2_code
def yX9_feed : MethodName := ⟨RX9, "feed", "(I)I"⟩
abbrev cX9_house : ByteArray := prog_1_method_3_code
def yX9_house : MethodName := ⟨RX9, "house", "()I"⟩
abbrev cX9_fault : ByteArray := prog_1_method_4_code
def yX9_fault : MethodName := ⟨RX9, "fault", "()I"⟩
abbrev cX9_told : ByteArray := prog_1_method_5_code
def yX9_told : MethodName := ⟨RX9, "told", "(I)I"⟩
abbrev cX9_toldOfEvening : ByteArray := prog_1_method_6_code
def yX9_toldOfEvening : MethodName := ⟨RX9, "toldOfEvening", "(I)I"⟩
abbrev cX9_leaf : ByteArray := prog_1_method_7_code
def yX9_leaf : MethodName := ⟨RX9, "leaf", "(II)I"⟩
abbrev cX9_waiter : ByteArray := prog_1_method_8_code
def yX9_waiter : MethodName := ⟨RX9, "waiter", "(II)I"⟩
abbrev cX9_come : ByteArray := prog_1_method_9_code
def yX9_come : MethodName := ⟨RX9, "come", "(II)I"⟩
abbrev cX9_rule : ByteArray := prog_1_method_10_code
def yX9_rule : MethodName := ⟨RX9, "rule", "(II)I"⟩
abbrev cX9_kick : ByteArray := prog_1_method_11_code
def yX9_kick : MethodName := ⟨RX9, "kick", "(II)I"⟩
abbrev cX9_put : ByteArray := prog_1_method_12_code
def yX9_put : MethodName := ⟨RX9, "put", "([IIIII)I"⟩
abbrev cX9_glass : ByteArray := prog_1_method_13_code
def yX9_glass : MethodName := ⟨RX9, "glass", "(Z)I"⟩
abbrev cX9_noise : ByteArray := prog_1_method_14_code
def yX9_noise : MethodName := ⟨RX9, "noise", "(I)I"⟩
abbrev cX9_drift : ByteArray := prog_1_method_15_code
def yX9_drift : MethodName := ⟨RX9, "drift", "(I)I"⟩
abbrev cX9_drawOf : ByteArray := prog_1_method_16_code
def yX9_drawOf : MethodName := ⟨RX9, "drawOf", "(I)I"⟩
abbrev cX9_pass : ByteArray := prog_1_method_17_code
def yX9_pass : MethodName := ⟨RX9, "pass", "(II)I"⟩
abbrev cX9_leafAt : ByteArray := prog_1_method_18_code
def yX9_leafAt : MethodName := ⟨RX9, "leafAt", "(II)I"⟩
abbrev cX9_all : ByteArray := prog_1_method_19_code
def yX9_all : MethodName := ⟨RX9, "all", "(I)I"⟩
abbrev cX9_best : ByteArray := prog_1_method_20_code
def yX9_best : MethodName := ⟨RX9, "best", "(I)I"⟩
abbrev cX9_bestKick : ByteArray := prog_1_method_21_code
def yX9_bestKick : MethodName := ⟨RX9, "bestKick", "(II)I"⟩
abbrev cX9_change : ByteArray := prog_1_method_22_code
def yX9_change : MethodName := ⟨RX9, "change", "(III)I"⟩
abbrev cX9_worth : ByteArray := prog_1_method_23_code
def yX9_worth : MethodName := ⟨RX9, "worth", "(II)I"⟩
abbrev cX9_apart : ByteArray := prog_1_method_24_code
def yX9_apart : MethodName := ⟨RX9, "apart", "(II)I"⟩
abbrev cX9_order : ByteArray := prog_1_method_25_code
def yX9_order : MethodName := ⟨RX9, "order", "(II)I"⟩
abbrev cX9_rests : ByteArray := prog_1_method_26_code
def yX9_rests : MethodName := ⟨RX9, "rests", "(II)I"⟩
abbrev cX9_stack : ByteArray := prog_1_method_27_code
def yX9_stack : MethodName := ⟨RX9, "stack", "(I)I"⟩
abbrev cX9_carried : ByteArray := prog_1_method_28_code
def yX9_carried : MethodName := ⟨RX9, "carried", "(II)I"⟩
abbrev cX9_until : ByteArray := prog_1_method_29_code
def yX9_until : MethodName := ⟨RX9, "until", "(II)I"⟩
abbrev cX9_unheard : ByteArray := prog_1_method_30_code
def yX9_unheard : MethodName := ⟨RX9, "unheard", "(III)I"⟩
abbrev cX9_commonDivisor : ByteArray := prog_1_method_31_code
def yX9_commonDivisor : MethodName := ⟨RX9, "commonDivisor", "(II)I"⟩
abbrev cX9_learns : ByteArray := prog_1_method_32_code
def yX9_learns : MethodName := ⟨RX9, "learns", "(II)I"⟩
abbrev cX9_write : ByteArray := prog_1_method_33_code
def yX9_write : MethodName := ⟨RX9, "write", "(II)I"⟩
abbrev cX9_tear : ByteArray := prog_1_method_34_code
def yX9_tear : MethodName := ⟨RX9, "tear", "()I"⟩
abbrev cX9_judge : ByteArray := prog_1_method_35_code
def yX9_judge : MethodName := ⟨RX9, "judge", "()I"⟩
abbrev cX9_seed : ByteArray := prog_1_method_36_code
def yX9_seed : MethodName := ⟨RX9, "seed", "(I)I"⟩
abbrev cX9_keep : ByteArray := prog_1_method_37_code
def yX9_keep : MethodName := ⟨RX9, "keep", "(I)I"⟩
abbrev cX9_goBack : ByteArray := prog_1_method_38_code
def yX9_goBack : MethodName := ⟨RX9, "goBack", "(I)I"⟩
abbrev cX9_noWaiter : ByteArray := prog_1_method_39_code
def yX9_noWaiter : MethodName := ⟨RX9, "noWaiter", "(I)Z"⟩
abbrev cX9_noLeaf : ByteArray := prog_1_method_40_code
def yX9_noLeaf : MethodName := ⟨RX9, "noLeaf", "(I)Z"⟩
abbrev cX9_noSide : ByteArray := prog_1_method_41_code
def yX9_noSide : MethodName := ⟨RX9, "noSide", "(I)Z"⟩
abbrev cX9_noRule : ByteArray := prog_1_method_42_code
def yX9_noRule : MethodName := ⟨RX9, "noRule", "(I)Z"⟩
abbrev cX9_noImage : ByteArray := prog_1_method_43_code
def yX9_noImage : MethodName := ⟨RX9, "noImage", "(I)Z"⟩
def RX10 : String := "SwingLeavesModel"
def TX10 : u_T := fun k => match k with
  | 0 => ("SwingLeavesModel", "letters", "I", false)
  | 1 => ("SwingLeavesModel", "text", "[I", true)
  | 2 => ("SwingLeavesModel", "position", "I", false)
  | 3 => ("SwingLeavesModel", "tokenAt", "I", false)
  | 4 => ("SwingLeavesModel", "token", "I", false)
  | 5 => ("SwingLeavesModel", "number", "I", false)
  | 6 => ("SwingLeavesModel", "faultAt", "I", false)
  | 7 => ("SwingLeavesModel", "faultIs", "I", false)
  | 8 => ("SwingLeavesModel", "readMany", "I", false)
  | 9 => ("SwingLeavesModel", "read", "[I", true)
  | 10 => ("SwingLeavesModel", "readLeaf", "[I", true)
  | 11 => ("SwingLeavesModel", "readLeaves", "I", false)
  | 12 => ("SwingLeavesModel", "readGlass", "I", false)
  | 13 => ("SwingLeavesModel", "readNoise", "I", false)
  | 14 => ("SwingLeavesModel", "hasGlass", "Z", false)
  | 15 => ("SwingLeavesModel", "hasNoise", "Z", false)
  | 16 => ("SwingLeavesModel", "leaf", "[I", true)
  | 17 => ("SwingLeavesModel", "many", "I", false)
  | 18 => ("SwingLeavesModel", "side", "[I", true)
  | 19 => ("SwingLeavesModel", "lasts", "[I", true)
  | 20 => ("SwingLeavesModel", "tray", "[I", true)
  | 21 => ("SwingLeavesModel", "calls", "[I", true)
  | 22 => ("SwingLeavesModel", "now", "[I", true)
  | 23 => ("SwingLeavesModel", "image", "[I", true)
  | 24 => ("SwingLeavesModel", "isKept", "[Z", true)
  | 25 => ("SwingLeavesModel", "kind", "[I", true)
  | 26 => ("SwingLeavesModel", "goesAt", "[I", true)
  | 27 => ("SwingLeavesModel", "through", "[I", true)
  | 28 => ("SwingLeavesModel", "took", "[I", true)
  | 29 => ("SwingLeavesModel", "waited", "[I", true)
  | 30 => ("SwingLeavesModel", "lost", "[Z", true)
  | 31 => ("SwingLeavesModel", "from", "[I", true)
  | 32 => ("SwingLeavesModel", "to", "[I", true)
  | 33 => ("SwingLeavesModel", "kickAt", "[I", true)
  | 34 => ("SwingLeavesModel", "kickBy", "[I", true)
  | 35 => ("SwingLeavesModel", "takers", "[I", true)
  | 36 => ("SwingLeavesModel", "kicks", "[I", true)
  | 37 => ("SwingLeavesModel", "latest", "[I", true)
  | 38 => ("SwingLeavesModel", "seconds", "I", false)
  | 39 => ("SwingLeavesModel", "losses", "I", false)
  | 40 => ("SwingLeavesModel", "held", "[I", true)
  | 41 => ("SwingLeavesModel", "found", "[I", true)
  | 42 => ("SwingLeavesModel", "places", "[I", true)
  | 43 => ("SwingLeavesModel", "comes", "[I", true)
  | 44 => ("SwingLeavesModel", "tried", "[I", true)
  | 45 => ("SwingLeavesModel", "bookMany", "I", false)
  | _ => ("SwingLeavesModel", "book", "[I", true)
def tyX10 : Nat → FieldType := fun k => match k with
  | 0 => .int
  | 1 => .array .int
  | 2 => .int
  | 3 => .int
  | 4 => .int
  | 5 => .int
  | 6 => .int
  | 7 => .int
  | 8 => .int
  | 9 => .array .int
  | 10 => .array .int
  | 11 => .int
  | 12 => .int
  | 13 => .int
  | 14 => .boolean
  | 15 => .boolean
  | 16 => .array .int
  | 17 => .int
  | 18 => .array .int
  | 19 => .array .int
  | 20 => .array .int
  | 21 => .array .int
  | 22 => .array .int
  | 23 => .array .int
  | 24 => .array .boolean
  | 25 => .array .int
  | 26 => .array .int
  | 27 => .array .int
  | 28 => .array .int
  | 29 => .array .int
  | 30 => .array .boolean
  | 31 => .array .int
  | 32 => .array .int
  | 33 => .array .int
  | 34 => .array .int
  | 35 => .array .int
  | 36 => .array .int
  | 37 => .array .int
  | 38 => .int
  | 39 => .int
  | 40 => .array .int
  | 41 => .array .int
  | 42 => .array .int
  | 43 => .array .int
  | 44 => .array .int
  | 45 => .int
  | _ => .array .int
abbrev wsX100 : List Cond := u_ws RX10 TX10 47
theorem nmX10 : ∀ a, a < 47 → ∀ b, b < 47 → a ≠ b → (TX10 a).2.1 ≠ (TX10 b).2.1 := by decide +kernel
theorem tyX10_ok : ∀ k, k < 47 → parseFieldDescriptor (TX10 k).2.2.1 = some (tyX10 k) := by decide +kernel
abbrev cX10_init : ByteArray := prog_12_method_1_code
def yX10_init : MethodName := ⟨RX10, "<init>", "()V"⟩
abbrev cX10_in : ByteArray := prog_12_method_2_code
def yX10_in : MethodName := ⟨RX10, "in", "(III)Z"⟩
abbrev cX10_isOne : ByteArray := prog_12_method_3_code
def yX10_isOne : MethodName := ⟨RX10, "isOne", "(I)Z"⟩
abbrev cX10_feed : ByteArray := prog_12_method_4_code
def yX10_feed : MethodName := ⟨RX10, "feed", "(I)I"⟩
abbrev cX10_nextToken : ByteArray := prog_12_method_5_code
def yX10_nextToken : MethodName := ⟨RX10, "nextToken", "()V"⟩
abbrev cX10_fails : ByteArray := prog_12_method_6_code
def yX10_fails : MethodName := ⟨RX10, "fails", "(I)Z"⟩
abbrev cX10_isNumber : ByteArray := prog_12_method_7_code
def yX10_isNumber : MethodName := ⟨RX10, "isNumber", "(II)Z"⟩
abbrev cX10_isEnd : ByteArray := prog_12_method_8_code
def yX10_isEnd : MethodName := ⟨RX10, "isEnd", "()Z"⟩
abbrev cX10_isLeafLine : ByteArray := prog_12_method_9_code
def yX10_isLeafLine : MethodName := ⟨RX10, "isLeafLine", "()Z"⟩
abbrev cX10_isWaiterLine : ByteArray := prog_12_method_10_code
def yX10_isWaiterLine : MethodName := ⟨RX10, "isWaiterLine", "()Z"⟩
abbrev cX10_isGlassLine : ByteArray := prog_12_method_11_code
def yX10_isGlassLine : MethodName := ⟨RX10, "isGlassLine", "()Z"⟩
abbrev cX10_isNoiseLine : ByteArray := prog_12_method_12_code
def yX10_isNoiseLine : MethodName := ⟨RX10, "isNoiseLine", "()Z"⟩
abbrev cX10_isRead : ByteArray := prog_12_method_13_code
def yX10_isRead : MethodName := ⟨RX10, "isRead", "()Z"⟩
abbrev cX10_house : ByteArray := prog_12_method_14_code
def yX10_house : MethodName := ⟨RX10, "house", "()I"⟩
abbrev cX10_fault : ByteArray := prog_12_method_15_code
def yX10_fault : MethodName := ⟨RX10, "fault", "()I"⟩
abbrev cX10_isBusy : ByteArray := prog_12_method_16_code
def yX10_isBusy : MethodName := ⟨RX10, "isBusy", "(III)Z"⟩
abbrev cX10_widen : ByteArray := prog_12_method_17_code
def yX10_widen : MethodName := ⟨RX10, "widen", "(IIII)V"⟩
abbrev cX10_swing : ByteArray := prog_12_method_18_code
def yX10_swing : MethodName := ⟨RX10, "swing", "(II)I"⟩
abbrev cX10_isHeard : ByteArray := prog_12_method_19_code
def yX10_isHeard : MethodName := ⟨RX10, "isHeard", "(I)Z"⟩
abbrev cX10_leafFor : ByteArray := prog_12_method_20_code
def yX10_leafFor : MethodName := ⟨RX10, "leafFor", "(I)I"⟩
abbrev cX10_lose : ByteArray := prog_12_method_21_code
def yX10_lose : MethodName := ⟨RX10, "lose", "(I)V"⟩
abbrev cX10_crash : ByteArray := prog_12_method_22_code
def yX10_crash : MethodName := ⟨RX10, "crash", "(II)V"⟩
abbrev cX10_goThrough : ByteArray := prog_12_method_23_code
def yX10_goThrough : MethodName := ⟨RX10, "goThrough", "(III)V"⟩
abbrev cX10_look : ByteArray := prog_12_method_24_code
def yX10_look : MethodName := ⟨RX10, "look", "(I)V"⟩
abbrev cX10_costNow : ByteArray := prog_12_method_25_code
def yX10_costNow : MethodName := ⟨RX10, "costNow", "()I"⟩
abbrev cX10_hold : ByteArray := prog_12_method_26_code
def yX10_hold : MethodName := ⟨RX10, "hold", "()V"⟩
abbrev cX10_release : ByteArray := prog_12_method_27_code
def yX10_release : MethodName := ⟨RX10, "release", "()V"⟩
abbrev cX10_told : ByteArray := prog_12_method_28_code
def yX10_told : MethodName := ⟨RX10, "told", "(I)I"⟩
abbrev cX10_leaf : ByteArray := prog_12_method_29_code
def yX10_leaf : MethodName := ⟨RX10, "leaf", "(II)I"⟩
abbrev cX10_waiter : ByteArray := prog_12_method_30_code
def yX10_waiter : MethodName := ⟨RX10, "waiter", "(II)I"⟩
abbrev cX10_becomes : ByteArray := prog_12_method_31_code
def yX10_becomes : MethodName := ⟨RX10, "becomes", "(II)I"⟩
abbrev cX10_come : ByteArray := prog_12_method_32_code
def yX10_come : MethodName := ⟨RX10, "come", "(II)I"⟩
abbrev cX10_rule : ByteArray := prog_12_method_33_code
def yX10_rule : MethodName := ⟨RX10, "rule", "(II)I"⟩
abbrev cX10_kick : ByteArray := prog_12_method_34_code
def yX10_kick : MethodName := ⟨RX10, "kick", "(II)I"⟩
abbrev cX10_glass : ByteArray := prog_12_method_35_code
def yX10_glass : MethodName := ⟨RX10, "glass", "(Z)I"⟩
abbrev cX10_noise : ByteArray := prog_12_method_36_code
def yX10_noise : MethodName := ⟨RX10, "noise", "(I)I"⟩
abbrev cX10_draw : ByteArray := prog_12_method_37_code
def yX10_draw : MethodName := ⟨RX10, "draw", "(I)I"⟩
abbrev cX10_drift : ByteArray := prog_12_method_38_code
def yX10_drift : MethodName := ⟨RX10, "drift", "(I)I"⟩
abbrev cX10_pass : ByteArray := prog_12_method_39_code
def yX10_pass : MethodName := ⟨RX10, "pass", "(II)I"⟩
abbrev cX10_leafAt : ByteArray := prog_12_method_40_code
def yX10_leafAt : MethodName := ⟨RX10, "leafAt", "(II)I"⟩
abbrev cX10_all : ByteArray := prog_12_method_41_code
def yX10_all : MethodName := ⟨RX10, "all", "(I)I"⟩
abbrev cX10_best : ByteArray := prog_12_method_42_code
def yX10_best : MethodName := ⟨RX10, "best", "(I)I"⟩
abbrev cX10_bestKick : ByteArray := prog_12_method_43_code
def yX10_bestKick : MethodName := ⟨RX10, "bestKick", "(II)I"⟩
abbrev cX10_change : ByteArray := prog_12_method_44_code
def yX10_change : MethodName := ⟨RX10, "change", "(III)I"⟩
abbrev cX10_worth : ByteArray := prog_12_method_45_code
def yX10_worth : MethodName := ⟨RX10, "worth", "(II)I"⟩
abbrev cX10_apart : ByteArray := prog_12_method_46_code
def yX10_apart : MethodName := ⟨RX10, "apart", "(II)I"⟩
abbrev cX10_layPlaces : ByteArray := prog_12_method_47_code
def yX10_layPlaces : MethodName := ⟨RX10, "layPlaces", "(I)I"⟩
abbrev cX10_order : ByteArray := prog_12_method_48_code
def yX10_order : MethodName := ⟨RX10, "order", "(II)I"⟩
abbrev cX10_rests : ByteArray := prog_12_method_49_code
def yX10_rests : MethodName := ⟨RX10, "rests", "(II)I"⟩
abbrev cX10_loss : ByteArray := prog_12_method_50_code
def yX10_loss : MethodName := ⟨RX10, "loss", "(IIII)I"⟩
abbrev cX10_stack : ByteArray := prog_12_method_51_code
def yX10_stack : MethodName := ⟨RX10, "stack", "(I)I"⟩
abbrev cX10_until : ByteArray := prog_12_method_52_code
def yX10_until : MethodName := ⟨RX10, "until", "(II)I"⟩
abbrev cX10_unheard : ByteArray := prog_12_method_53_code
def yX10_unheard : MethodName := ⟨RX10, "unheard", "(III)I"⟩
abbrev cX10_learns : ByteArray := prog_12_method_54_code
def yX10_learns : MethodName := ⟨RX10, "learns", "(II)I"⟩
abbrev cX10_write : ByteArray := prog_12_method_55_code
def yX10_write : MethodName := ⟨RX10, "write", "(II)I"⟩
abbrev cX10_tear : ByteArray := prog_12_method_56_code
def yX10_tear : MethodName := ⟨RX10, "tear", "()I"⟩
abbrev cX10_judge : ByteArray := prog_12_method_57_code
def yX10_judge : MethodName := ⟨RX10, "judge", "()I"⟩
abbrev cX10_seed : ByteArray := prog_12_method_58_code
def yX10_seed : MethodName := ⟨RX10, "seed", "(I)I"⟩
abbrev cX10_keep : ByteArray := prog_12_method_59_code
def yX10_keep : MethodName := ⟨RX10, "keep", "(I)I"⟩
abbrev cX10_goBack : ByteArray := prog_12_method_60_code
def yX10_goBack : MethodName := ⟨RX10, "goBack", "(I)I"⟩
def RJ9 : String := "java/lang/Math"
def TJ9 : u_T := fun k => match k with
  | _ => ("", "", "", false)
def tyJ9 : Nat → FieldType := fun k => match k with
  | _ => .int
abbrev wsJ90 : List Cond := u_ws RJ9 TJ9 0
theorem nmJ9 : ∀ a, a < 0 → ∀ b, b < 0 → a ≠ b → (TJ9 a).2.1 ≠ (TJ9 b).2.1 := by decide +kernel
theorem tyJ9_ok : ∀ k, k < 0 → parseFieldDescriptor (TJ9 k).2.2.1 = some (tyJ9 k) := by decide +kernel
abbrev cJ9_max_7cf53 : ByteArray := prog_13_method_65_code
def yJ9_max_7cf53 : MethodName := ⟨RJ9, "max", "(II)I"⟩
abbrev cJ9_min_7cf53 : ByteArray := prog_13_method_69_code
def yJ9_min_7cf53 : MethodName := ⟨RJ9, "min", "(II)I"⟩
def RJ10 : String := "java/lang/System"
def TJ10 : u_T := fun k => match k with
  | _ => ("", "", "", false)
def tyJ10 : Nat → FieldType := fun k => match k with
  | _ => .int
abbrev wsJ100 : List Cond := u_ws RJ10 TJ10 0
theorem nmJ10 : ∀ a, a < 0 → ∀ b, b < 0 → a ≠ b → (TJ10 a).2.1 ≠ (TJ10 b).2.1 := by decide +kernel
theorem tyJ10_ok : ∀ k, k < 0 → parseFieldDescriptor (TJ10 k).2.2.1 = some (tyJ10 k) := by decide +kernel
def RJ7 : String := "java/util/Arrays"
def TJ7 : u_T := fun k => match k with
  | _ => ("", "", "", false)
def tyJ7 : Nat → FieldType := fun k => match k with
  | _ => .int
abbrev wsJ70 : List Cond := u_ws RJ7 TJ7 0
theorem nmJ7 : ∀ a, a < 0 → ∀ b, b < 0 → a ≠ b → (TJ7 a).2.1 ≠ (TJ7 b).2.1 := by decide +kernel
theorem tyJ7_ok : ∀ k, k < 0 → parseFieldDescriptor (TJ7 k).2.2.1 = some (tyJ7 k) := by decide +kernel
abbrev cJ7_fill_53178 : ByteArray := prog_15_method_103_code
def yJ7_fill_53178 : MethodName := ⟨RJ7, "fill", "([II)V"⟩
def RL : String := "SwingLeavesLaw"
abbrev cL_law : ByteArray := code
def yL_law : MethodName := ⟨RL, "law", "([I)Z"⟩
