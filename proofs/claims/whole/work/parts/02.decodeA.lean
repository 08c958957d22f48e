theorem dX0_init_0 : decode cX0_init 0 = .ok (.aload_n 0, 1) := by decide +kernel
theorem dX0_init_1 : decode cX0_init 1 = .ok (.invokespecial 3, 3) := by decide +kernel
theorem dX0_init_4 : decode cX0_init 4 = .ok (.aload_n 0, 1) := by decide +kernel
theorem dX0_init_5 : decode cX0_init 5 = .ok (.iconst 2, 1) := by decide +kernel
theorem dX0_init_6 : decode cX0_init 6 = .ok (.anewarray 9, 3) := by decide +kernel
theorem dX0_init_9 : decode cX0_init 9 = .ok (.putfield 11, 3) := by decide +kernel
theorem dX0_init_12 : decode cX0_init 12 = .ok (.aload_n 0, 1) := by decide +kernel
theorem dX0_init_13 : decode cX0_init 13 = .ok (.bipush 6, 2) := by decide +kernel
theorem dX0_init_15 : decode cX0_init 15 = .ok (.anewarray 17, 3) := by decide +kernel
theorem dX0_init_18 : decode cX0_init 18 = .ok (.putfield 19, 3) := by decide +kernel
theorem dX0_init_21 : decode cX0_init 21 = .ok (.aload_n 0, 1) := by decide +kernel
theorem dX0_init_22 : decode cX0_init 22 = .ok (.bipush 6, 2) := by decide +kernel
theorem dX0_init_24 : decode cX0_init 24 = .ok (.newarray .int, 2) := by decide +kernel
theorem dX0_init_26 : decode cX0_init 26 = .ok (.putfield 23, 3) := by decide +kernel
theorem dX0_init_29 : decode cX0_init 29 = .ok (.aload_n 0, 1) := by decide +kernel
theorem dX0_init_30 : decode cX0_init 30 = .ok (.aload_n 1, 1) := by decide +kernel
theorem dX0_init_31 : decode cX0_init 31 = .ok (.putfield 27, 3) := by decide +kernel
theorem dX0_init_34 : decode cX0_init 34 = .ok (.iconst 0, 1) := by decide +kernel
theorem dX0_init_35 : decode cX0_init 35 = .ok (.istore_n 2, 1) := by decide +kernel
theorem dX0_init_36 : decode cX0_init 36 = .ok (.iload_n 2, 1) := by decide +kernel
theorem dX0_init_37 : decode cX0_init 37 = .ok (.iconst 2, 1) := by decide +kernel
theorem dX0_init_38 : decode cX0_init 38 = .ok (.if_icmp .ge 22, 3) := by decide +kernel
theorem dX0_init_41 : decode cX0_init 41 = .ok (.aload_n 0, 1) := by decide +kernel
theorem dX0_init_42 : decode cX0_init 42 = .ok (.getfield 11, 3) := by decide +kernel
theorem dX0_init_45 : decode cX0_init 45 = .ok (.iload_n 2, 1) := by decide +kernel
theorem dX0_init_46 : decode cX0_init 46 = .ok (.new 9, 3) := by decide +kernel
theorem dX0_init_49 : decode cX0_init 49 = .ok (.dup, 1) := by decide +kernel
theorem dX0_init_50 : decode cX0_init 50 = .ok (.invokespecial 31, 3) := by decide +kernel
theorem dX0_init_53 : decode cX0_init 53 = .ok (.aastore, 1) := by decide +kernel
theorem dX0_init_54 : decode cX0_init 54 = .ok (.iinc 2 1, 3) := by decide +kernel
theorem dX0_init_57 : decode cX0_init 57 = .ok (.goto (-21), 3) := by decide +kernel
theorem dX0_init_60 : decode cX0_init 60 = .ok (.iconst 0, 1) := by decide +kernel
theorem dX0_init_61 : decode cX0_init 61 = .ok (.istore_n 2, 1) := by decide +kernel
theorem dX0_init_62 : decode cX0_init 62 = .ok (.iload_n 2, 1) := by decide +kernel
theorem dX0_init_63 : decode cX0_init 63 = .ok (.bipush 6, 2) := by decide +kernel
theorem dX0_init_65 : decode cX0_init 65 = .ok (.if_icmp .ge 22, 3) := by decide +kernel
theorem dX0_init_68 : decode cX0_init 68 = .ok (.aload_n 0, 1) := by decide +kernel
theorem dX0_init_69 : decode cX0_init 69 = .ok (.getfield 19, 3) := by decide +kernel
theorem dX0_init_72 : decode cX0_init 72 = .ok (.iload_n 2, 1) := by decide +kernel
theorem dX0_init_73 : decode cX0_init 73 = .ok (.new 17, 3) := by decide +kernel
theorem dX0_init_76 : decode cX0_init 76 = .ok (.dup, 1) := by decide +kernel
theorem dX0_init_77 : decode cX0_init 77 = .ok (.invokespecial 32, 3) := by decide +kernel
theorem dX0_init_80 : decode cX0_init 80 = .ok (.aastore, 1) := by decide +kernel
theorem dX0_init_81 : decode cX0_init 81 = .ok (.iinc 2 1, 3) := by decide +kernel
theorem dX0_init_84 : decode cX0_init 84 = .ok (.goto (-22), 3) := by decide +kernel
theorem dX0_init_87 : decode cX0_init 87 = .ok (.return_, 1) := by decide +kernel
theorem dX0_run_0 : decode cX0_run 0 = .ok (.iconst 0, 1) := by decide +kernel
theorem dX0_run_1 : decode cX0_run 1 = .ok (.istore_n 2, 1) := by decide +kernel
theorem dX0_run_2 : decode cX0_run 2 = .ok (.iload_n 2, 1) := by decide +kernel
theorem dX0_run_3 : decode cX0_run 3 = .ok (.iconst 2, 1) := by decide +kernel
theorem dX0_run_4 : decode cX0_run 4 = .ok (.if_icmp .ge 18, 3) := by decide +kernel
theorem dX0_run_7 : decode cX0_run 7 = .ok (.aload_n 0, 1) := by decide +kernel
theorem dX0_run_8 : decode cX0_run 8 = .ok (.getfield 11, 3) := by decide +kernel
theorem dX0_run_11 : decode cX0_run 11 = .ok (.iload_n 2, 1) := by decide +kernel
theorem dX0_run_12 : decode cX0_run 12 = .ok (.aaload, 1) := by decide +kernel
theorem dX0_run_13 : decode cX0_run 13 = .ok (.invokevirtual 33, 3) := by decide +kernel
theorem dX0_run_16 : decode cX0_run 16 = .ok (.iinc 2 1, 3) := by decide +kernel
theorem dX0_run_19 : decode cX0_run 19 = .ok (.goto (-17), 3) := by decide +kernel
theorem dX0_run_22 : decode cX0_run 22 = .ok (.aload_n 0, 1) := by decide +kernel
theorem dX0_run_23 : decode cX0_run 23 = .ok (.aload_n 1, 1) := by decide +kernel
theorem dX0_run_24 : decode cX0_run 24 = .ok (.invokevirtual 36, 3) := by decide +kernel
theorem dX0_run_27 : decode cX0_run 27 = .ok (.iconst 0, 1) := by decide +kernel
theorem dX0_run_28 : decode cX0_run 28 = .ok (.istore_n 2, 1) := by decide +kernel
theorem dX0_run_29 : decode cX0_run 29 = .ok (.iload_n 2, 1) := by decide +kernel
theorem dX0_run_30 : decode cX0_run 30 = .ok (.aload_n 0, 1) := by decide +kernel
theorem dX0_run_31 : decode cX0_run 31 = .ok (.getfield 27, 3) := by decide +kernel
theorem dX0_run_34 : decode cX0_run 34 = .ok (.getfield 40, 3) := by decide +kernel
theorem dX0_run_37 : decode cX0_run 37 = .ok (.if_icmp .ge 20, 3) := by decide +kernel
theorem dX0_run_40 : decode cX0_run 40 = .ok (.aload_n 0, 1) := by decide +kernel
theorem dX0_run_41 : decode cX0_run 41 = .ok (.aload_n 0, 1) := by decide +kernel
theorem dX0_run_42 : decode cX0_run 42 = .ok (.getfield 23, 3) := by decide +kernel
theorem dX0_run_45 : decode cX0_run 45 = .ok (.iload_n 2, 1) := by decide +kernel
theorem dX0_run_46 : decode cX0_run 46 = .ok (.iaload, 1) := by decide +kernel
theorem dX0_run_47 : decode cX0_run 47 = .ok (.aload_n 1, 1) := by decide +kernel
theorem dX0_run_48 : decode cX0_run 48 = .ok (.invokevirtual 46, 3) := by decide +kernel
theorem dX0_run_51 : decode cX0_run 51 = .ok (.iinc 2 1, 3) := by decide +kernel
theorem dX0_run_54 : decode cX0_run 54 = .ok (.goto (-25), 3) := by decide +kernel
theorem dX0_run_57 : decode cX0_run 57 = .ok (.return_, 1) := by decide +kernel
theorem dX0_lineUp_0 : decode cX0_lineUp 0 = .ok (.iconst 0, 1) := by decide +kernel
theorem dX0_lineUp_1 : decode cX0_lineUp 1 = .ok (.istore_n 2, 1) := by decide +kernel
theorem dX0_lineUp_2 : decode cX0_lineUp 2 = .ok (.iload_n 2, 1) := by decide +kernel
theorem dX0_lineUp_3 : decode cX0_lineUp 3 = .ok (.aload_n 0, 1) := by decide +kernel
theorem dX0_lineUp_4 : decode cX0_lineUp 4 = .ok (.getfield 27, 3) := by decide +kernel
theorem dX0_lineUp_7 : decode cX0_lineUp 7 = .ok (.getfield 40, 3) := by decide +kernel
theorem dX0_lineUp_10 : decode cX0_lineUp 10 = .ok (.if_icmp .ge 64, 3) := by decide +kernel
theorem dX0_lineUp_13 : decode cX0_lineUp 13 = .ok (.iload_n 2, 1) := by decide +kernel
theorem dX0_lineUp_14 : decode cX0_lineUp 14 = .ok (.istore_n 3, 1) := by decide +kernel
theorem dX0_lineUp_15 : decode cX0_lineUp 15 = .ok (.iload_n 3, 1) := by decide +kernel
theorem dX0_lineUp_16 : decode cX0_lineUp 16 = .ok (.ifCond .le 45, 3) := by decide +kernel
theorem dX0_lineUp_19 : decode cX0_lineUp 19 = .ok (.aload_n 1, 1) := by decide +kernel
theorem dX0_lineUp_20 : decode cX0_lineUp 20 = .ok (.getfield 50, 3) := by decide +kernel
theorem dX0_lineUp_23 : decode cX0_lineUp 23 = .ok (.aload_n 0, 1) := by decide +kernel
theorem dX0_lineUp_24 : decode cX0_lineUp 24 = .ok (.getfield 23, 3) := by decide +kernel
theorem dX0_lineUp_27 : decode cX0_lineUp 27 = .ok (.iload_n 3, 1) := by decide +kernel
theorem dX0_lineUp_28 : decode cX0_lineUp 28 = .ok (.iconst 1, 1) := by decide +kernel
theorem dX0_lineUp_29 : decode cX0_lineUp 29 = .ok (.isub, 1) := by decide +kernel
theorem dX0_lineUp_30 : decode cX0_lineUp 30 = .ok (.iaload, 1) := by decide +kernel
theorem dX0_lineUp_31 : decode cX0_lineUp 31 = .ok (.iaload, 1) := by decide +kernel
theorem dX0_lineUp_32 : decode cX0_lineUp 32 = .ok (.aload_n 1, 1) := by decide +kernel
theorem dX0_lineUp_33 : decode cX0_lineUp 33 = .ok (.getfield 50, 3) := by decide +kernel
theorem dX0_lineUp_36 : decode cX0_lineUp 36 = .ok (.iload_n 2, 1) := by decide +kernel
theorem dX0_lineUp_37 : decode cX0_lineUp 37 = .ok (.iaload, 1) := by decide +kernel
theorem dX0_lineUp_38 : decode cX0_lineUp 38 = .ok (.if_icmp .le 23, 3) := by decide +kernel
theorem dX0_lineUp_41 : decode cX0_lineUp 41 = .ok (.aload_n 0, 1) := by decide +kernel
theorem dX0_lineUp_42 : decode cX0_lineUp 42 = .ok (.getfield 23, 3) := by decide +kernel
theorem dX0_lineUp_45 : decode cX0_lineUp 45 = .ok (.iload_n 3, 1) := by decide +kernel
theorem dX0_lineUp_46 : decode cX0_lineUp 46 = .ok (.aload_n 0, 1) := by decide +kernel
theorem dX0_lineUp_47 : decode cX0_lineUp 47 = .ok (.getfield 23, 3) := by decide +kernel
theorem dX0_lineUp_50 : decode cX0_lineUp 50 = .ok (.iload_n 3, 1) := by decide +kernel
theorem dX0_lineUp_51 : decode cX0_lineUp 51 = .ok (.iconst 1, 1) := by decide +kernel
theorem dX0_lineUp_52 : decode cX0_lineUp 52 = .ok (.isub, 1) := by decide +kernel
theorem dX0_lineUp_53 : decode cX0_lineUp 53 = .ok (.iaload, 1) := by decide +kernel
theorem dX0_lineUp_54 : decode cX0_lineUp 54 = .ok (.iastore, 1) := by decide +kernel
theorem dX0_lineUp_55 : decode cX0_lineUp 55 = .ok (.iinc 3 (-1), 3) := by decide +kernel
theorem dX0_lineUp_58 : decode cX0_lineUp 58 = .ok (.goto (-43), 3) := by decide +kernel
theorem dX0_lineUp_61 : decode cX0_lineUp 61 = .ok (.aload_n 0, 1) := by decide +kernel
theorem dX0_lineUp_62 : decode cX0_lineUp 62 = .ok (.getfield 23, 3) := by decide +kernel
theorem dX0_lineUp_65 : decode cX0_lineUp 65 = .ok (.iload_n 3, 1) := by decide +kernel
theorem dX0_lineUp_66 : decode cX0_lineUp 66 = .ok (.iload_n 2, 1) := by decide +kernel
theorem dX0_lineUp_67 : decode cX0_lineUp 67 = .ok (.iastore, 1) := by decide +kernel
theorem dX0_lineUp_68 : decode cX0_lineUp 68 = .ok (.iinc 2 1, 3) := by decide +kernel
theorem dX0_lineUp_71 : decode cX0_lineUp 71 = .ok (.goto (-69), 3) := by decide +kernel
theorem dX0_lineUp_74 : decode cX0_lineUp 74 = .ok (.return_, 1) := by decide +kernel
theorem dX0_lookAt_0 : decode cX0_lookAt 0 = .ok (.aload_n 0, 1) := by decide +kernel
theorem dX0_lookAt_1 : decode cX0_lookAt 1 = .ok (.getfield 27, 3) := by decide +kernel
theorem dX0_lookAt_4 : decode cX0_lookAt 4 = .ok (.getfield 55, 3) := by decide +kernel
theorem dX0_lookAt_7 : decode cX0_lookAt 7 = .ok (.iload_n 1, 1) := by decide +kernel
theorem dX0_lookAt_8 : decode cX0_lookAt 8 = .ok (.iaload, 1) := by decide +kernel
theorem dX0_lookAt_9 : decode cX0_lookAt 9 = .ok (.istore_n 3, 1) := by decide +kernel
theorem dX0_lookAt_10 : decode cX0_lookAt 10 = .ok (.iconst 1, 1) := by decide +kernel
theorem dX0_lookAt_11 : decode cX0_lookAt 11 = .ok (.iload_n 3, 1) := by decide +kernel
theorem dX0_lookAt_12 : decode cX0_lookAt 12 = .ok (.isub, 1) := by decide +kernel
theorem dX0_lookAt_13 : decode cX0_lookAt 13 = .ok (.istore 4, 2) := by decide +kernel
theorem dX0_lookAt_15 : decode cX0_lookAt 15 = .ok (.aload_n 2, 1) := by decide +kernel
theorem dX0_lookAt_16 : decode cX0_lookAt 16 = .ok (.getfield 50, 3) := by decide +kernel
theorem dX0_lookAt_19 : decode cX0_lookAt 19 = .ok (.iload_n 1, 1) := by decide +kernel
theorem dX0_lookAt_20 : decode cX0_lookAt 20 = .ok (.iaload, 1) := by decide +kernel
theorem dX0_lookAt_21 : decode cX0_lookAt 21 = .ok (.istore 5, 2) := by decide +kernel
theorem dX0_lookAt_23 : decode cX0_lookAt 23 = .ok (.iload 5, 2) := by decide +kernel
theorem dX0_lookAt_25 : decode cX0_lookAt 25 = .ok (.istore 6, 2) := by decide +kernel
theorem dX0_lookAt_27 : decode cX0_lookAt 27 = .ok (.aload_n 0, 1) := by decide +kernel
theorem dX0_lookAt_28 : decode cX0_lookAt 28 = .ok (.getfield 27, 3) := by decide +kernel
theorem dX0_lookAt_31 : decode cX0_lookAt 31 = .ok (.getfield 58, 3) := by decide +kernel
theorem dX0_lookAt_34 : decode cX0_lookAt 34 = .ok (.iload_n 1, 1) := by decide +kernel
theorem dX0_lookAt_35 : decode cX0_lookAt 35 = .ok (.iaload, 1) := by decide +kernel
theorem dX0_lookAt_36 : decode cX0_lookAt 36 = .ok (.istore 7, 2) := by decide +kernel
theorem dX0_lookAt_38 : decode cX0_lookAt 38 = .ok (.aload_n 0, 1) := by decide +kernel
theorem dX0_lookAt_39 : decode cX0_lookAt 39 = .ok (.getfield 19, 3) := by decide +kernel
theorem dX0_lookAt_42 : decode cX0_lookAt 42 = .ok (.iload_n 1, 1) := by decide +kernel
theorem dX0_lookAt_43 : decode cX0_lookAt 43 = .ok (.aaload, 1) := by decide +kernel
theorem dX0_lookAt_44 : decode cX0_lookAt 44 = .ok (.astore 8, 2) := by decide +kernel
theorem dX0_lookAt_46 : decode cX0_lookAt 46 = .ok (.aload 8, 2) := by decide +kernel
theorem dX0_lookAt_48 : decode cX0_lookAt 48 = .ok (.iconst 0, 1) := by decide +kernel
theorem dX0_lookAt_49 : decode cX0_lookAt 49 = .ok (.putfield 61, 3) := by decide +kernel
theorem dX0_lookAt_52 : decode cX0_lookAt 52 = .ok (.aload 8, 2) := by decide +kernel
theorem dX0_lookAt_54 : decode cX0_lookAt 54 = .ok (.iconst 0, 1) := by decide +kernel
theorem dX0_lookAt_55 : decode cX0_lookAt 55 = .ok (.putfield 64, 3) := by decide +kernel
theorem dX0_lookAt_58 : decode cX0_lookAt 58 = .ok (.aload 8, 2) := by decide +kernel
theorem dX0_lookAt_60 : decode cX0_lookAt 60 = .ok (.aload_n 0, 1) := by decide +kernel
theorem dX0_lookAt_61 : decode cX0_lookAt 61 = .ok (.aload_n 2, 1) := by decide +kernel
theorem dX0_lookAt_62 : decode cX0_lookAt 62 = .ok (.getfield 67, 3) := by decide +kernel
theorem dX0_lookAt_65 : decode cX0_lookAt 65 = .ok (.iload_n 1, 1) := by decide +kernel
theorem dX0_lookAt_66 : decode cX0_lookAt 66 = .ok (.iaload, 1) := by decide +kernel
theorem dX0_lookAt_67 : decode cX0_lookAt 67 = .ok (.iload_n 3, 1) := by decide +kernel
theorem dX0_lookAt_68 : decode cX0_lookAt 68 = .ok (.iload 5, 2) := by decide +kernel
theorem dX0_lookAt_70 : decode cX0_lookAt 70 = .ok (.invokevirtual 70, 3) := by decide +kernel
theorem dX0_lookAt_73 : decode cX0_lookAt 73 = .ok (.putfield 74, 3) := by decide +kernel
theorem dX0_lookAt_76 : decode cX0_lookAt 76 = .ok (.aload_n 0, 1) := by decide +kernel
theorem dX0_lookAt_77 : decode cX0_lookAt 77 = .ok (.getfield 11, 3) := by decide +kernel
theorem dX0_lookAt_80 : decode cX0_lookAt 80 = .ok (.aload 8, 2) := by decide +kernel
theorem dX0_lookAt_82 : decode cX0_lookAt 82 = .ok (.getfield 74, 3) := by decide +kernel
theorem dX0_lookAt_85 : decode cX0_lookAt 85 = .ok (.aaload, 1) := by decide +kernel
theorem dX0_lookAt_86 : decode cX0_lookAt 86 = .ok (.astore 9, 2) := by decide +kernel
theorem dX0_lookAt_88 : decode cX0_lookAt 88 = .ok (.aload 9, 2) := by decide +kernel
theorem dX0_lookAt_90 : decode cX0_lookAt 90 = .ok (.dup, 1) := by decide +kernel
theorem dX0_lookAt_91 : decode cX0_lookAt 91 = .ok (.getfield 77, 3) := by decide +kernel
theorem dX0_lookAt_94 : decode cX0_lookAt 94 = .ok (.iconst 1, 1) := by decide +kernel
theorem dX0_lookAt_95 : decode cX0_lookAt 95 = .ok (.iadd, 1) := by decide +kernel
theorem dX0_lookAt_96 : decode cX0_lookAt 96 = .ok (.putfield 77, 3) := by decide +kernel
theorem dX0_lookAt_99 : decode cX0_lookAt 99 = .ok (.aload 9, 2) := by decide +kernel
theorem dX0_lookAt_101 : decode cX0_lookAt 101 = .ok (.iload 4, 2) := by decide +kernel
theorem dX0_lookAt_103 : decode cX0_lookAt 103 = .ok (.iload 5, 2) := by decide +kernel
theorem dX0_lookAt_105 : decode cX0_lookAt 105 = .ok (.invokevirtual 80, 3) := by decide +kernel
theorem dX0_lookAt_108 : decode cX0_lookAt 108 = .ok (.ifCond .eq 39, 3) := by decide +kernel
theorem dX0_lookAt_111 : decode cX0_lookAt 111 = .ok (.aload_n 2, 1) := by decide +kernel
theorem dX0_lookAt_112 : decode cX0_lookAt 112 = .ok (.getfield 84, 3) := by decide +kernel
theorem dX0_lookAt_115 : decode cX0_lookAt 115 = .ok (.ifCond .ne 32, 3) := by decide +kernel
theorem dX0_lookAt_118 : decode cX0_lookAt 118 = .ok (.aload_n 0, 1) := by decide +kernel
theorem dX0_lookAt_119 : decode cX0_lookAt 119 = .ok (.iload_n 1, 1) := by decide +kernel
theorem dX0_lookAt_120 : decode cX0_lookAt 120 = .ok (.aload_n 2, 1) := by decide +kernel
theorem dX0_lookAt_121 : decode cX0_lookAt 121 = .ok (.invokevirtual 87, 3) := by decide +kernel
theorem dX0_lookAt_124 : decode cX0_lookAt 124 = .ok (.ifCond .ne 23, 3) := by decide +kernel
theorem dX0_lookAt_127 : decode cX0_lookAt 127 = .ok (.bipush 20, 2) := by decide +kernel
theorem dX0_lookAt_129 : decode cX0_lookAt 129 = .ok (.istore 7, 2) := by decide +kernel
theorem dX0_lookAt_131 : decode cX0_lookAt 131 = .ok (.aload_n 0, 1) := by decide +kernel
theorem dX0_lookAt_132 : decode cX0_lookAt 132 = .ok (.iload_n 1, 1) := by decide +kernel
theorem dX0_lookAt_133 : decode cX0_lookAt 133 = .ok (.aload 9, 2) := by decide +kernel
theorem dX0_lookAt_135 : decode cX0_lookAt 135 = .ok (.getfield 91, 3) := by decide +kernel
theorem dX0_lookAt_138 : decode cX0_lookAt 138 = .ok (.iload 4, 2) := by decide +kernel
theorem dX0_lookAt_140 : decode cX0_lookAt 140 = .ok (.iaload, 1) := by decide +kernel
theorem dX0_lookAt_141 : decode cX0_lookAt 141 = .ok (.invokevirtual 94, 3) := by decide +kernel
theorem dX0_lookAt_144 : decode cX0_lookAt 144 = .ok (.goto 51, 3) := by decide +kernel
theorem dX0_lookAt_147 : decode cX0_lookAt 147 = .ok (.aload 9, 2) := by decide +kernel
theorem dX0_lookAt_149 : decode cX0_lookAt 149 = .ok (.iload 4, 2) := by decide +kernel
theorem dX0_lookAt_151 : decode cX0_lookAt 151 = .ok (.iload 5, 2) := by decide +kernel
theorem dX0_lookAt_153 : decode cX0_lookAt 153 = .ok (.invokevirtual 80, 3) := by decide +kernel
theorem dX0_lookAt_156 : decode cX0_lookAt 156 = .ok (.ifCond .eq 31, 3) := by decide +kernel
theorem dX0_lookAt_159 : decode cX0_lookAt 159 = .ok (.aload 9, 2) := by decide +kernel
theorem dX0_lookAt_161 : decode cX0_lookAt 161 = .ok (.getfield 98, 3) := by decide +kernel
theorem dX0_lookAt_164 : decode cX0_lookAt 164 = .ok (.iload 4, 2) := by decide +kernel
theorem dX0_lookAt_166 : decode cX0_lookAt 166 = .ok (.iaload, 1) := by decide +kernel
theorem dX0_lookAt_167 : decode cX0_lookAt 167 = .ok (.istore 6, 2) := by decide +kernel
theorem dX0_lookAt_169 : decode cX0_lookAt 169 = .ok (.aload 8, 2) := by decide +kernel
theorem dX0_lookAt_171 : decode cX0_lookAt 171 = .ok (.aload_n 2, 1) := by decide +kernel
theorem dX0_lookAt_172 : decode cX0_lookAt 172 = .ok (.getfield 84, 3) := by decide +kernel
theorem dX0_lookAt_175 : decode cX0_lookAt 175 = .ok (.iconst 1, 1) := by decide +kernel
theorem dX0_lookAt_176 : decode cX0_lookAt 176 = .ok (.if_icmp .ne 7, 3) := by decide +kernel
theorem dX0_lookAt_179 : decode cX0_lookAt 179 = .ok (.iconst 4, 1) := by decide +kernel
theorem dX0_lookAt_180 : decode cX0_lookAt 180 = .ok (.goto 4, 3) := by decide +kernel
theorem dX0_lookAt_183 : decode cX0_lookAt 183 = .ok (.iconst 3, 1) := by decide +kernel
theorem dX0_lookAt_184 : decode cX0_lookAt 184 = .ok (.putfield 61, 3) := by decide +kernel
theorem dX0_lookAt_187 : decode cX0_lookAt 187 = .ok (.aload_n 0, 1) := by decide +kernel
theorem dX0_lookAt_188 : decode cX0_lookAt 188 = .ok (.iload_n 1, 1) := by decide +kernel
theorem dX0_lookAt_189 : decode cX0_lookAt 189 = .ok (.aload_n 2, 1) := by decide +kernel
theorem dX0_lookAt_190 : decode cX0_lookAt 190 = .ok (.iload 6, 2) := by decide +kernel
theorem dX0_lookAt_192 : decode cX0_lookAt 192 = .ok (.invokevirtual 101, 3) := by decide +kernel
theorem dX0_lookAt_195 : decode cX0_lookAt 195 = .ok (.aload 8, 2) := by decide +kernel
theorem dX0_lookAt_197 : decode cX0_lookAt 197 = .ok (.iload 6, 2) := by decide +kernel
theorem dX0_lookAt_199 : decode cX0_lookAt 199 = .ok (.iload 5, 2) := by decide +kernel
theorem dX0_lookAt_201 : decode cX0_lookAt 201 = .ok (.isub, 1) := by decide +kernel
theorem dX0_lookAt_202 : decode cX0_lookAt 202 = .ok (.putfield 105, 3) := by decide +kernel
theorem dX0_lookAt_205 : decode cX0_lookAt 205 = .ok (.aload 8, 2) := by decide +kernel
theorem dX0_lookAt_207 : decode cX0_lookAt 207 = .ok (.iload 6, 2) := by decide +kernel
theorem dX0_lookAt_209 : decode cX0_lookAt 209 = .ok (.putfield 108, 3) := by decide +kernel
theorem dX0_lookAt_212 : decode cX0_lookAt 212 = .ok (.aload 8, 2) := by decide +kernel
theorem dX0_lookAt_214 : decode cX0_lookAt 214 = .ok (.iload 6, 2) := by decide +kernel
theorem dX0_lookAt_216 : decode cX0_lookAt 216 = .ok (.iload 7, 2) := by decide +kernel
theorem dX0_lookAt_218 : decode cX0_lookAt 218 = .ok (.iadd, 1) := by decide +kernel
theorem dX0_lookAt_219 : decode cX0_lookAt 219 = .ok (.putfield 111, 3) := by decide +kernel
theorem dX0_lookAt_222 : decode cX0_lookAt 222 = .ok (.aload 9, 2) := by decide +kernel
theorem dX0_lookAt_224 : decode cX0_lookAt 224 = .ok (.iload_n 1, 1) := by decide +kernel
theorem dX0_lookAt_225 : decode cX0_lookAt 225 = .ok (.iload_n 3, 1) := by decide +kernel
theorem dX0_lookAt_226 : decode cX0_lookAt 226 = .ok (.iload 6, 2) := by decide +kernel
theorem dX0_lookAt_228 : decode cX0_lookAt 228 = .ok (.iload 6, 2) := by decide +kernel
theorem dX0_lookAt_230 : decode cX0_lookAt 230 = .ok (.iload 7, 2) := by decide +kernel
theorem dX0_lookAt_232 : decode cX0_lookAt 232 = .ok (.iadd, 1) := by decide +kernel
theorem dX0_lookAt_233 : decode cX0_lookAt 233 = .ok (.invokevirtual 114, 3) := by decide +kernel
theorem dX0_lookAt_236 : decode cX0_lookAt 236 = .ok (.return_, 1) := by decide +kernel
theorem dX0_chooseLeaf_0 : decode cX0_chooseLeaf 0 = .ok (.iconst 1, 1) := by decide +kernel
theorem dX0_chooseLeaf_1 : decode cX0_chooseLeaf 1 = .ok (.iload_n 2, 1) := by decide +kernel
theorem dX0_chooseLeaf_2 : decode cX0_chooseLeaf 2 = .ok (.isub, 1) := by decide +kernel
theorem dX0_chooseLeaf_3 : decode cX0_chooseLeaf 3 = .ok (.istore 4, 2) := by decide +kernel
theorem dX0_chooseLeaf_5 : decode cX0_chooseLeaf 5 = .ok (.iload_n 1, 1) := by decide +kernel
theorem dX0_chooseLeaf_6 : decode cX0_chooseLeaf 6 = .ok (.ifCond .ne 5, 3) := by decide +kernel
theorem dX0_chooseLeaf_9 : decode cX0_chooseLeaf 9 = .ok (.iload_n 2, 1) := by decide +kernel
theorem dX0_chooseLeaf_10 : decode cX0_chooseLeaf 10 = .ok (.ireturn, 1) := by decide +kernel
theorem dX0_chooseLeaf_11 : decode cX0_chooseLeaf 11 = .ok (.iload_n 1, 1) := by decide +kernel
theorem dX0_chooseLeaf_12 : decode cX0_chooseLeaf 12 = .ok (.iconst 1, 1) := by decide +kernel
theorem dX0_chooseLeaf_13 : decode cX0_chooseLeaf 13 = .ok (.if_icmp .ne 6, 3) := by decide +kernel
theorem dX0_chooseLeaf_16 : decode cX0_chooseLeaf 16 = .ok (.iload 4, 2) := by decide +kernel
theorem dX0_chooseLeaf_18 : decode cX0_chooseLeaf 18 = .ok (.ireturn, 1) := by decide +kernel
theorem dX0_chooseLeaf_19 : decode cX0_chooseLeaf 19 = .ok (.aload_n 0, 1) := by decide +kernel
theorem dX0_chooseLeaf_20 : decode cX0_chooseLeaf 20 = .ok (.getfield 11, 3) := by decide +kernel
theorem dX0_chooseLeaf_23 : decode cX0_chooseLeaf 23 = .ok (.iload_n 2, 1) := by decide +kernel
theorem dX0_chooseLeaf_24 : decode cX0_chooseLeaf 24 = .ok (.aaload, 1) := by decide +kernel
theorem dX0_chooseLeaf_25 : decode cX0_chooseLeaf 25 = .ok (.iload 4, 2) := by decide +kernel
theorem dX0_chooseLeaf_27 : decode cX0_chooseLeaf 27 = .ok (.iload_n 3, 1) := by decide +kernel
theorem dX0_chooseLeaf_28 : decode cX0_chooseLeaf 28 = .ok (.invokevirtual 80, 3) := by decide +kernel
theorem dX0_chooseLeaf_31 : decode cX0_chooseLeaf 31 = .ok (.ifCond .eq 23, 3) := by decide +kernel
theorem dX0_chooseLeaf_34 : decode cX0_chooseLeaf 34 = .ok (.aload_n 0, 1) := by decide +kernel
theorem dX0_chooseLeaf_35 : decode cX0_chooseLeaf 35 = .ok (.getfield 11, 3) := by decide +kernel
theorem dX0_chooseLeaf_38 : decode cX0_chooseLeaf 38 = .ok (.iload 4, 2) := by decide +kernel
theorem dX0_chooseLeaf_40 : decode cX0_chooseLeaf 40 = .ok (.aaload, 1) := by decide +kernel
theorem dX0_chooseLeaf_41 : decode cX0_chooseLeaf 41 = .ok (.iload 4, 2) := by decide +kernel
theorem dX0_chooseLeaf_43 : decode cX0_chooseLeaf 43 = .ok (.iload_n 3, 1) := by decide +kernel
theorem dX0_chooseLeaf_44 : decode cX0_chooseLeaf 44 = .ok (.invokevirtual 80, 3) := by decide +kernel
theorem dX0_chooseLeaf_47 : decode cX0_chooseLeaf 47 = .ok (.ifCond .ne 7, 3) := by decide +kernel
theorem dX0_chooseLeaf_50 : decode cX0_chooseLeaf 50 = .ok (.iconst 1, 1) := by decide +kernel
theorem dX0_chooseLeaf_51 : decode cX0_chooseLeaf 51 = .ok (.goto 4, 3) := by decide +kernel
theorem dX0_chooseLeaf_54 : decode cX0_chooseLeaf 54 = .ok (.iconst 0, 1) := by decide +kernel
theorem dX0_chooseLeaf_55 : decode cX0_chooseLeaf 55 = .ok (.istore 5, 2) := by decide +kernel
theorem dX0_chooseLeaf_57 : decode cX0_chooseLeaf 57 = .ok (.iload 5, 2) := by decide +kernel
theorem dX0_chooseLeaf_59 : decode cX0_chooseLeaf 59 = .ok (.ifCond .eq 8, 3) := by decide +kernel
theorem dX0_chooseLeaf_62 : decode cX0_chooseLeaf 62 = .ok (.iload 4, 2) := by decide +kernel
theorem dX0_chooseLeaf_64 : decode cX0_chooseLeaf 64 = .ok (.goto 4, 3) := by decide +kernel
theorem dX0_chooseLeaf_67 : decode cX0_chooseLeaf 67 = .ok (.iload_n 2, 1) := by decide +kernel
theorem dX0_chooseLeaf_68 : decode cX0_chooseLeaf 68 = .ok (.ireturn, 1) := by decide +kernel
theorem dX0_isHeard_0 : decode cX0_isHeard 0 = .ok (.aload_n 0, 1) := by decide +kernel
theorem dX0_isHeard_1 : decode cX0_isHeard 1 = .ok (.getfield 27, 3) := by decide +kernel
theorem dX0_isHeard_4 : decode cX0_isHeard 4 = .ok (.getfield 118, 3) := by decide +kernel
theorem dX0_isHeard_7 : decode cX0_isHeard 7 = .ok (.iload_n 1, 1) := by decide +kernel
theorem dX0_isHeard_8 : decode cX0_isHeard 8 = .ok (.iaload, 1) := by decide +kernel
theorem dX0_isHeard_9 : decode cX0_isHeard 9 = .ok (.ifCond .ne 5, 3) := by decide +kernel
theorem dX0_isHeard_12 : decode cX0_isHeard 12 = .ok (.iconst 0, 1) := by decide +kernel
theorem dX0_isHeard_13 : decode cX0_isHeard 13 = .ok (.ireturn, 1) := by decide +kernel
theorem dX0_isHeard_14 : decode cX0_isHeard 14 = .ok (.iconst 0, 1) := by decide +kernel
theorem dX0_isHeard_15 : decode cX0_isHeard 15 = .ok (.istore_n 3, 1) := by decide +kernel
theorem dX0_isHeard_16 : decode cX0_isHeard 16 = .ok (.iconst 0, 1) := by decide +kernel
theorem dX0_isHeard_17 : decode cX0_isHeard 17 = .ok (.istore 4, 2) := by decide +kernel
theorem dX0_isHeard_19 : decode cX0_isHeard 19 = .ok (.iload 4, 2) := by decide +kernel
theorem dX0_isHeard_21 : decode cX0_isHeard 21 = .ok (.aload_n 0, 1) := by decide +kernel
theorem dX0_isHeard_22 : decode cX0_isHeard 22 = .ok (.getfield 27, 3) := by decide +kernel
theorem dX0_isHeard_25 : decode cX0_isHeard 25 = .ok (.getfield 40, 3) := by decide +kernel
theorem dX0_isHeard_28 : decode cX0_isHeard 28 = .ok (.if_icmp .ge 41, 3) := by decide +kernel
theorem dX0_isHeard_31 : decode cX0_isHeard 31 = .ok (.aload_n 2, 1) := by decide +kernel
theorem dX0_isHeard_32 : decode cX0_isHeard 32 = .ok (.getfield 50, 3) := by decide +kernel
theorem dX0_isHeard_35 : decode cX0_isHeard 35 = .ok (.iload_n 1, 1) := by decide +kernel
theorem dX0_isHeard_36 : decode cX0_isHeard 36 = .ok (.iaload, 1) := by decide +kernel
theorem dX0_isHeard_37 : decode cX0_isHeard 37 = .ok (.aload_n 2, 1) := by decide +kernel
theorem dX0_isHeard_38 : decode cX0_isHeard 38 = .ok (.getfield 50, 3) := by decide +kernel
theorem dX0_isHeard_41 : decode cX0_isHeard 41 = .ok (.iload 4, 2) := by decide +kernel
theorem dX0_isHeard_43 : decode cX0_isHeard 43 = .ok (.iaload, 1) := by decide +kernel
theorem dX0_isHeard_44 : decode cX0_isHeard 44 = .ok (.isub, 1) := by decide +kernel
theorem dX0_isHeard_45 : decode cX0_isHeard 45 = .ok (.istore 5, 2) := by decide +kernel
theorem dX0_isHeard_47 : decode cX0_isHeard 47 = .ok (.iload 5, 2) := by decide +kernel
theorem dX0_isHeard_49 : decode cX0_isHeard 49 = .ok (.iconst 1, 1) := by decide +kernel
theorem dX0_isHeard_50 : decode cX0_isHeard 50 = .ok (.if_icmp .lt 13, 3) := by decide +kernel
theorem dX0_isHeard_53 : decode cX0_isHeard 53 = .ok (.iload 5, 2) := by decide +kernel
theorem dX0_isHeard_55 : decode cX0_isHeard 55 = .ok (.bipush 20, 2) := by decide +kernel
theorem dX0_isHeard_57 : decode cX0_isHeard 57 = .ok (.if_icmp .gt 6, 3) := by decide +kernel
theorem dX0_isHeard_60 : decode cX0_isHeard 60 = .ok (.iinc 3 1, 3) := by decide +kernel
theorem dX0_isHeard_63 : decode cX0_isHeard 63 = .ok (.iinc 4 1, 3) := by decide +kernel
theorem dX0_isHeard_66 : decode cX0_isHeard 66 = .ok (.goto (-47), 3) := by decide +kernel
theorem dX0_isHeard_69 : decode cX0_isHeard 69 = .ok (.iload_n 3, 1) := by decide +kernel
theorem dX0_isHeard_70 : decode cX0_isHeard 70 = .ok (.aload_n 2, 1) := by decide +kernel
theorem dX0_isHeard_71 : decode cX0_isHeard 71 = .ok (.getfield 121, 3) := by decide +kernel
theorem dX0_isHeard_74 : decode cX0_isHeard 74 = .ok (.if_icmp .ge 7, 3) := by decide +kernel
theorem dX0_isHeard_77 : decode cX0_isHeard 77 = .ok (.iconst 1, 1) := by decide +kernel
theorem dX0_isHeard_78 : decode cX0_isHeard 78 = .ok (.goto 4, 3) := by decide +kernel
theorem dX0_isHeard_81 : decode cX0_isHeard 81 = .ok (.iconst 0, 1) := by decide +kernel
theorem dX0_isHeard_82 : decode cX0_isHeard 82 = .ok (.ireturn, 1) := by decide +kernel
theorem dX0_goThrough_0 : decode cX0_goThrough 0 = .ok (.aload_n 0, 1) := by decide +kernel
theorem dX0_goThrough_1 : decode cX0_goThrough 1 = .ok (.getfield 19, 3) := by decide +kernel
theorem dX0_goThrough_4 : decode cX0_goThrough 4 = .ok (.iload_n 1, 1) := by decide +kernel
theorem dX0_goThrough_5 : decode cX0_goThrough 5 = .ok (.aaload, 1) := by decide +kernel
theorem dX0_goThrough_6 : decode cX0_goThrough 6 = .ok (.astore 4, 2) := by decide +kernel
theorem dX0_goThrough_8 : decode cX0_goThrough 8 = .ok (.aload_n 0, 1) := by decide +kernel
theorem dX0_goThrough_9 : decode cX0_goThrough 9 = .ok (.getfield 11, 3) := by decide +kernel
theorem dX0_goThrough_12 : decode cX0_goThrough 12 = .ok (.aload 4, 2) := by decide +kernel
theorem dX0_goThrough_14 : decode cX0_goThrough 14 = .ok (.getfield 74, 3) := by decide +kernel
theorem dX0_goThrough_17 : decode cX0_goThrough 17 = .ok (.aaload, 1) := by decide +kernel
theorem dX0_goThrough_18 : decode cX0_goThrough 18 = .ok (.astore 5, 2) := by decide +kernel
theorem dX0_goThrough_20 : decode cX0_goThrough 20 = .ok (.aload_n 0, 1) := by decide +kernel
theorem dX0_goThrough_21 : decode cX0_goThrough 21 = .ok (.getfield 27, 3) := by decide +kernel
theorem dX0_goThrough_24 : decode cX0_goThrough 24 = .ok (.getfield 55, 3) := by decide +kernel
theorem dX0_goThrough_27 : decode cX0_goThrough 27 = .ok (.iload_n 1, 1) := by decide +kernel
theorem dX0_goThrough_28 : decode cX0_goThrough 28 = .ok (.iaload, 1) := by decide +kernel
theorem dX0_goThrough_29 : decode cX0_goThrough 29 = .ok (.istore 6, 2) := by decide +kernel
theorem dX0_goThrough_31 : decode cX0_goThrough 31 = .ok (.aload 5, 2) := by decide +kernel
theorem dX0_goThrough_33 : decode cX0_goThrough 33 = .ok (.iload 6, 2) := by decide +kernel
theorem dX0_goThrough_35 : decode cX0_goThrough 35 = .ok (.iload_n 3, 1) := by decide +kernel
theorem dX0_goThrough_36 : decode cX0_goThrough 36 = .ok (.invokevirtual 80, 3) := by decide +kernel
theorem dX0_goThrough_39 : decode cX0_goThrough 39 = .ok (.ifCond .ne 12, 3) := by decide +kernel
theorem dX0_goThrough_42 : decode cX0_goThrough 42 = .ok (.aload 5, 2) := by decide +kernel
theorem dX0_goThrough_44 : decode cX0_goThrough 44 = .ok (.iload_n 3, 1) := by decide +kernel
theorem dX0_goThrough_45 : decode cX0_goThrough 45 = .ok (.invokevirtual 124, 3) := by decide +kernel
theorem dX0_goThrough_48 : decode cX0_goThrough 48 = .ok (.ifCond .eq 20, 3) := by decide +kernel
theorem dX0_goThrough_51 : decode cX0_goThrough 51 = .ok (.aload 4, 2) := by decide +kernel
theorem dX0_goThrough_53 : decode cX0_goThrough 53 = .ok (.aload 4, 2) := by decide +kernel
theorem dX0_goThrough_55 : decode cX0_goThrough 55 = .ok (.getfield 61, 3) := by decide +kernel
theorem dX0_goThrough_58 : decode cX0_goThrough 58 = .ok (.iconst 1, 1) := by decide +kernel
theorem dX0_goThrough_59 : decode cX0_goThrough 59 = .ok (.invokestatic 128, 3) := by decide +kernel
theorem dX0_goThrough_62 : decode cX0_goThrough 62 = .ok (.putfield 61, 3) := by decide +kernel
theorem dX0_goThrough_65 : decode cX0_goThrough 65 = .ok (.goto 90, 3) := by decide +kernel
theorem dX0_goThrough_68 : decode cX0_goThrough 68 = .ok (.aload 5, 2) := by decide +kernel
theorem dX0_goThrough_70 : decode cX0_goThrough 70 = .ok (.iload_n 3, 1) := by decide +kernel
theorem dX0_goThrough_71 : decode cX0_goThrough 71 = .ok (.invokevirtual 134, 3) := by decide +kernel
theorem dX0_goThrough_74 : decode cX0_goThrough 74 = .ok (.ifCond .eq 18, 3) := by decide +kernel
theorem dX0_goThrough_77 : decode cX0_goThrough 77 = .ok (.aload 4, 2) := by decide +kernel
theorem dX0_goThrough_79 : decode cX0_goThrough 79 = .ok (.iconst 5, 1) := by decide +kernel
theorem dX0_goThrough_80 : decode cX0_goThrough 80 = .ok (.putfield 61, 3) := by decide +kernel
theorem dX0_goThrough_83 : decode cX0_goThrough 83 = .ok (.aload 4, 2) := by decide +kernel
theorem dX0_goThrough_85 : decode cX0_goThrough 85 = .ok (.iconst 1, 1) := by decide +kernel
theorem dX0_goThrough_86 : decode cX0_goThrough 86 = .ok (.putfield 64, 3) := by decide +kernel
theorem dX0_goThrough_89 : decode cX0_goThrough 89 = .ok (.goto 27, 3) := by decide +kernel
theorem dX0_goThrough_92 : decode cX0_goThrough 92 = .ok (.aload 4, 2) := by decide +kernel
theorem dX0_goThrough_94 : decode cX0_goThrough 94 = .ok (.getfield 74, 3) := by decide +kernel
theorem dX0_goThrough_97 : decode cX0_goThrough 97 = .ok (.iload 6, 2) := by decide +kernel
theorem dX0_goThrough_99 : decode cX0_goThrough 99 = .ok (.if_icmp .eq 17, 3) := by decide +kernel
theorem dX0_goThrough_102 : decode cX0_goThrough 102 = .ok (.aload 4, 2) := by decide +kernel
theorem dX0_goThrough_104 : decode cX0_goThrough 104 = .ok (.aload 4, 2) := by decide +kernel
theorem dX0_goThrough_106 : decode cX0_goThrough 106 = .ok (.getfield 61, 3) := by decide +kernel
theorem dX0_goThrough_109 : decode cX0_goThrough 109 = .ok (.iconst 2, 1) := by decide +kernel
theorem dX0_goThrough_110 : decode cX0_goThrough 110 = .ok (.invokestatic 128, 3) := by decide +kernel
theorem dX0_goThrough_113 : decode cX0_goThrough 113 = .ok (.putfield 61, 3) := by decide +kernel
theorem dX0_goThrough_116 : decode cX0_goThrough 116 = .ok (.aload 5, 2) := by decide +kernel
theorem dX0_goThrough_118 : decode cX0_goThrough 118 = .ok (.iload_n 3, 1) := by decide +kernel
theorem dX0_goThrough_119 : decode cX0_goThrough 119 = .ok (.aload_n 2, 1) := by decide +kernel
theorem dX0_goThrough_120 : decode cX0_goThrough 120 = .ok (.getfield 137, 3) := by decide +kernel
theorem dX0_goThrough_123 : decode cX0_goThrough 123 = .ok (.iload_n 1, 1) := by decide +kernel
theorem dX0_goThrough_124 : decode cX0_goThrough 124 = .ok (.iaload, 1) := by decide +kernel
theorem dX0_goThrough_125 : decode cX0_goThrough 125 = .ok (.aload_n 0, 1) := by decide +kernel
theorem dX0_goThrough_126 : decode cX0_goThrough 126 = .ok (.getfield 27, 3) := by decide +kernel
theorem dX0_goThrough_129 : decode cX0_goThrough 129 = .ok (.getfield 140, 3) := by decide +kernel
theorem dX0_goThrough_132 : decode cX0_goThrough 132 = .ok (.aload 4, 2) := by decide +kernel
theorem dX0_goThrough_134 : decode cX0_goThrough 134 = .ok (.getfield 74, 3) := by decide +kernel
theorem dX0_goThrough_137 : decode cX0_goThrough 137 = .ok (.iaload, 1) := by decide +kernel
theorem dX0_goThrough_138 : decode cX0_goThrough 138 = .ok (.imul, 1) := by decide +kernel
theorem dX0_goThrough_139 : decode cX0_goThrough 139 = .ok (.aload_n 0, 1) := by decide +kernel
theorem dX0_goThrough_140 : decode cX0_goThrough 140 = .ok (.getfield 27, 3) := by decide +kernel
theorem dX0_goThrough_143 : decode cX0_goThrough 143 = .ok (.getfield 143, 3) := by decide +kernel
theorem dX0_goThrough_146 : decode cX0_goThrough 146 = .ok (.aload 4, 2) := by decide +kernel
theorem dX0_goThrough_148 : decode cX0_goThrough 148 = .ok (.getfield 74, 3) := by decide +kernel
theorem dX0_goThrough_151 : decode cX0_goThrough 151 = .ok (.iaload, 1) := by decide +kernel
theorem dX0_goThrough_152 : decode cX0_goThrough 152 = .ok (.invokevirtual 146, 3) := by decide +kernel
theorem dX0_goThrough_155 : decode cX0_goThrough 155 = .ok (.return_, 1) := by decide +kernel
theorem dX0_crashBoth_0 : decode cX0_crashBoth 0 = .ok (.aload_n 0, 1) := by decide +kernel
theorem dX0_crashBoth_1 : decode cX0_crashBoth 1 = .ok (.getfield 19, 3) := by decide +kernel
theorem dX0_crashBoth_4 : decode cX0_crashBoth 4 = .ok (.iload_n 1, 1) := by decide +kernel
theorem dX0_crashBoth_5 : decode cX0_crashBoth 5 = .ok (.aaload, 1) := by decide +kernel
theorem dX0_crashBoth_6 : decode cX0_crashBoth 6 = .ok (.invokevirtual 150, 3) := by decide +kernel
theorem dX0_crashBoth_9 : decode cX0_crashBoth 9 = .ok (.iload_n 2, 1) := by decide +kernel
theorem dX0_crashBoth_10 : decode cX0_crashBoth 10 = .ok (.ifCond .lt 12, 3) := by decide +kernel
theorem dX0_crashBoth_13 : decode cX0_crashBoth 13 = .ok (.aload_n 0, 1) := by decide +kernel
theorem dX0_crashBoth_14 : decode cX0_crashBoth 14 = .ok (.getfield 19, 3) := by decide +kernel
theorem dX0_crashBoth_17 : decode cX0_crashBoth 17 = .ok (.iload_n 2, 1) := by decide +kernel
theorem dX0_crashBoth_18 : decode cX0_crashBoth 18 = .ok (.aaload, 1) := by decide +kernel
theorem dX0_crashBoth_19 : decode cX0_crashBoth 19 = .ok (.invokevirtual 150, 3) := by decide +kernel
theorem dX0_crashBoth_22 : decode cX0_crashBoth 22 = .ok (.return_, 1) := by decide +kernel
theorem dX0_seconds_0 : decode cX0_seconds 0 = .ok (.iconst 0, 1) := by decide +kernel
theorem dX0_seconds_1 : decode cX0_seconds 1 = .ok (.istore_n 1, 1) := by decide +kernel
theorem dX0_seconds_2 : decode cX0_seconds 2 = .ok (.iconst 0, 1) := by decide +kernel
theorem dX0_seconds_3 : decode cX0_seconds 3 = .ok (.istore_n 2, 1) := by decide +kernel
theorem dX0_seconds_4 : decode cX0_seconds 4 = .ok (.iload_n 2, 1) := by decide +kernel
theorem dX0_seconds_5 : decode cX0_seconds 5 = .ok (.aload_n 0, 1) := by decide +kernel
theorem dX0_seconds_6 : decode cX0_seconds 6 = .ok (.getfield 27, 3) := by decide +kernel
theorem dX0_seconds_9 : decode cX0_seconds 9 = .ok (.getfield 40, 3) := by decide +kernel
theorem dX0_seconds_12 : decode cX0_seconds 12 = .ok (.if_icmp .ge 21, 3) := by decide +kernel
theorem dX0_seconds_15 : decode cX0_seconds 15 = .ok (.iload_n 1, 1) := by decide +kernel
theorem dX0_seconds_16 : decode cX0_seconds 16 = .ok (.aload_n 0, 1) := by decide +kernel
theorem dX0_seconds_17 : decode cX0_seconds 17 = .ok (.getfield 19, 3) := by decide +kernel
theorem dX0_seconds_20 : decode cX0_seconds 20 = .ok (.iload_n 2, 1) := by decide +kernel
theorem dX0_seconds_21 : decode cX0_seconds 21 = .ok (.aaload, 1) := by decide +kernel
theorem dX0_seconds_22 : decode cX0_seconds 22 = .ok (.getfield 105, 3) := by decide +kernel
theorem dX0_seconds_25 : decode cX0_seconds 25 = .ok (.iadd, 1) := by decide +kernel
theorem dX0_seconds_26 : decode cX0_seconds 26 = .ok (.istore_n 1, 1) := by decide +kernel
theorem dX0_seconds_27 : decode cX0_seconds 27 = .ok (.iinc 2 1, 3) := by decide +kernel
theorem dX0_seconds_30 : decode cX0_seconds 30 = .ok (.goto (-26), 3) := by decide +kernel
theorem dX0_seconds_33 : decode cX0_seconds 33 = .ok (.iload_n 1, 1) := by decide +kernel
theorem dX0_seconds_34 : decode cX0_seconds 34 = .ok (.ireturn, 1) := by decide +kernel
theorem dX0_losses_0 : decode cX0_losses 0 = .ok (.iconst 0, 1) := by decide +kernel
theorem dX0_losses_1 : decode cX0_losses 1 = .ok (.istore_n 1, 1) := by decide +kernel
theorem dX0_losses_2 : decode cX0_losses 2 = .ok (.iconst 0, 1) := by decide +kernel
theorem dX0_losses_3 : decode cX0_losses 3 = .ok (.istore_n 2, 1) := by decide +kernel
theorem dX0_losses_4 : decode cX0_losses 4 = .ok (.iload_n 2, 1) := by decide +kernel
theorem dX0_losses_5 : decode cX0_losses 5 = .ok (.aload_n 0, 1) := by decide +kernel
theorem dX0_losses_6 : decode cX0_losses 6 = .ok (.getfield 27, 3) := by decide +kernel
theorem dX0_losses_9 : decode cX0_losses 9 = .ok (.getfield 40, 3) := by decide +kernel
theorem dX0_losses_12 : decode cX0_losses 12 = .ok (.if_icmp .ge 31, 3) := by decide +kernel
theorem dX0_losses_15 : decode cX0_losses 15 = .ok (.iload_n 1, 1) := by decide +kernel
theorem dX0_losses_16 : decode cX0_losses 16 = .ok (.aload_n 0, 1) := by decide +kernel
theorem dX0_losses_17 : decode cX0_losses 17 = .ok (.getfield 19, 3) := by decide +kernel
theorem dX0_losses_20 : decode cX0_losses 20 = .ok (.iload_n 2, 1) := by decide +kernel
theorem dX0_losses_21 : decode cX0_losses 21 = .ok (.aaload, 1) := by decide +kernel
theorem dX0_losses_22 : decode cX0_losses 22 = .ok (.getfield 64, 3) := by decide +kernel
theorem dX0_losses_25 : decode cX0_losses 25 = .ok (.aload_n 0, 1) := by decide +kernel
theorem dX0_losses_26 : decode cX0_losses 26 = .ok (.getfield 27, 3) := by decide +kernel
theorem dX0_losses_29 : decode cX0_losses 29 = .ok (.getfield 153, 3) := by decide +kernel
theorem dX0_losses_32 : decode cX0_losses 32 = .ok (.iload_n 2, 1) := by decide +kernel
theorem dX0_losses_33 : decode cX0_losses 33 = .ok (.iaload, 1) := by decide +kernel
theorem dX0_losses_34 : decode cX0_losses 34 = .ok (.imul, 1) := by decide +kernel
theorem dX0_losses_35 : decode cX0_losses 35 = .ok (.iadd, 1) := by decide +kernel
theorem dX0_losses_36 : decode cX0_losses 36 = .ok (.istore_n 1, 1) := by decide +kernel
theorem dX0_losses_37 : decode cX0_losses 37 = .ok (.iinc 2 1, 3) := by decide +kernel
theorem dX0_losses_40 : decode cX0_losses 40 = .ok (.goto (-36), 3) := by decide +kernel
theorem dX0_losses_43 : decode cX0_losses 43 = .ok (.iload_n 1, 1) := by decide +kernel
theorem dX0_losses_44 : decode cX0_losses 44 = .ok (.ireturn, 1) := by decide +kernel
theorem dX0_cost_0 : decode cX0_cost 0 = .ok (.aload_n 0, 1) := by decide +kernel
theorem dX0_cost_1 : decode cX0_cost 1 = .ok (.invokevirtual 156, 3) := by decide +kernel
theorem dX0_cost_4 : decode cX0_cost 4 = .ok (.bipush 10, 2) := by decide +kernel
theorem dX0_cost_6 : decode cX0_cost 6 = .ok (.imul, 1) := by decide +kernel
theorem dX0_cost_7 : decode cX0_cost 7 = .ok (.aload_n 0, 1) := by decide +kernel
theorem dX0_cost_8 : decode cX0_cost 8 = .ok (.invokevirtual 160, 3) := by decide +kernel
theorem dX0_cost_11 : decode cX0_cost 11 = .ok (.iadd, 1) := by decide +kernel
theorem dX0_cost_12 : decode cX0_cost 12 = .ok (.ireturn, 1) := by decide +kernel
theorem dX0_howMany_0 : decode cX0_howMany 0 = .ok (.iconst 0, 1) := by decide +kernel
theorem dX0_howMany_1 : decode cX0_howMany 1 = .ok (.istore_n 2, 1) := by decide +kernel
theorem dX0_howMany_2 : decode cX0_howMany 2 = .ok (.iconst 0, 1) := by decide +kernel
theorem dX0_howMany_3 : decode cX0_howMany 3 = .ok (.istore_n 3, 1) := by decide +kernel
theorem dX0_howMany_4 : decode cX0_howMany 4 = .ok (.iload_n 3, 1) := by decide +kernel
theorem dX0_howMany_5 : decode cX0_howMany 5 = .ok (.aload_n 0, 1) := by decide +kernel
theorem dX0_howMany_6 : decode cX0_howMany 6 = .ok (.getfield 27, 3) := by decide +kernel
theorem dX0_howMany_9 : decode cX0_howMany 9 = .ok (.getfield 40, 3) := by decide +kernel
theorem dX0_howMany_12 : decode cX0_howMany 12 = .ok (.if_icmp .ge 25, 3) := by decide +kernel
theorem dX0_howMany_15 : decode cX0_howMany 15 = .ok (.aload_n 0, 1) := by decide +kernel
theorem dX0_howMany_16 : decode cX0_howMany 16 = .ok (.getfield 19, 3) := by decide +kernel
theorem dX0_howMany_19 : decode cX0_howMany 19 = .ok (.iload_n 3, 1) := by decide +kernel
theorem dX0_howMany_20 : decode cX0_howMany 20 = .ok (.aaload, 1) := by decide +kernel
theorem dX0_howMany_21 : decode cX0_howMany 21 = .ok (.getfield 61, 3) := by decide +kernel
theorem dX0_howMany_24 : decode cX0_howMany 24 = .ok (.iload_n 1, 1) := by decide +kernel
theorem dX0_howMany_25 : decode cX0_howMany 25 = .ok (.if_icmp .ne 6, 3) := by decide +kernel
theorem dX0_howMany_28 : decode cX0_howMany 28 = .ok (.iinc 2 1, 3) := by decide +kernel
theorem dX0_howMany_31 : decode cX0_howMany 31 = .ok (.iinc 3 1, 3) := by decide +kernel
theorem dX0_howMany_34 : decode cX0_howMany 34 = .ok (.goto (-30), 3) := by decide +kernel
theorem dX0_howMany_37 : decode cX0_howMany 37 = .ok (.iload_n 2, 1) := by decide +kernel
theorem dX0_howMany_38 : decode cX0_howMany 38 = .ok (.ireturn, 1) := by decide +kernel
theorem dX0_end_0 : decode cX0_end 0 = .ok (.iconst 0, 1) := by decide +kernel
theorem dX0_end_1 : decode cX0_end 1 = .ok (.istore_n 1, 1) := by decide +kernel
theorem dX0_end_2 : decode cX0_end 2 = .ok (.iconst 0, 1) := by decide +kernel
theorem dX0_end_3 : decode cX0_end 3 = .ok (.istore_n 2, 1) := by decide +kernel
theorem dX0_end_4 : decode cX0_end 4 = .ok (.iload_n 2, 1) := by decide +kernel
theorem dX0_end_5 : decode cX0_end 5 = .ok (.aload_n 0, 1) := by decide +kernel
theorem dX0_end_6 : decode cX0_end 6 = .ok (.getfield 27, 3) := by decide +kernel
theorem dX0_end_9 : decode cX0_end 9 = .ok (.getfield 40, 3) := by decide +kernel
theorem dX0_end_12 : decode cX0_end 12 = .ok (.if_icmp .ge 23, 3) := by decide +kernel
theorem dX0_end_15 : decode cX0_end 15 = .ok (.iload_n 1, 1) := by decide +kernel
theorem dX0_end_16 : decode cX0_end 16 = .ok (.aload_n 0, 1) := by decide +kernel
theorem dX0_end_17 : decode cX0_end 17 = .ok (.getfield 19, 3) := by decide +kernel
theorem dX0_end_20 : decode cX0_end 20 = .ok (.iload_n 2, 1) := by decide +kernel
theorem dX0_end_21 : decode cX0_end 21 = .ok (.aaload, 1) := by decide +kernel
theorem dX0_end_22 : decode cX0_end 22 = .ok (.getfield 111, 3) := by decide +kernel
theorem dX0_end_25 : decode cX0_end 25 = .ok (.invokestatic 128, 3) := by decide +kernel
theorem dX0_end_28 : decode cX0_end 28 = .ok (.istore_n 1, 1) := by decide +kernel
theorem dX0_end_29 : decode cX0_end 29 = .ok (.iinc 2 1, 3) := by decide +kernel
theorem dX0_end_32 : decode cX0_end 32 = .ok (.goto (-28), 3) := by decide +kernel
theorem dX0_end_35 : decode cX0_end 35 = .ok (.iload_n 1, 1) := by decide +kernel
theorem dX0_end_36 : decode cX0_end 36 = .ok (.ireturn, 1) := by decide +kernel
theorem dX1_init_0 : decode cX1_init 0 = .ok (.aload_n 0, 1) := by decide +kernel
theorem dX1_init_1 : decode cX1_init 1 = .ok (.invokespecial 3, 3) := by decide +kernel
theorem dX1_init_4 : decode cX1_init 4 = .ok (.aload_n 0, 1) := by decide +kernel
theorem dX1_init_5 : decode cX1_init 5 = .ok (.iconst 2, 1) := by decide +kernel
theorem dX1_init_6 : decode cX1_init 6 = .ok (.newarray .int, 2) := by decide +kernel
theorem dX1_init_8 : decode cX1_init 8 = .ok (.putfield 9, 3) := by decide +kernel
theorem dX1_init_11 : decode cX1_init 11 = .ok (.aload_n 0, 1) := by decide +kernel
theorem dX1_init_12 : decode cX1_init 12 = .ok (.iconst 2, 1) := by decide +kernel
theorem dX1_init_13 : decode cX1_init 13 = .ok (.newarray .int, 2) := by decide +kernel
theorem dX1_init_15 : decode cX1_init 15 = .ok (.putfield 15, 3) := by decide +kernel
theorem dX1_init_18 : decode cX1_init 18 = .ok (.aload_n 0, 1) := by decide +kernel
theorem dX1_init_19 : decode cX1_init 19 = .ok (.bipush 6, 2) := by decide +kernel
theorem dX1_init_21 : decode cX1_init 21 = .ok (.newarray .int, 2) := by decide +kernel
theorem dX1_init_23 : decode cX1_init 23 = .ok (.putfield 18, 3) := by decide +kernel
theorem dX1_init_26 : decode cX1_init 26 = .ok (.aload_n 0, 1) := by decide +kernel
theorem dX1_init_27 : decode cX1_init 27 = .ok (.bipush 6, 2) := by decide +kernel
theorem dX1_init_29 : decode cX1_init 29 = .ok (.newarray .int, 2) := by decide +kernel
theorem dX1_init_31 : decode cX1_init 31 = .ok (.putfield 21, 3) := by decide +kernel
theorem dX1_init_34 : decode cX1_init 34 = .ok (.aload_n 0, 1) := by decide +kernel
theorem dX1_init_35 : decode cX1_init 35 = .ok (.bipush 6, 2) := by decide +kernel
theorem dX1_init_37 : decode cX1_init 37 = .ok (.newarray .int, 2) := by decide +kernel
theorem dX1_init_39 : decode cX1_init 39 = .ok (.putfield 24, 3) := by decide +kernel
theorem dX1_init_42 : decode cX1_init 42 = .ok (.aload_n 0, 1) := by decide +kernel
theorem dX1_init_43 : decode cX1_init 43 = .ok (.bipush 6, 2) := by decide +kernel
theorem dX1_init_45 : decode cX1_init 45 = .ok (.newarray .int, 2) := by decide +kernel
theorem dX1_init_47 : decode cX1_init 47 = .ok (.putfield 27, 3) := by decide +kernel
theorem dX1_init_50 : decode cX1_init 50 = .ok (.aload_n 0, 1) := by decide +kernel
theorem dX1_init_51 : decode cX1_init 51 = .ok (.iconst 0, 1) := by decide +kernel
theorem dX1_init_52 : decode cX1_init 52 = .ok (.putfield 30, 3) := by decide +kernel
theorem dX1_init_55 : decode cX1_init 55 = .ok (.aload_n 0, 1) := by decide +kernel
theorem dX1_init_56 : decode cX1_init 56 = .ok (.invokevirtual 34, 3) := by decide +kernel
theorem dX1_init_59 : decode cX1_init 59 = .ok (.return_, 1) := by decide +kernel
theorem dX1_makeUntold_0 : decode cX1_makeUntold 0 = .ok (.aload_n 0, 1) := by decide +kernel
theorem dX1_makeUntold_1 : decode cX1_makeUntold 1 = .ok (.getfield 9, 3) := by decide +kernel
theorem dX1_makeUntold_4 : decode cX1_makeUntold 4 = .ok (.iconst 2, 1) := by decide +kernel
theorem dX1_makeUntold_5 : decode cX1_makeUntold 5 = .ok (.invokestatic 37, 3) := by decide +kernel
theorem dX1_makeUntold_8 : decode cX1_makeUntold 8 = .ok (.aload_n 0, 1) := by decide +kernel
theorem dX1_makeUntold_9 : decode cX1_makeUntold 9 = .ok (.getfield 15, 3) := by decide +kernel
theorem dX1_makeUntold_12 : decode cX1_makeUntold 12 = .ok (.iconst 3, 1) := by decide +kernel
theorem dX1_makeUntold_13 : decode cX1_makeUntold 13 = .ok (.invokestatic 37, 3) := by decide +kernel
theorem dX1_makeUntold_16 : decode cX1_makeUntold 16 = .ok (.aload_n 0, 1) := by decide +kernel
theorem dX1_makeUntold_17 : decode cX1_makeUntold 17 = .ok (.iconst 0, 1) := by decide +kernel
theorem dX1_makeUntold_18 : decode cX1_makeUntold 18 = .ok (.putfield 30, 3) := by decide +kernel
theorem dX1_makeUntold_21 : decode cX1_makeUntold 21 = .ok (.return_, 1) := by decide +kernel
theorem dX1_copyFrom_0 : decode cX1_copyFrom 0 = .ok (.aload_n 1, 1) := by decide +kernel
theorem dX1_copyFrom_1 : decode cX1_copyFrom 1 = .ok (.getfield 9, 3) := by decide +kernel
theorem dX1_copyFrom_4 : decode cX1_copyFrom 4 = .ok (.iconst 0, 1) := by decide +kernel
theorem dX1_copyFrom_5 : decode cX1_copyFrom 5 = .ok (.aload_n 0, 1) := by decide +kernel
theorem dX1_copyFrom_6 : decode cX1_copyFrom 6 = .ok (.getfield 9, 3) := by decide +kernel
theorem dX1_copyFrom_9 : decode cX1_copyFrom 9 = .ok (.iconst 0, 1) := by decide +kernel
theorem dX1_copyFrom_10 : decode cX1_copyFrom 10 = .ok (.iconst 2, 1) := by decide +kernel
theorem dX1_copyFrom_11 : decode cX1_copyFrom 11 = .ok (.invokestatic 43, 3) := by decide +kernel
theorem dX1_copyFrom_14 : decode cX1_copyFrom 14 = .ok (.aload_n 1, 1) := by decide +kernel
theorem dX1_copyFrom_15 : decode cX1_copyFrom 15 = .ok (.getfield 15, 3) := by decide +kernel
theorem dX1_copyFrom_18 : decode cX1_copyFrom 18 = .ok (.iconst 0, 1) := by decide +kernel
theorem dX1_copyFrom_19 : decode cX1_copyFrom 19 = .ok (.aload_n 0, 1) := by decide +kernel
theorem dX1_copyFrom_20 : decode cX1_copyFrom 20 = .ok (.getfield 15, 3) := by decide +kernel
theorem dX1_copyFrom_23 : decode cX1_copyFrom 23 = .ok (.iconst 0, 1) := by decide +kernel
theorem dX1_copyFrom_24 : decode cX1_copyFrom 24 = .ok (.iconst 2, 1) := by decide +kernel
theorem dX1_copyFrom_25 : decode cX1_copyFrom 25 = .ok (.invokestatic 43, 3) := by decide +kernel
theorem dX1_copyFrom_28 : decode cX1_copyFrom 28 = .ok (.aload_n 1, 1) := by decide +kernel
theorem dX1_copyFrom_29 : decode cX1_copyFrom 29 = .ok (.getfield 18, 3) := by decide +kernel
theorem dX1_copyFrom_32 : decode cX1_copyFrom 32 = .ok (.iconst 0, 1) := by decide +kernel
theorem dX1_copyFrom_33 : decode cX1_copyFrom 33 = .ok (.aload_n 0, 1) := by decide +kernel
theorem dX1_copyFrom_34 : decode cX1_copyFrom 34 = .ok (.getfield 18, 3) := by decide +kernel
theorem dX1_copyFrom_37 : decode cX1_copyFrom 37 = .ok (.iconst 0, 1) := by decide +kernel
theorem dX1_copyFrom_38 : decode cX1_copyFrom 38 = .ok (.bipush 6, 2) := by decide +kernel
theorem dX1_copyFrom_40 : decode cX1_copyFrom 40 = .ok (.invokestatic 43, 3) := by decide +kernel
theorem dX1_copyFrom_43 : decode cX1_copyFrom 43 = .ok (.aload_n 1, 1) := by decide +kernel
theorem dX1_copyFrom_44 : decode cX1_copyFrom 44 = .ok (.getfield 21, 3) := by decide +kernel
theorem dX1_copyFrom_47 : decode cX1_copyFrom 47 = .ok (.iconst 0, 1) := by decide +kernel
theorem dX1_copyFrom_48 : decode cX1_copyFrom 48 = .ok (.aload_n 0, 1) := by decide +kernel
theorem dX1_copyFrom_49 : decode cX1_copyFrom 49 = .ok (.getfield 21, 3) := by decide +kernel
theorem dX1_copyFrom_52 : decode cX1_copyFrom 52 = .ok (.iconst 0, 1) := by decide +kernel
theorem dX1_copyFrom_53 : decode cX1_copyFrom 53 = .ok (.bipush 6, 2) := by decide +kernel
theorem dX1_copyFrom_55 : decode cX1_copyFrom 55 = .ok (.invokestatic 43, 3) := by decide +kernel
theorem dX1_copyFrom_58 : decode cX1_copyFrom 58 = .ok (.aload_n 1, 1) := by decide +kernel
theorem dX1_copyFrom_59 : decode cX1_copyFrom 59 = .ok (.getfield 24, 3) := by decide +kernel
theorem dX1_copyFrom_62 : decode cX1_copyFrom 62 = .ok (.iconst 0, 1) := by decide +kernel
theorem dX1_copyFrom_63 : decode cX1_copyFrom 63 = .ok (.aload_n 0, 1) := by decide +kernel
theorem dX1_copyFrom_64 : decode cX1_copyFrom 64 = .ok (.getfield 24, 3) := by decide +kernel
theorem dX1_copyFrom_67 : decode cX1_copyFrom 67 = .ok (.iconst 0, 1) := by decide +kernel
theorem dX1_copyFrom_68 : decode cX1_copyFrom 68 = .ok (.bipush 6, 2) := by decide +kernel
theorem dX1_copyFrom_70 : decode cX1_copyFrom 70 = .ok (.invokestatic 43, 3) := by decide +kernel
theorem dX1_copyFrom_73 : decode cX1_copyFrom 73 = .ok (.aload_n 1, 1) := by decide +kernel
theorem dX1_copyFrom_74 : decode cX1_copyFrom 74 = .ok (.getfield 27, 3) := by decide +kernel
theorem dX1_copyFrom_77 : decode cX1_copyFrom 77 = .ok (.iconst 0, 1) := by decide +kernel
theorem dX1_copyFrom_78 : decode cX1_copyFrom 78 = .ok (.aload_n 0, 1) := by decide +kernel
theorem dX1_copyFrom_79 : decode cX1_copyFrom 79 = .ok (.getfield 27, 3) := by decide +kernel
theorem dX1_copyFrom_82 : decode cX1_copyFrom 82 = .ok (.iconst 0, 1) := by decide +kernel
theorem dX1_copyFrom_83 : decode cX1_copyFrom 83 = .ok (.bipush 6, 2) := by decide +kernel
theorem dX1_copyFrom_85 : decode cX1_copyFrom 85 = .ok (.invokestatic 43, 3) := by decide +kernel
theorem dX1_copyFrom_88 : decode cX1_copyFrom 88 = .ok (.aload_n 0, 1) := by decide +kernel
theorem dX1_copyFrom_89 : decode cX1_copyFrom 89 = .ok (.aload_n 1, 1) := by decide +kernel
theorem dX1_copyFrom_90 : decode cX1_copyFrom 90 = .ok (.getfield 30, 3) := by decide +kernel
theorem dX1_copyFrom_93 : decode cX1_copyFrom 93 = .ok (.putfield 30, 3) := by decide +kernel
theorem dX1_copyFrom_96 : decode cX1_copyFrom 96 = .ok (.return_, 1) := by decide +kernel
theorem dX2_init_0 : decode cX2_init 0 = .ok (.aload_n 0, 1) := by decide +kernel
theorem dX2_init_1 : decode cX2_init 1 = .ok (.invokespecial 1, 3) := by decide +kernel
theorem dX2_init_4 : decode cX2_init 4 = .ok (.aload_n 0, 1) := by decide +kernel
theorem dX2_init_5 : decode cX2_init 5 = .ok (.new 7, 3) := by decide +kernel
theorem dX2_init_8 : decode cX2_init 8 = .ok (.dup, 1) := by decide +kernel
theorem dX2_init_9 : decode cX2_init 9 = .ok (.invokespecial 9, 3) := by decide +kernel
theorem dX2_init_12 : decode cX2_init 12 = .ok (.putfield 10, 3) := by decide +kernel
theorem dX2_init_15 : decode cX2_init 15 = .ok (.aload_n 0, 1) := by decide +kernel
theorem dX2_init_16 : decode cX2_init 16 = .ok (.lconst 0, 1) := by decide +kernel
theorem dX2_init_17 : decode cX2_init 17 = .ok (.putfield 16, 3) := by decide +kernel
theorem dX2_init_20 : decode cX2_init 20 = .ok (.aload_n 0, 1) := by decide +kernel
theorem dX2_init_21 : decode cX2_init 21 = .ok (.iconst 0, 1) := by decide +kernel
theorem dX2_init_22 : decode cX2_init 22 = .ok (.putfield 20, 3) := by decide +kernel
theorem dX2_init_25 : decode cX2_init 25 = .ok (.return_, 1) := by decide +kernel
theorem dX3_init_0 : decode cX3_init 0 = .ok (.aload_n 0, 1) := by decide +kernel
theorem dX3_init_1 : decode cX3_init 1 = .ok (.invokespecial 3, 3) := by decide +kernel
theorem dX3_init_4 : decode cX3_init 4 = .ok (.aload_n 0, 1) := by decide +kernel
theorem dX3_init_5 : decode cX3_init 5 = .ok (.iconst 0, 1) := by decide +kernel
theorem dX3_init_6 : decode cX3_init 6 = .ok (.putfield 9, 3) := by decide +kernel
theorem dX3_init_9 : decode cX3_init 9 = .ok (.aload_n 0, 1) := by decide +kernel
theorem dX3_init_10 : decode cX3_init 10 = .ok (.iconst 0, 1) := by decide +kernel
theorem dX3_init_11 : decode cX3_init 11 = .ok (.putfield 15, 3) := by decide +kernel
theorem dX3_init_14 : decode cX3_init 14 = .ok (.aload_n 0, 1) := by decide +kernel
theorem dX3_init_15 : decode cX3_init 15 = .ok (.iconst 0, 1) := by decide +kernel
theorem dX3_init_16 : decode cX3_init 16 = .ok (.putfield 18, 3) := by decide +kernel
theorem dX3_init_19 : decode cX3_init 19 = .ok (.aload_n 0, 1) := by decide +kernel
theorem dX3_init_20 : decode cX3_init 20 = .ok (.iconst 0, 1) := by decide +kernel
theorem dX3_init_21 : decode cX3_init 21 = .ok (.putfield 21, 3) := by decide +kernel
theorem dX3_init_24 : decode cX3_init 24 = .ok (.aload_n 0, 1) := by decide +kernel
theorem dX3_init_25 : decode cX3_init 25 = .ok (.iconst 0, 1) := by decide +kernel
theorem dX3_init_26 : decode cX3_init 26 = .ok (.putfield 24, 3) := by decide +kernel
theorem dX3_init_29 : decode cX3_init 29 = .ok (.aload_n 0, 1) := by decide +kernel
theorem dX3_init_30 : decode cX3_init 30 = .ok (.iconst 0, 1) := by decide +kernel
theorem dX3_init_31 : decode cX3_init 31 = .ok (.putfield 27, 3) := by decide +kernel
theorem dX3_init_34 : decode cX3_init 34 = .ok (.return_, 1) := by decide +kernel
theorem dX3_crash_0 : decode cX3_crash 0 = .ok (.aload_n 0, 1) := by decide +kernel
theorem dX3_crash_1 : decode cX3_crash 1 = .ok (.bipush 6, 2) := by decide +kernel
theorem dX3_crash_3 : decode cX3_crash 3 = .ok (.putfield 9, 3) := by decide +kernel
theorem dX3_crash_6 : decode cX3_crash 6 = .ok (.aload_n 0, 1) := by decide +kernel
theorem dX3_crash_7 : decode cX3_crash 7 = .ok (.iconst 1, 1) := by decide +kernel
theorem dX3_crash_8 : decode cX3_crash 8 = .ok (.putfield 27, 3) := by decide +kernel
theorem dX3_crash_11 : decode cX3_crash 11 = .ok (.return_, 1) := by decide +kernel
theorem dX4_init_0 : decode cX4_init 0 = .ok (.aload_n 0, 1) := by decide +kernel
theorem dX4_init_1 : decode cX4_init 1 = .ok (.invokespecial 3, 3) := by decide +kernel
theorem dX4_init_4 : decode cX4_init 4 = .ok (.aload_n 0, 1) := by decide +kernel
theorem dX4_init_5 : decode cX4_init 5 = .ok (.bipush 6, 2) := by decide +kernel
theorem dX4_init_7 : decode cX4_init 7 = .ok (.newarray .int, 2) := by decide +kernel
theorem dX4_init_9 : decode cX4_init 9 = .ok (.putfield 9, 3) := by decide +kernel
theorem dX4_init_12 : decode cX4_init 12 = .ok (.aload_n 0, 1) := by decide +kernel
theorem dX4_init_13 : decode cX4_init 13 = .ok (.bipush 6, 2) := by decide +kernel
theorem dX4_init_15 : decode cX4_init 15 = .ok (.newarray .int, 2) := by decide +kernel
theorem dX4_init_17 : decode cX4_init 17 = .ok (.putfield 15, 3) := by decide +kernel
theorem dX4_init_20 : decode cX4_init 20 = .ok (.aload_n 0, 1) := by decide +kernel
theorem dX4_init_21 : decode cX4_init 21 = .ok (.bipush 6, 2) := by decide +kernel
theorem dX4_init_23 : decode cX4_init 23 = .ok (.newarray .int, 2) := by decide +kernel
theorem dX4_init_25 : decode cX4_init 25 = .ok (.putfield 18, 3) := by decide +kernel
theorem dX4_init_28 : decode cX4_init 28 = .ok (.aload_n 0, 1) := by decide +kernel
theorem dX4_init_29 : decode cX4_init 29 = .ok (.iconst 0, 1) := by decide +kernel
theorem dX4_init_30 : decode cX4_init 30 = .ok (.putfield 21, 3) := by decide +kernel
theorem dX4_init_33 : decode cX4_init 33 = .ok (.aload_n 0, 1) := by decide +kernel
theorem dX4_init_34 : decode cX4_init 34 = .ok (.bipush 9, 2) := by decide +kernel
theorem dX4_init_36 : decode cX4_init 36 = .ok (.putfield 25, 3) := by decide +kernel
theorem dX4_init_39 : decode cX4_init 39 = .ok (.return_, 1) := by decide +kernel
theorem dX4_makeUntold_0 : decode cX4_makeUntold 0 = .ok (.aload_n 0, 1) := by decide +kernel
theorem dX4_makeUntold_1 : decode cX4_makeUntold 1 = .ok (.iconst 0, 1) := by decide +kernel
theorem dX4_makeUntold_2 : decode cX4_makeUntold 2 = .ok (.putfield 21, 3) := by decide +kernel
theorem dX4_makeUntold_5 : decode cX4_makeUntold 5 = .ok (.aload_n 0, 1) := by decide +kernel
theorem dX4_makeUntold_6 : decode cX4_makeUntold 6 = .ok (.bipush 9, 2) := by decide +kernel
theorem dX4_makeUntold_8 : decode cX4_makeUntold 8 = .ok (.putfield 25, 3) := by decide +kernel
theorem dX4_makeUntold_11 : decode cX4_makeUntold 11 = .ok (.return_, 1) := by decide +kernel
theorem dX4_copyFrom_0 : decode cX4_copyFrom 0 = .ok (.aload_n 1, 1) := by decide +kernel
theorem dX4_copyFrom_1 : decode cX4_copyFrom 1 = .ok (.getfield 9, 3) := by decide +kernel
theorem dX4_copyFrom_4 : decode cX4_copyFrom 4 = .ok (.iconst 0, 1) := by decide +kernel
theorem dX4_copyFrom_5 : decode cX4_copyFrom 5 = .ok (.aload_n 0, 1) := by decide +kernel
theorem dX4_copyFrom_6 : decode cX4_copyFrom 6 = .ok (.getfield 9, 3) := by decide +kernel
theorem dX4_copyFrom_9 : decode cX4_copyFrom 9 = .ok (.iconst 0, 1) := by decide +kernel
theorem dX4_copyFrom_10 : decode cX4_copyFrom 10 = .ok (.bipush 6, 2) := by decide +kernel
theorem dX4_copyFrom_12 : decode cX4_copyFrom 12 = .ok (.invokestatic 28, 3) := by decide +kernel
theorem dX4_copyFrom_15 : decode cX4_copyFrom 15 = .ok (.aload_n 1, 1) := by decide +kernel
theorem dX4_copyFrom_16 : decode cX4_copyFrom 16 = .ok (.getfield 15, 3) := by decide +kernel
theorem dX4_copyFrom_19 : decode cX4_copyFrom 19 = .ok (.iconst 0, 1) := by decide +kernel
theorem dX4_copyFrom_20 : decode cX4_copyFrom 20 = .ok (.aload_n 0, 1) := by decide +kernel
theorem dX4_copyFrom_21 : decode cX4_copyFrom 21 = .ok (.getfield 15, 3) := by decide +kernel
theorem dX4_copyFrom_24 : decode cX4_copyFrom 24 = .ok (.iconst 0, 1) := by decide +kernel
theorem dX4_copyFrom_25 : decode cX4_copyFrom 25 = .ok (.bipush 6, 2) := by decide +kernel
theorem dX4_copyFrom_27 : decode cX4_copyFrom 27 = .ok (.invokestatic 28, 3) := by decide +kernel
theorem dX4_copyFrom_30 : decode cX4_copyFrom 30 = .ok (.aload_n 1, 1) := by decide +kernel
theorem dX4_copyFrom_31 : decode cX4_copyFrom 31 = .ok (.getfield 18, 3) := by decide +kernel
theorem dX4_copyFrom_34 : decode cX4_copyFrom 34 = .ok (.iconst 0, 1) := by decide +kernel
theorem dX4_copyFrom_35 : decode cX4_copyFrom 35 = .ok (.aload_n 0, 1) := by decide +kernel
theorem dX4_copyFrom_36 : decode cX4_copyFrom 36 = .ok (.getfield 18, 3) := by decide +kernel
theorem dX4_copyFrom_39 : decode cX4_copyFrom 39 = .ok (.iconst 0, 1) := by decide +kernel
theorem dX4_copyFrom_40 : decode cX4_copyFrom 40 = .ok (.bipush 6, 2) := by decide +kernel
theorem dX4_copyFrom_42 : decode cX4_copyFrom 42 = .ok (.invokestatic 28, 3) := by decide +kernel
theorem dX4_copyFrom_45 : decode cX4_copyFrom 45 = .ok (.aload_n 0, 1) := by decide +kernel
theorem dX4_copyFrom_46 : decode cX4_copyFrom 46 = .ok (.aload_n 1, 1) := by decide +kernel
theorem dX4_copyFrom_47 : decode cX4_copyFrom 47 = .ok (.getfield 21, 3) := by decide +kernel
theorem dX4_copyFrom_50 : decode cX4_copyFrom 50 = .ok (.putfield 21, 3) := by decide +kernel
theorem dX4_copyFrom_53 : decode cX4_copyFrom 53 = .ok (.aload_n 0, 1) := by decide +kernel
theorem dX4_copyFrom_54 : decode cX4_copyFrom 54 = .ok (.aload_n 1, 1) := by decide +kernel
theorem dX4_copyFrom_55 : decode cX4_copyFrom 55 = .ok (.getfield 25, 3) := by decide +kernel
theorem dX4_copyFrom_58 : decode cX4_copyFrom 58 = .ok (.putfield 25, 3) := by decide +kernel
theorem dX4_copyFrom_61 : decode cX4_copyFrom 61 = .ok (.return_, 1) := by decide +kernel
theorem dX5_init_0 : decode cX5_init 0 = .ok (.aload_n 0, 1) := by decide +kernel
theorem dX5_init_1 : decode cX5_init 1 = .ok (.invokespecial 3, 3) := by decide +kernel
theorem dX5_init_4 : decode cX5_init 4 = .ok (.aload_n 0, 1) := by decide +kernel
theorem dX5_init_5 : decode cX5_init 5 = .ok (.new 9, 3) := by decide +kernel
theorem dX5_init_8 : decode cX5_init 8 = .ok (.dup, 1) := by decide +kernel
theorem dX5_init_9 : decode cX5_init 9 = .ok (.invokespecial 11, 3) := by decide +kernel
theorem dX5_init_12 : decode cX5_init 12 = .ok (.putfield 12, 3) := by decide +kernel
theorem dX5_init_15 : decode cX5_init 15 = .ok (.aload_n 0, 1) := by decide +kernel
theorem dX5_init_16 : decode cX5_init 16 = .ok (.new 18, 3) := by decide +kernel
theorem dX5_init_19 : decode cX5_init 19 = .ok (.dup, 1) := by decide +kernel
theorem dX5_init_20 : decode cX5_init 20 = .ok (.invokespecial 20, 3) := by decide +kernel
theorem dX5_init_23 : decode cX5_init 23 = .ok (.putfield 21, 3) := by decide +kernel
theorem dX5_init_26 : decode cX5_init 26 = .ok (.aload_n 0, 1) := by decide +kernel
theorem dX5_init_27 : decode cX5_init 27 = .ok (.sipush 250, 3) := by decide +kernel
theorem dX5_init_30 : decode cX5_init 30 = .ok (.newarray .int, 2) := by decide +kernel
theorem dX5_init_32 : decode cX5_init 32 = .ok (.putfield 25, 3) := by decide +kernel
theorem dX5_init_35 : decode cX5_init 35 = .ok (.aload_n 0, 1) := by decide +kernel
theorem dX5_init_36 : decode cX5_init 36 = .ok (.iconst 2, 1) := by decide +kernel
theorem dX5_init_37 : decode cX5_init 37 = .ok (.newarray .int, 2) := by decide +kernel
theorem dX5_init_39 : decode cX5_init 39 = .ok (.putfield 29, 3) := by decide +kernel
theorem dX5_init_42 : decode cX5_init 42 = .ok (.aload_n 0, 1) := by decide +kernel
theorem dX5_init_43 : decode cX5_init 43 = .ok (.iconst 0, 1) := by decide +kernel
theorem dX5_init_44 : decode cX5_init 44 = .ok (.putfield 32, 3) := by decide +kernel
theorem dX5_init_47 : decode cX5_init 47 = .ok (.aload_n 0, 1) := by decide +kernel
theorem dX5_init_48 : decode cX5_init 48 = .ok (.iconst 0, 1) := by decide +kernel
theorem dX5_init_49 : decode cX5_init 49 = .ok (.putfield 36, 3) := by decide +kernel
theorem dX5_init_52 : decode cX5_init 52 = .ok (.aload_n 0, 1) := by decide +kernel
theorem dX5_init_53 : decode cX5_init 53 = .ok (.iconst (-1), 1) := by decide +kernel
theorem dX5_init_54 : decode cX5_init 54 = .ok (.putfield 39, 3) := by decide +kernel
theorem dX5_init_57 : decode cX5_init 57 = .ok (.aload_n 0, 1) := by decide +kernel
theorem dX5_init_58 : decode cX5_init 58 = .ok (.iconst 0, 1) := by decide +kernel
theorem dX5_init_59 : decode cX5_init 59 = .ok (.putfield 42, 3) := by decide +kernel
theorem dX5_init_62 : decode cX5_init 62 = .ok (.aload_n 0, 1) := by decide +kernel
theorem dX5_init_63 : decode cX5_init 63 = .ok (.iconst 0, 1) := by decide +kernel
theorem dX5_init_64 : decode cX5_init 64 = .ok (.putfield 45, 3) := by decide +kernel
theorem dX5_init_67 : decode cX5_init 67 = .ok (.aload_n 0, 1) := by decide +kernel
theorem dX5_init_68 : decode cX5_init 68 = .ok (.iconst 0, 1) := by decide +kernel
theorem dX5_init_69 : decode cX5_init 69 = .ok (.putfield 48, 3) := by decide +kernel
theorem dX5_init_72 : decode cX5_init 72 = .ok (.aload_n 0, 1) := by decide +kernel
theorem dX5_init_73 : decode cX5_init 73 = .ok (.iconst 0, 1) := by decide +kernel
theorem dX5_init_74 : decode cX5_init 74 = .ok (.putfield 52, 3) := by decide +kernel
theorem dX5_init_77 : decode cX5_init 77 = .ok (.return_, 1) := by decide +kernel
theorem dX5_take_0 : decode cX5_take 0 = .ok (.aload_n 0, 1) := by decide +kernel
theorem dX5_take_1 : decode cX5_take 1 = .ok (.getfield 32, 3) := by decide +kernel
theorem dX5_take_4 : decode cX5_take 4 = .ok (.sipush 250, 3) := by decide +kernel
theorem dX5_take_7 : decode cX5_take 7 = .ok (.if_icmp .ge 23, 3) := by decide +kernel
theorem dX5_take_10 : decode cX5_take 10 = .ok (.aload_n 0, 1) := by decide +kernel
theorem dX5_take_11 : decode cX5_take 11 = .ok (.getfield 25, 3) := by decide +kernel
theorem dX5_take_14 : decode cX5_take 14 = .ok (.aload_n 0, 1) := by decide +kernel
theorem dX5_take_15 : decode cX5_take 15 = .ok (.getfield 32, 3) := by decide +kernel
theorem dX5_take_18 : decode cX5_take 18 = .ok (.iload_n 1, 1) := by decide +kernel
theorem dX5_take_19 : decode cX5_take 19 = .ok (.iastore, 1) := by decide +kernel
theorem dX5_take_20 : decode cX5_take 20 = .ok (.aload_n 0, 1) := by decide +kernel
theorem dX5_take_21 : decode cX5_take 21 = .ok (.dup, 1) := by decide +kernel
theorem dX5_take_22 : decode cX5_take 22 = .ok (.getfield 32, 3) := by decide +kernel
theorem dX5_take_25 : decode cX5_take 25 = .ok (.iconst 1, 1) := by decide +kernel
theorem dX5_take_26 : decode cX5_take 26 = .ok (.iadd, 1) := by decide +kernel
theorem dX5_take_27 : decode cX5_take 27 = .ok (.putfield 32, 3) := by decide +kernel
theorem dX5_take_30 : decode cX5_take 30 = .ok (.aload_n 0, 1) := by decide +kernel
theorem dX5_take_31 : decode cX5_take 31 = .ok (.getfield 32, 3) := by decide +kernel
theorem dX5_take_34 : decode cX5_take 34 = .ok (.ireturn, 1) := by decide +kernel
theorem dX5_read_0 : decode cX5_read 0 = .ok (.aload_n 0, 1) := by decide +kernel
theorem dX5_read_1 : decode cX5_read 1 = .ok (.getfield 12, 3) := by decide +kernel
theorem dX5_read_4 : decode cX5_read 4 = .ok (.invokevirtual 55, 3) := by decide +kernel
theorem dX5_read_7 : decode cX5_read 7 = .ok (.aload_n 0, 1) := by decide +kernel
theorem dX5_read_8 : decode cX5_read 8 = .ok (.getfield 21, 3) := by decide +kernel
theorem dX5_read_11 : decode cX5_read 11 = .ok (.invokevirtual 58, 3) := by decide +kernel
theorem dX5_read_14 : decode cX5_read 14 = .ok (.aload_n 0, 1) := by decide +kernel
theorem dX5_read_15 : decode cX5_read 15 = .ok (.getfield 29, 3) := by decide +kernel
theorem dX5_read_18 : decode cX5_read 18 = .ok (.iconst 0, 1) := by decide +kernel
theorem dX5_read_19 : decode cX5_read 19 = .ok (.invokestatic 59, 3) := by decide +kernel
theorem dX5_read_22 : decode cX5_read 22 = .ok (.aload_n 0, 1) := by decide +kernel
theorem dX5_read_23 : decode cX5_read 23 = .ok (.iconst 0, 1) := by decide +kernel
theorem dX5_read_24 : decode cX5_read 24 = .ok (.putfield 48, 3) := by decide +kernel
theorem dX5_read_27 : decode cX5_read 27 = .ok (.aload_n 0, 1) := by decide +kernel
theorem dX5_read_28 : decode cX5_read 28 = .ok (.iconst 0, 1) := by decide +kernel
theorem dX5_read_29 : decode cX5_read 29 = .ok (.putfield 52, 3) := by decide +kernel
theorem dX5_read_32 : decode cX5_read 32 = .ok (.aload_n 0, 1) := by decide +kernel
theorem dX5_read_33 : decode cX5_read 33 = .ok (.iconst 0, 1) := by decide +kernel
theorem dX5_read_34 : decode cX5_read 34 = .ok (.putfield 36, 3) := by decide +kernel
theorem dX5_read_37 : decode cX5_read 37 = .ok (.aload_n 0, 1) := by decide +kernel
theorem dX5_read_38 : decode cX5_read 38 = .ok (.iconst (-1), 1) := by decide +kernel
theorem dX5_read_39 : decode cX5_read 39 = .ok (.putfield 39, 3) := by decide +kernel
theorem dX5_read_42 : decode cX5_read 42 = .ok (.aload_n 0, 1) := by decide +kernel
theorem dX5_read_43 : decode cX5_read 43 = .ok (.iconst 0, 1) := by decide +kernel
theorem dX5_read_44 : decode cX5_read 44 = .ok (.putfield 42, 3) := by decide +kernel
theorem dX5_read_47 : decode cX5_read 47 = .ok (.iconst 0, 1) := by decide +kernel
theorem dX5_read_48 : decode cX5_read 48 = .ok (.istore_n 1, 1) := by decide +kernel
theorem dX5_read_49 : decode cX5_read 49 = .ok (.iload_n 1, 1) := by decide +kernel
theorem dX5_read_50 : decode cX5_read 50 = .ok (.sipush 250, 3) := by decide +kernel
theorem dX5_read_53 : decode cX5_read 53 = .ok (.if_icmp .ge 47, 3) := by decide +kernel
theorem dX5_read_56 : decode cX5_read 56 = .ok (.aload_n 0, 1) := by decide +kernel
theorem dX5_read_57 : decode cX5_read 57 = .ok (.getfield 36, 3) := by decide +kernel
theorem dX5_read_60 : decode cX5_read 60 = .ok (.ifCond .ne 40, 3) := by decide +kernel
theorem dX5_read_63 : decode cX5_read 63 = .ok (.aload_n 0, 1) := by decide +kernel
theorem dX5_read_64 : decode cX5_read 64 = .ok (.invokevirtual 65, 3) := by decide +kernel
theorem dX5_read_67 : decode cX5_read 67 = .ok (.aload_n 0, 1) := by decide +kernel
theorem dX5_read_68 : decode cX5_read 68 = .ok (.getfield 42, 3) := by decide +kernel
theorem dX5_read_71 : decode cX5_read 71 = .ok (.aload_n 0, 1) := by decide +kernel
theorem dX5_read_72 : decode cX5_read 72 = .ok (.getfield 32, 3) := by decide +kernel
theorem dX5_read_75 : decode cX5_read 75 = .ok (.if_icmp .lt 6, 3) := by decide +kernel
theorem dX5_read_78 : decode cX5_read 78 = .ok (.goto 22, 3) := by decide +kernel
theorem dX5_read_81 : decode cX5_read 81 = .ok (.aload_n 0, 1) := by decide +kernel
theorem dX5_read_82 : decode cX5_read 82 = .ok (.aload_n 0, 1) := by decide +kernel
theorem dX5_read_83 : decode cX5_read 83 = .ok (.getfield 25, 3) := by decide +kernel
theorem dX5_read_86 : decode cX5_read 86 = .ok (.aload_n 0, 1) := by decide +kernel
theorem dX5_read_87 : decode cX5_read 87 = .ok (.getfield 42, 3) := by decide +kernel
theorem dX5_read_90 : decode cX5_read 90 = .ok (.iaload, 1) := by decide +kernel
theorem dX5_read_91 : decode cX5_read 91 = .ok (.invokevirtual 68, 3) := by decide +kernel
theorem dX5_read_94 : decode cX5_read 94 = .ok (.iinc 1 1, 3) := by decide +kernel
theorem dX5_read_97 : decode cX5_read 97 = .ok (.goto (-48), 3) := by decide +kernel
theorem dX5_read_100 : decode cX5_read 100 = .ok (.aload_n 0, 1) := by decide +kernel
theorem dX5_read_101 : decode cX5_read 101 = .ok (.iconst 0, 1) := by decide +kernel
theorem dX5_read_102 : decode cX5_read 102 = .ok (.putfield 32, 3) := by decide +kernel
theorem dX5_read_105 : decode cX5_read 105 = .ok (.return_, 1) := by decide +kernel
theorem dX5_readClause_0 : decode cX5_readClause 0 = .ok (.iload_n 1, 1) := by decide +kernel
theorem dX5_readClause_1 : decode cX5_readClause 1 = .ok (.lookupswitch 71 #[(103, 57), (108, 43), (110, 64), (119, 50)], 43) := by decide +kernel
theorem dX5_readClause_44 : decode cX5_readClause 44 = .ok (.aload_n 0, 1) := by decide +kernel
theorem dX5_readClause_45 : decode cX5_readClause 45 = .ok (.invokevirtual 72, 3) := by decide +kernel
theorem dX5_readClause_48 : decode cX5_readClause 48 = .ok (.goto 33, 3) := by decide +kernel
theorem dX5_readClause_51 : decode cX5_readClause 51 = .ok (.aload_n 0, 1) := by decide +kernel
theorem dX5_readClause_52 : decode cX5_readClause 52 = .ok (.invokevirtual 75, 3) := by decide +kernel
theorem dX5_readClause_55 : decode cX5_readClause 55 = .ok (.goto 26, 3) := by decide +kernel
theorem dX5_readClause_58 : decode cX5_readClause 58 = .ok (.aload_n 0, 1) := by decide +kernel
theorem dX5_readClause_59 : decode cX5_readClause 59 = .ok (.invokevirtual 78, 3) := by decide +kernel
theorem dX5_readClause_62 : decode cX5_readClause 62 = .ok (.goto 19, 3) := by decide +kernel
theorem dX5_readClause_65 : decode cX5_readClause 65 = .ok (.aload_n 0, 1) := by decide +kernel
theorem dX5_readClause_66 : decode cX5_readClause 66 = .ok (.invokevirtual 81, 3) := by decide +kernel
theorem dX5_readClause_69 : decode cX5_readClause 69 = .ok (.goto 12, 3) := by decide +kernel
theorem dX5_readClause_72 : decode cX5_readClause 72 = .ok (.aload_n 0, 1) := by decide +kernel
theorem dX5_readClause_73 : decode cX5_readClause 73 = .ok (.iconst 1, 1) := by decide +kernel
theorem dX5_readClause_74 : decode cX5_readClause 74 = .ok (.aload_n 0, 1) := by decide +kernel
theorem dX5_readClause_75 : decode cX5_readClause 75 = .ok (.getfield 42, 3) := by decide +kernel
theorem dX5_readClause_78 : decode cX5_readClause 78 = .ok (.invokevirtual 84, 3) := by decide +kernel
theorem dX5_readClause_81 : decode cX5_readClause 81 = .ok (.return_, 1) := by decide +kernel
theorem dX5_readLeaf_0 : decode cX5_readLeaf 0 = .ok (.aload_n 0, 1) := by decide +kernel
theorem dX5_readLeaf_1 : decode cX5_readLeaf 1 = .ok (.dup, 1) := by decide +kernel
theorem dX5_readLeaf_2 : decode cX5_readLeaf 2 = .ok (.getfield 42, 3) := by decide +kernel
theorem dX5_readLeaf_5 : decode cX5_readLeaf 5 = .ok (.iconst 1, 1) := by decide +kernel
theorem dX5_readLeaf_6 : decode cX5_readLeaf 6 = .ok (.iadd, 1) := by decide +kernel
theorem dX5_readLeaf_7 : decode cX5_readLeaf 7 = .ok (.putfield 42, 3) := by decide +kernel
theorem dX5_readLeaf_10 : decode cX5_readLeaf 10 = .ok (.aload_n 0, 1) := by decide +kernel
theorem dX5_readLeaf_11 : decode cX5_readLeaf 11 = .ok (.iconst 0, 1) := by decide +kernel
theorem dX5_readLeaf_12 : decode cX5_readLeaf 12 = .ok (.iconst 1, 1) := by decide +kernel
theorem dX5_readLeaf_13 : decode cX5_readLeaf 13 = .ok (.invokevirtual 88, 3) := by decide +kernel
theorem dX5_readLeaf_16 : decode cX5_readLeaf 16 = .ok (.istore_n 1, 1) := by decide +kernel
theorem dX5_readLeaf_17 : decode cX5_readLeaf 17 = .ok (.aload_n 0, 1) := by decide +kernel
theorem dX5_readLeaf_18 : decode cX5_readLeaf 18 = .ok (.getfield 29, 3) := by decide +kernel
theorem dX5_readLeaf_21 : decode cX5_readLeaf 21 = .ok (.iload_n 1, 1) := by decide +kernel
theorem dX5_readLeaf_22 : decode cX5_readLeaf 22 = .ok (.iaload, 1) := by decide +kernel
theorem dX5_readLeaf_23 : decode cX5_readLeaf 23 = .ok (.iconst 1, 1) := by decide +kernel
theorem dX5_readLeaf_24 : decode cX5_readLeaf 24 = .ok (.if_icmp .ne 12, 3) := by decide +kernel
theorem dX5_readLeaf_27 : decode cX5_readLeaf 27 = .ok (.aload_n 0, 1) := by decide +kernel
theorem dX5_readLeaf_28 : decode cX5_readLeaf 28 = .ok (.iconst 4, 1) := by decide +kernel
theorem dX5_readLeaf_29 : decode cX5_readLeaf 29 = .ok (.aload_n 0, 1) := by decide +kernel
theorem dX5_readLeaf_30 : decode cX5_readLeaf 30 = .ok (.getfield 45, 3) := by decide +kernel
theorem dX5_readLeaf_33 : decode cX5_readLeaf 33 = .ok (.invokevirtual 84, 3) := by decide +kernel
theorem dX5_readLeaf_36 : decode cX5_readLeaf 36 = .ok (.aload_n 0, 1) := by decide +kernel
theorem dX5_readLeaf_37 : decode cX5_readLeaf 37 = .ok (.getfield 29, 3) := by decide +kernel
theorem dX5_readLeaf_40 : decode cX5_readLeaf 40 = .ok (.iload_n 1, 1) := by decide +kernel
theorem dX5_readLeaf_41 : decode cX5_readLeaf 41 = .ok (.iconst 1, 1) := by decide +kernel
theorem dX5_readLeaf_42 : decode cX5_readLeaf 42 = .ok (.iastore, 1) := by decide +kernel
theorem dX5_readLeaf_43 : decode cX5_readLeaf 43 = .ok (.aload_n 0, 1) := by decide +kernel
theorem dX5_readLeaf_44 : decode cX5_readLeaf 44 = .ok (.getfield 12, 3) := by decide +kernel
theorem dX5_readLeaf_47 : decode cX5_readLeaf 47 = .ok (.getfield 92, 3) := by decide +kernel
theorem dX5_readLeaf_50 : decode cX5_readLeaf 50 = .ok (.iload_n 1, 1) := by decide +kernel
theorem dX5_readLeaf_51 : decode cX5_readLeaf 51 = .ok (.aload_n 0, 1) := by decide +kernel
theorem dX5_readLeaf_52 : decode cX5_readLeaf 52 = .ok (.iconst 1, 1) := by decide +kernel
theorem dX5_readLeaf_53 : decode cX5_readLeaf 53 = .ok (.bipush 9, 2) := by decide +kernel
theorem dX5_readLeaf_55 : decode cX5_readLeaf 55 = .ok (.invokevirtual 88, 3) := by decide +kernel
theorem dX5_readLeaf_58 : decode cX5_readLeaf 58 = .ok (.iastore, 1) := by decide +kernel
theorem dX5_readLeaf_59 : decode cX5_readLeaf 59 = .ok (.aload_n 0, 1) := by decide +kernel
theorem dX5_readLeaf_60 : decode cX5_readLeaf 60 = .ok (.getfield 12, 3) := by decide +kernel
theorem dX5_readLeaf_63 : decode cX5_readLeaf 63 = .ok (.getfield 95, 3) := by decide +kernel
theorem dX5_readLeaf_66 : decode cX5_readLeaf 66 = .ok (.iload_n 1, 1) := by decide +kernel
theorem dX5_readLeaf_67 : decode cX5_readLeaf 67 = .ok (.aload_n 0, 1) := by decide +kernel
theorem dX5_readLeaf_68 : decode cX5_readLeaf 68 = .ok (.iconst 0, 1) := by decide +kernel
theorem dX5_readLeaf_69 : decode cX5_readLeaf 69 = .ok (.bipush 9, 2) := by decide +kernel
theorem dX5_readLeaf_71 : decode cX5_readLeaf 71 = .ok (.invokevirtual 88, 3) := by decide +kernel
theorem dX5_readLeaf_74 : decode cX5_readLeaf 74 = .ok (.iastore, 1) := by decide +kernel
theorem dX5_readLeaf_75 : decode cX5_readLeaf 75 = .ok (.aload_n 0, 1) := by decide +kernel
theorem dX5_readLeaf_76 : decode cX5_readLeaf 76 = .ok (.invokevirtual 98, 3) := by decide +kernel
theorem dX5_readLeaf_79 : decode cX5_readLeaf 79 = .ok (.return_, 1) := by decide +kernel
theorem dX5_readWaiter_0 : decode cX5_readWaiter 0 = .ok (.aload_n 0, 1) := by decide +kernel
theorem dX5_readWaiter_1 : decode cX5_readWaiter 1 = .ok (.getfield 12, 3) := by decide +kernel
theorem dX5_readWaiter_4 : decode cX5_readWaiter 4 = .ok (.getfield 101, 3) := by decide +kernel
theorem dX5_readWaiter_7 : decode cX5_readWaiter 7 = .ok (.istore_n 1, 1) := by decide +kernel
theorem dX5_readWaiter_8 : decode cX5_readWaiter 8 = .ok (.iload_n 1, 1) := by decide +kernel
theorem dX5_readWaiter_9 : decode cX5_readWaiter 9 = .ok (.bipush 6, 2) := by decide +kernel
theorem dX5_readWaiter_11 : decode cX5_readWaiter 11 = .ok (.if_icmp .lt 13, 3) := by decide +kernel
theorem dX5_readWaiter_14 : decode cX5_readWaiter 14 = .ok (.aload_n 0, 1) := by decide +kernel
theorem dX5_readWaiter_15 : decode cX5_readWaiter 15 = .ok (.iconst 3, 1) := by decide +kernel
theorem dX5_readWaiter_16 : decode cX5_readWaiter 16 = .ok (.aload_n 0, 1) := by decide +kernel
theorem dX5_readWaiter_17 : decode cX5_readWaiter 17 = .ok (.getfield 42, 3) := by decide +kernel
theorem dX5_readWaiter_20 : decode cX5_readWaiter 20 = .ok (.invokevirtual 84, 3) := by decide +kernel
theorem dX5_readWaiter_23 : decode cX5_readWaiter 23 = .ok (.return_, 1) := by decide +kernel
theorem dX5_readWaiter_24 : decode cX5_readWaiter 24 = .ok (.aload_n 0, 1) := by decide +kernel
theorem dX5_readWaiter_25 : decode cX5_readWaiter 25 = .ok (.dup, 1) := by decide +kernel
theorem dX5_readWaiter_26 : decode cX5_readWaiter 26 = .ok (.getfield 42, 3) := by decide +kernel
theorem dX5_readWaiter_29 : decode cX5_readWaiter 29 = .ok (.iconst 1, 1) := by decide +kernel
theorem dX5_readWaiter_30 : decode cX5_readWaiter 30 = .ok (.iadd, 1) := by decide +kernel
theorem dX5_readWaiter_31 : decode cX5_readWaiter 31 = .ok (.putfield 42, 3) := by decide +kernel
theorem dX5_readWaiter_34 : decode cX5_readWaiter 34 = .ok (.aload_n 0, 1) := by decide +kernel
theorem dX5_readWaiter_35 : decode cX5_readWaiter 35 = .ok (.getfield 12, 3) := by decide +kernel
theorem dX5_readWaiter_38 : decode cX5_readWaiter 38 = .ok (.getfield 104, 3) := by decide +kernel
theorem dX5_readWaiter_41 : decode cX5_readWaiter 41 = .ok (.iload_n 1, 1) := by decide +kernel
theorem dX5_readWaiter_42 : decode cX5_readWaiter 42 = .ok (.aload_n 0, 1) := by decide +kernel
theorem dX5_readWaiter_43 : decode cX5_readWaiter 43 = .ok (.iconst 0, 1) := by decide +kernel
theorem dX5_readWaiter_44 : decode cX5_readWaiter 44 = .ok (.iconst 1, 1) := by decide +kernel
theorem dX5_readWaiter_45 : decode cX5_readWaiter 45 = .ok (.invokevirtual 88, 3) := by decide +kernel
theorem dX5_readWaiter_48 : decode cX5_readWaiter 48 = .ok (.iastore, 1) := by decide +kernel
theorem dX5_readWaiter_49 : decode cX5_readWaiter 49 = .ok (.aload_n 0, 1) := by decide +kernel
theorem dX5_readWaiter_50 : decode cX5_readWaiter 50 = .ok (.getfield 21, 3) := by decide +kernel
theorem dX5_readWaiter_53 : decode cX5_readWaiter 53 = .ok (.getfield 107, 3) := by decide +kernel
theorem dX5_readWaiter_56 : decode cX5_readWaiter 56 = .ok (.iload_n 1, 1) := by decide +kernel
theorem dX5_readWaiter_57 : decode cX5_readWaiter 57 = .ok (.aload_n 0, 1) := by decide +kernel
theorem dX5_readWaiter_58 : decode cX5_readWaiter 58 = .ok (.iconst 0, 1) := by decide +kernel
theorem dX5_readWaiter_59 : decode cX5_readWaiter 59 = .ok (.sipush 999, 3) := by decide +kernel
theorem dX5_readWaiter_62 : decode cX5_readWaiter 62 = .ok (.invokevirtual 88, 3) := by decide +kernel
theorem dX5_readWaiter_65 : decode cX5_readWaiter 65 = .ok (.iastore, 1) := by decide +kernel
theorem dX5_readWaiter_66 : decode cX5_readWaiter 66 = .ok (.aload_n 0, 1) := by decide +kernel
theorem dX5_readWaiter_67 : decode cX5_readWaiter 67 = .ok (.getfield 12, 3) := by decide +kernel
theorem dX5_readWaiter_70 : decode cX5_readWaiter 70 = .ok (.getfield 110, 3) := by decide +kernel
theorem dX5_readWaiter_73 : decode cX5_readWaiter 73 = .ok (.iload_n 1, 1) := by decide +kernel
theorem dX5_readWaiter_74 : decode cX5_readWaiter 74 = .ok (.aload_n 0, 1) := by decide +kernel
theorem dX5_readWaiter_75 : decode cX5_readWaiter 75 = .ok (.iconst 1, 1) := by decide +kernel
theorem dX5_readWaiter_76 : decode cX5_readWaiter 76 = .ok (.bipush 30, 2) := by decide +kernel
theorem dX5_readWaiter_78 : decode cX5_readWaiter 78 = .ok (.invokevirtual 88, 3) := by decide +kernel
theorem dX5_readWaiter_81 : decode cX5_readWaiter 81 = .ok (.iastore, 1) := by decide +kernel
theorem dX5_readWaiter_82 : decode cX5_readWaiter 82 = .ok (.aload_n 0, 1) := by decide +kernel
theorem dX5_readWaiter_83 : decode cX5_readWaiter 83 = .ok (.getfield 12, 3) := by decide +kernel
theorem dX5_readWaiter_86 : decode cX5_readWaiter 86 = .ok (.getfield 113, 3) := by decide +kernel
theorem dX5_readWaiter_89 : decode cX5_readWaiter 89 = .ok (.iload_n 1, 1) := by decide +kernel
theorem dX5_readWaiter_90 : decode cX5_readWaiter 90 = .ok (.aload_n 0, 1) := by decide +kernel
theorem dX5_readWaiter_91 : decode cX5_readWaiter 91 = .ok (.iconst 0, 1) := by decide +kernel
theorem dX5_readWaiter_92 : decode cX5_readWaiter 92 = .ok (.bipush 99, 2) := by decide +kernel
theorem dX5_readWaiter_94 : decode cX5_readWaiter 94 = .ok (.invokevirtual 88, 3) := by decide +kernel
theorem dX5_readWaiter_97 : decode cX5_readWaiter 97 = .ok (.iastore, 1) := by decide +kernel
theorem dX5_readWaiter_98 : decode cX5_readWaiter 98 = .ok (.aload_n 0, 1) := by decide +kernel
theorem dX5_readWaiter_99 : decode cX5_readWaiter 99 = .ok (.getfield 21, 3) := by decide +kernel
theorem dX5_readWaiter_102 : decode cX5_readWaiter 102 = .ok (.getfield 116, 3) := by decide +kernel
theorem dX5_readWaiter_105 : decode cX5_readWaiter 105 = .ok (.iload_n 1, 1) := by decide +kernel
theorem dX5_readWaiter_106 : decode cX5_readWaiter 106 = .ok (.aload_n 0, 1) := by decide +kernel
theorem dX5_readWaiter_107 : decode cX5_readWaiter 107 = .ok (.iconst 1, 1) := by decide +kernel
theorem dX5_readWaiter_108 : decode cX5_readWaiter 108 = .ok (.bipush 9, 2) := by decide +kernel
theorem dX5_readWaiter_110 : decode cX5_readWaiter 110 = .ok (.invokevirtual 88, 3) := by decide +kernel
theorem dX5_readWaiter_113 : decode cX5_readWaiter 113 = .ok (.iastore, 1) := by decide +kernel
theorem dX5_readWaiter_114 : decode cX5_readWaiter 114 = .ok (.aload_n 0, 1) := by decide +kernel
theorem dX5_readWaiter_115 : decode cX5_readWaiter 115 = .ok (.getfield 21, 3) := by decide +kernel
theorem dX5_readWaiter_118 : decode cX5_readWaiter 118 = .ok (.getfield 119, 3) := by decide +kernel
theorem dX5_readWaiter_121 : decode cX5_readWaiter 121 = .ok (.iload_n 1, 1) := by decide +kernel
theorem dX5_readWaiter_122 : decode cX5_readWaiter 122 = .ok (.aload_n 0, 1) := by decide +kernel
theorem dX5_readWaiter_123 : decode cX5_readWaiter 123 = .ok (.iconst 0, 1) := by decide +kernel
theorem dX5_readWaiter_124 : decode cX5_readWaiter 124 = .ok (.iconst 2, 1) := by decide +kernel
theorem dX5_readWaiter_125 : decode cX5_readWaiter 125 = .ok (.invokevirtual 88, 3) := by decide +kernel
theorem dX5_readWaiter_128 : decode cX5_readWaiter 128 = .ok (.iastore, 1) := by decide +kernel
theorem dX5_readWaiter_129 : decode cX5_readWaiter 129 = .ok (.aload_n 0, 1) := by decide +kernel
theorem dX5_readWaiter_130 : decode cX5_readWaiter 130 = .ok (.getfield 12, 3) := by decide +kernel
theorem dX5_readWaiter_133 : decode cX5_readWaiter 133 = .ok (.getfield 122, 3) := by decide +kernel
theorem dX5_readWaiter_136 : decode cX5_readWaiter 136 = .ok (.iload_n 1, 1) := by decide +kernel
theorem dX5_readWaiter_137 : decode cX5_readWaiter 137 = .ok (.aload_n 0, 1) := by decide +kernel
theorem dX5_readWaiter_138 : decode cX5_readWaiter 138 = .ok (.iconst 0, 1) := by decide +kernel
theorem dX5_readWaiter_139 : decode cX5_readWaiter 139 = .ok (.iconst 1, 1) := by decide +kernel
theorem dX5_readWaiter_140 : decode cX5_readWaiter 140 = .ok (.invokevirtual 88, 3) := by decide +kernel
theorem dX5_readWaiter_143 : decode cX5_readWaiter 143 = .ok (.iastore, 1) := by decide +kernel
theorem dX5_readWaiter_144 : decode cX5_readWaiter 144 = .ok (.aload_n 0, 1) := by decide +kernel
theorem dX5_readWaiter_145 : decode cX5_readWaiter 145 = .ok (.invokevirtual 98, 3) := by decide +kernel
theorem dX5_readWaiter_148 : decode cX5_readWaiter 148 = .ok (.aload_n 0, 1) := by decide +kernel
theorem dX5_readWaiter_149 : decode cX5_readWaiter 149 = .ok (.getfield 12, 3) := by decide +kernel
theorem dX5_readWaiter_152 : decode cX5_readWaiter 152 = .ok (.iload_n 1, 1) := by decide +kernel
theorem dX5_readWaiter_153 : decode cX5_readWaiter 153 = .ok (.iconst 1, 1) := by decide +kernel
theorem dX5_readWaiter_154 : decode cX5_readWaiter 154 = .ok (.iadd, 1) := by decide +kernel
theorem dX5_readWaiter_155 : decode cX5_readWaiter 155 = .ok (.putfield 101, 3) := by decide +kernel
theorem dX5_readWaiter_158 : decode cX5_readWaiter 158 = .ok (.return_, 1) := by decide +kernel
theorem dX5_readWindow_0 : decode cX5_readWindow 0 = .ok (.aload_n 0, 1) := by decide +kernel
theorem dX5_readWindow_1 : decode cX5_readWindow 1 = .ok (.getfield 48, 3) := by decide +kernel
theorem dX5_readWindow_4 : decode cX5_readWindow 4 = .ok (.ifCond .eq 12, 3) := by decide +kernel
theorem dX5_readWindow_7 : decode cX5_readWindow 7 = .ok (.aload_n 0, 1) := by decide +kernel
theorem dX5_readWindow_8 : decode cX5_readWindow 8 = .ok (.iconst 3, 1) := by decide +kernel
theorem dX5_readWindow_9 : decode cX5_readWindow 9 = .ok (.aload_n 0, 1) := by decide +kernel
theorem dX5_readWindow_10 : decode cX5_readWindow 10 = .ok (.getfield 42, 3) := by decide +kernel
theorem dX5_readWindow_13 : decode cX5_readWindow 13 = .ok (.invokevirtual 84, 3) := by decide +kernel
theorem dX5_readWindow_16 : decode cX5_readWindow 16 = .ok (.aload_n 0, 1) := by decide +kernel
theorem dX5_readWindow_17 : decode cX5_readWindow 17 = .ok (.iconst 1, 1) := by decide +kernel
theorem dX5_readWindow_18 : decode cX5_readWindow 18 = .ok (.putfield 48, 3) := by decide +kernel
theorem dX5_readWindow_21 : decode cX5_readWindow 21 = .ok (.aload_n 0, 1) := by decide +kernel
theorem dX5_readWindow_22 : decode cX5_readWindow 22 = .ok (.dup, 1) := by decide +kernel
theorem dX5_readWindow_23 : decode cX5_readWindow 23 = .ok (.getfield 42, 3) := by decide +kernel
theorem dX5_readWindow_26 : decode cX5_readWindow 26 = .ok (.iconst 1, 1) := by decide +kernel
theorem dX5_readWindow_27 : decode cX5_readWindow 27 = .ok (.iadd, 1) := by decide +kernel
theorem dX5_readWindow_28 : decode cX5_readWindow 28 = .ok (.putfield 42, 3) := by decide +kernel
theorem dX5_readWindow_31 : decode cX5_readWindow 31 = .ok (.aload_n 0, 1) := by decide +kernel
theorem dX5_readWindow_32 : decode cX5_readWindow 32 = .ok (.getfield 21, 3) := by decide +kernel
theorem dX5_readWindow_35 : decode cX5_readWindow 35 = .ok (.aload_n 0, 1) := by decide +kernel
theorem dX5_readWindow_36 : decode cX5_readWindow 36 = .ok (.iconst 0, 1) := by decide +kernel
theorem dX5_readWindow_37 : decode cX5_readWindow 37 = .ok (.iconst 1, 1) := by decide +kernel
theorem dX5_readWindow_38 : decode cX5_readWindow 38 = .ok (.invokevirtual 88, 3) := by decide +kernel
theorem dX5_readWindow_41 : decode cX5_readWindow 41 = .ok (.putfield 125, 3) := by decide +kernel
theorem dX5_readWindow_44 : decode cX5_readWindow 44 = .ok (.aload_n 0, 1) := by decide +kernel
theorem dX5_readWindow_45 : decode cX5_readWindow 45 = .ok (.invokevirtual 98, 3) := by decide +kernel
theorem dX5_readWindow_48 : decode cX5_readWindow 48 = .ok (.return_, 1) := by decide +kernel
theorem dX5_readNoise_0 : decode cX5_readNoise 0 = .ok (.aload_n 0, 1) := by decide +kernel
theorem dX5_readNoise_1 : decode cX5_readNoise 1 = .ok (.getfield 52, 3) := by decide +kernel
theorem dX5_readNoise_4 : decode cX5_readNoise 4 = .ok (.ifCond .eq 12, 3) := by decide +kernel
theorem dX5_readNoise_7 : decode cX5_readNoise 7 = .ok (.aload_n 0, 1) := by decide +kernel
theorem dX5_readNoise_8 : decode cX5_readNoise 8 = .ok (.iconst 3, 1) := by decide +kernel
theorem dX5_readNoise_9 : decode cX5_readNoise 9 = .ok (.aload_n 0, 1) := by decide +kernel
theorem dX5_readNoise_10 : decode cX5_readNoise 10 = .ok (.getfield 42, 3) := by decide +kernel
theorem dX5_readNoise_13 : decode cX5_readNoise 13 = .ok (.invokevirtual 84, 3) := by decide +kernel
theorem dX5_readNoise_16 : decode cX5_readNoise 16 = .ok (.aload_n 0, 1) := by decide +kernel
theorem dX5_readNoise_17 : decode cX5_readNoise 17 = .ok (.iconst 1, 1) := by decide +kernel
theorem dX5_readNoise_18 : decode cX5_readNoise 18 = .ok (.putfield 52, 3) := by decide +kernel
theorem dX5_readNoise_21 : decode cX5_readNoise 21 = .ok (.aload_n 0, 1) := by decide +kernel
theorem dX5_readNoise_22 : decode cX5_readNoise 22 = .ok (.dup, 1) := by decide +kernel
theorem dX5_readNoise_23 : decode cX5_readNoise 23 = .ok (.getfield 42, 3) := by decide +kernel
theorem dX5_readNoise_26 : decode cX5_readNoise 26 = .ok (.iconst 1, 1) := by decide +kernel
theorem dX5_readNoise_27 : decode cX5_readNoise 27 = .ok (.iadd, 1) := by decide +kernel
theorem dX5_readNoise_28 : decode cX5_readNoise 28 = .ok (.putfield 42, 3) := by decide +kernel
theorem dX5_readNoise_31 : decode cX5_readNoise 31 = .ok (.aload_n 0, 1) := by decide +kernel
theorem dX5_readNoise_32 : decode cX5_readNoise 32 = .ok (.getfield 21, 3) := by decide +kernel
theorem dX5_readNoise_35 : decode cX5_readNoise 35 = .ok (.aload_n 0, 1) := by decide +kernel
theorem dX5_readNoise_36 : decode cX5_readNoise 36 = .ok (.iconst 0, 1) := by decide +kernel
theorem dX5_readNoise_37 : decode cX5_readNoise 37 = .ok (.bipush 9, 2) := by decide +kernel
theorem dX5_readNoise_39 : decode cX5_readNoise 39 = .ok (.invokevirtual 88, 3) := by decide +kernel
theorem dX5_readNoise_42 : decode cX5_readNoise 42 = .ok (.putfield 128, 3) := by decide +kernel
theorem dX5_readNoise_45 : decode cX5_readNoise 45 = .ok (.aload_n 0, 1) := by decide +kernel
theorem dX5_readNoise_46 : decode cX5_readNoise 46 = .ok (.invokevirtual 98, 3) := by decide +kernel
theorem dX5_readNoise_49 : decode cX5_readNoise 49 = .ok (.return_, 1) := by decide +kernel
theorem dX5_readNumber_0 : decode cX5_readNumber 0 = .ok (.aload_n 0, 1) := by decide +kernel
theorem dX5_readNumber_1 : decode cX5_readNumber 1 = .ok (.invokevirtual 65, 3) := by decide +kernel
theorem dX5_readNumber_4 : decode cX5_readNumber 4 = .ok (.aload_n 0, 1) := by decide +kernel
theorem dX5_readNumber_5 : decode cX5_readNumber 5 = .ok (.aload_n 0, 1) := by decide +kernel
theorem dX5_readNumber_6 : decode cX5_readNumber 6 = .ok (.getfield 42, 3) := by decide +kernel
theorem dX5_readNumber_9 : decode cX5_readNumber 9 = .ok (.invokevirtual 131, 3) := by decide +kernel
theorem dX5_readNumber_12 : decode cX5_readNumber 12 = .ok (.ifCond .ne 14, 3) := by decide +kernel
theorem dX5_readNumber_15 : decode cX5_readNumber 15 = .ok (.aload_n 0, 1) := by decide +kernel
theorem dX5_readNumber_16 : decode cX5_readNumber 16 = .ok (.iconst 1, 1) := by decide +kernel
theorem dX5_readNumber_17 : decode cX5_readNumber 17 = .ok (.aload_n 0, 1) := by decide +kernel
theorem dX5_readNumber_18 : decode cX5_readNumber 18 = .ok (.getfield 42, 3) := by decide +kernel
theorem dX5_readNumber_21 : decode cX5_readNumber 21 = .ok (.invokevirtual 84, 3) := by decide +kernel
theorem dX5_readNumber_24 : decode cX5_readNumber 24 = .ok (.iload_n 1, 1) := by decide +kernel
theorem dX5_readNumber_25 : decode cX5_readNumber 25 = .ok (.ireturn, 1) := by decide +kernel
theorem dX5_readNumber_26 : decode cX5_readNumber 26 = .ok (.aload_n 0, 1) := by decide +kernel
theorem dX5_readNumber_27 : decode cX5_readNumber 27 = .ok (.aload_n 0, 1) := by decide +kernel
theorem dX5_readNumber_28 : decode cX5_readNumber 28 = .ok (.getfield 42, 3) := by decide +kernel
theorem dX5_readNumber_31 : decode cX5_readNumber 31 = .ok (.putfield 45, 3) := by decide +kernel
theorem dX5_readNumber_34 : decode cX5_readNumber 34 = .ok (.iconst 0, 1) := by decide +kernel
theorem dX5_readNumber_35 : decode cX5_readNumber 35 = .ok (.istore_n 3, 1) := by decide +kernel
theorem dX5_readNumber_36 : decode cX5_readNumber 36 = .ok (.iconst 0, 1) := by decide +kernel
theorem dX5_readNumber_37 : decode cX5_readNumber 37 = .ok (.istore 4, 2) := by decide +kernel
theorem dX5_readNumber_39 : decode cX5_readNumber 39 = .ok (.iload 4, 2) := by decide +kernel
theorem dX5_readNumber_41 : decode cX5_readNumber 41 = .ok (.sipush 250, 3) := by decide +kernel
theorem dX5_readNumber_44 : decode cX5_readNumber 44 = .ok (.if_icmp .ge 54, 3) := by decide +kernel
theorem dX5_readNumber_47 : decode cX5_readNumber 47 = .ok (.aload_n 0, 1) := by decide +kernel
theorem dX5_readNumber_48 : decode cX5_readNumber 48 = .ok (.aload_n 0, 1) := by decide +kernel
theorem dX5_readNumber_49 : decode cX5_readNumber 49 = .ok (.getfield 42, 3) := by decide +kernel
theorem dX5_readNumber_52 : decode cX5_readNumber 52 = .ok (.invokevirtual 131, 3) := by decide +kernel
theorem dX5_readNumber_55 : decode cX5_readNumber 55 = .ok (.ifCond .eq 43, 3) := by decide +kernel
theorem dX5_readNumber_58 : decode cX5_readNumber 58 = .ok (.iload_n 3, 1) := by decide +kernel
theorem dX5_readNumber_59 : decode cX5_readNumber 59 = .ok (.bipush 10, 2) := by decide +kernel
theorem dX5_readNumber_61 : decode cX5_readNumber 61 = .ok (.imul, 1) := by decide +kernel
theorem dX5_readNumber_62 : decode cX5_readNumber 62 = .ok (.aload_n 0, 1) := by decide +kernel
theorem dX5_readNumber_63 : decode cX5_readNumber 63 = .ok (.getfield 25, 3) := by decide +kernel
theorem dX5_readNumber_66 : decode cX5_readNumber 66 = .ok (.aload_n 0, 1) := by decide +kernel
theorem dX5_readNumber_67 : decode cX5_readNumber 67 = .ok (.getfield 42, 3) := by decide +kernel
theorem dX5_readNumber_70 : decode cX5_readNumber 70 = .ok (.iaload, 1) := by decide +kernel
theorem dX5_readNumber_71 : decode cX5_readNumber 71 = .ok (.iadd, 1) := by decide +kernel
theorem dX5_readNumber_72 : decode cX5_readNumber 72 = .ok (.bipush 48, 2) := by decide +kernel
theorem dX5_readNumber_74 : decode cX5_readNumber 74 = .ok (.isub, 1) := by decide +kernel
theorem dX5_readNumber_75 : decode cX5_readNumber 75 = .ok (.sipush 10000, 3) := by decide +kernel
theorem dX5_readNumber_78 : decode cX5_readNumber 78 = .ok (.invokestatic 135, 3) := by decide +kernel
theorem dX5_readNumber_81 : decode cX5_readNumber 81 = .ok (.istore_n 3, 1) := by decide +kernel
theorem dX5_readNumber_82 : decode cX5_readNumber 82 = .ok (.aload_n 0, 1) := by decide +kernel
theorem dX5_readNumber_83 : decode cX5_readNumber 83 = .ok (.dup, 1) := by decide +kernel
theorem dX5_readNumber_84 : decode cX5_readNumber 84 = .ok (.getfield 42, 3) := by decide +kernel
theorem dX5_readNumber_87 : decode cX5_readNumber 87 = .ok (.iconst 1, 1) := by decide +kernel
theorem dX5_readNumber_88 : decode cX5_readNumber 88 = .ok (.iadd, 1) := by decide +kernel
theorem dX5_readNumber_89 : decode cX5_readNumber 89 = .ok (.putfield 42, 3) := by decide +kernel
theorem dX5_readNumber_92 : decode cX5_readNumber 92 = .ok (.iinc 4 1, 3) := by decide +kernel
theorem dX5_readNumber_95 : decode cX5_readNumber 95 = .ok (.goto (-56), 3) := by decide +kernel
theorem dX5_readNumber_98 : decode cX5_readNumber 98 = .ok (.aload_n 0, 1) := by decide +kernel
theorem dX5_readNumber_99 : decode cX5_readNumber 99 = .ok (.getfield 42, 3) := by decide +kernel
theorem dX5_readNumber_102 : decode cX5_readNumber 102 = .ok (.aload_n 0, 1) := by decide +kernel
theorem dX5_readNumber_103 : decode cX5_readNumber 103 = .ok (.getfield 45, 3) := by decide +kernel
theorem dX5_readNumber_106 : decode cX5_readNumber 106 = .ok (.isub, 1) := by decide +kernel
theorem dX5_readNumber_107 : decode cX5_readNumber 107 = .ok (.iconst 3, 1) := by decide +kernel
theorem dX5_readNumber_108 : decode cX5_readNumber 108 = .ok (.if_icmp .gt 13, 3) := by decide +kernel
theorem dX5_readNumber_111 : decode cX5_readNumber 111 = .ok (.iload_n 3, 1) := by decide +kernel
theorem dX5_readNumber_112 : decode cX5_readNumber 112 = .ok (.iload_n 1, 1) := by decide +kernel
theorem dX5_readNumber_113 : decode cX5_readNumber 113 = .ok (.if_icmp .lt 8, 3) := by decide +kernel
theorem dX5_readNumber_116 : decode cX5_readNumber 116 = .ok (.iload_n 3, 1) := by decide +kernel
theorem dX5_readNumber_117 : decode cX5_readNumber 117 = .ok (.iload_n 2, 1) := by decide +kernel
theorem dX5_readNumber_118 : decode cX5_readNumber 118 = .ok (.if_icmp .le 14, 3) := by decide +kernel
theorem dX5_readNumber_121 : decode cX5_readNumber 121 = .ok (.aload_n 0, 1) := by decide +kernel
theorem dX5_readNumber_122 : decode cX5_readNumber 122 = .ok (.iconst 2, 1) := by decide +kernel
theorem dX5_readNumber_123 : decode cX5_readNumber 123 = .ok (.aload_n 0, 1) := by decide +kernel
theorem dX5_readNumber_124 : decode cX5_readNumber 124 = .ok (.getfield 45, 3) := by decide +kernel
theorem dX5_readNumber_127 : decode cX5_readNumber 127 = .ok (.invokevirtual 84, 3) := by decide +kernel
theorem dX5_readNumber_130 : decode cX5_readNumber 130 = .ok (.iload_n 1, 1) := by decide +kernel
theorem dX5_readNumber_131 : decode cX5_readNumber 131 = .ok (.ireturn, 1) := by decide +kernel
theorem dX5_readNumber_132 : decode cX5_readNumber 132 = .ok (.iload_n 3, 1) := by decide +kernel
theorem dX5_readNumber_133 : decode cX5_readNumber 133 = .ok (.ireturn, 1) := by decide +kernel
theorem dX5_readEnd_0 : decode cX5_readEnd 0 = .ok (.aload_n 0, 1) := by decide +kernel
theorem dX5_readEnd_1 : decode cX5_readEnd 1 = .ok (.invokevirtual 65, 3) := by decide +kernel
theorem dX5_readEnd_4 : decode cX5_readEnd 4 = .ok (.aload_n 0, 1) := by decide +kernel
theorem dX5_readEnd_5 : decode cX5_readEnd 5 = .ok (.getfield 42, 3) := by decide +kernel
theorem dX5_readEnd_8 : decode cX5_readEnd 8 = .ok (.aload_n 0, 1) := by decide +kernel
theorem dX5_readEnd_9 : decode cX5_readEnd 9 = .ok (.getfield 32, 3) := by decide +kernel
theorem dX5_readEnd_12 : decode cX5_readEnd 12 = .ok (.if_icmp .ge 17, 3) := by decide +kernel
theorem dX5_readEnd_15 : decode cX5_readEnd 15 = .ok (.aload_n 0, 1) := by decide +kernel
theorem dX5_readEnd_16 : decode cX5_readEnd 16 = .ok (.getfield 25, 3) := by decide +kernel
theorem dX5_readEnd_19 : decode cX5_readEnd 19 = .ok (.aload_n 0, 1) := by decide +kernel
theorem dX5_readEnd_20 : decode cX5_readEnd 20 = .ok (.getfield 42, 3) := by decide +kernel
theorem dX5_readEnd_23 : decode cX5_readEnd 23 = .ok (.iaload, 1) := by decide +kernel
theorem dX5_readEnd_24 : decode cX5_readEnd 24 = .ok (.bipush 59, 2) := by decide +kernel
theorem dX5_readEnd_26 : decode cX5_readEnd 26 = .ok (.if_icmp .eq 13, 3) := by decide +kernel
theorem dX5_readEnd_29 : decode cX5_readEnd 29 = .ok (.aload_n 0, 1) := by decide +kernel
theorem dX5_readEnd_30 : decode cX5_readEnd 30 = .ok (.iconst 1, 1) := by decide +kernel
theorem dX5_readEnd_31 : decode cX5_readEnd 31 = .ok (.aload_n 0, 1) := by decide +kernel
theorem dX5_readEnd_32 : decode cX5_readEnd 32 = .ok (.getfield 42, 3) := by decide +kernel
theorem dX5_readEnd_35 : decode cX5_readEnd 35 = .ok (.invokevirtual 84, 3) := by decide +kernel
theorem dX5_readEnd_38 : decode cX5_readEnd 38 = .ok (.return_, 1) := by decide +kernel
theorem dX5_readEnd_39 : decode cX5_readEnd 39 = .ok (.aload_n 0, 1) := by decide +kernel
theorem dX5_readEnd_40 : decode cX5_readEnd 40 = .ok (.dup, 1) := by decide +kernel
theorem dX5_readEnd_41 : decode cX5_readEnd 41 = .ok (.getfield 42, 3) := by decide +kernel
theorem dX5_readEnd_44 : decode cX5_readEnd 44 = .ok (.iconst 1, 1) := by decide +kernel
theorem dX5_readEnd_45 : decode cX5_readEnd 45 = .ok (.iadd, 1) := by decide +kernel
theorem dX5_readEnd_46 : decode cX5_readEnd 46 = .ok (.putfield 42, 3) := by decide +kernel
theorem dX5_readEnd_49 : decode cX5_readEnd 49 = .ok (.return_, 1) := by decide +kernel
theorem dX5_skipBlanks_0 : decode cX5_skipBlanks 0 = .ok (.iconst 0, 1) := by decide +kernel
theorem dX5_skipBlanks_1 : decode cX5_skipBlanks 1 = .ok (.istore_n 1, 1) := by decide +kernel
theorem dX5_skipBlanks_2 : decode cX5_skipBlanks 2 = .ok (.iload_n 1, 1) := by decide +kernel
theorem dX5_skipBlanks_3 : decode cX5_skipBlanks 3 = .ok (.sipush 250, 3) := by decide +kernel
theorem dX5_skipBlanks_6 : decode cX5_skipBlanks 6 = .ok (.if_icmp .ge 44, 3) := by decide +kernel
theorem dX5_skipBlanks_9 : decode cX5_skipBlanks 9 = .ok (.aload_n 0, 1) := by decide +kernel
theorem dX5_skipBlanks_10 : decode cX5_skipBlanks 10 = .ok (.getfield 42, 3) := by decide +kernel
theorem dX5_skipBlanks_13 : decode cX5_skipBlanks 13 = .ok (.aload_n 0, 1) := by decide +kernel
theorem dX5_skipBlanks_14 : decode cX5_skipBlanks 14 = .ok (.getfield 32, 3) := by decide +kernel
theorem dX5_skipBlanks_17 : decode cX5_skipBlanks 17 = .ok (.if_icmp .ge 33, 3) := by decide +kernel
theorem dX5_skipBlanks_20 : decode cX5_skipBlanks 20 = .ok (.aload_n 0, 1) := by decide +kernel
theorem dX5_skipBlanks_21 : decode cX5_skipBlanks 21 = .ok (.getfield 25, 3) := by decide +kernel
theorem dX5_skipBlanks_24 : decode cX5_skipBlanks 24 = .ok (.aload_n 0, 1) := by decide +kernel
theorem dX5_skipBlanks_25 : decode cX5_skipBlanks 25 = .ok (.getfield 42, 3) := by decide +kernel
theorem dX5_skipBlanks_28 : decode cX5_skipBlanks 28 = .ok (.iaload, 1) := by decide +kernel
theorem dX5_skipBlanks_29 : decode cX5_skipBlanks 29 = .ok (.bipush 32, 2) := by decide +kernel
theorem dX5_skipBlanks_31 : decode cX5_skipBlanks 31 = .ok (.if_icmp .ne 19, 3) := by decide +kernel
theorem dX5_skipBlanks_34 : decode cX5_skipBlanks 34 = .ok (.aload_n 0, 1) := by decide +kernel
theorem dX5_skipBlanks_35 : decode cX5_skipBlanks 35 = .ok (.dup, 1) := by decide +kernel
theorem dX5_skipBlanks_36 : decode cX5_skipBlanks 36 = .ok (.getfield 42, 3) := by decide +kernel
theorem dX5_skipBlanks_39 : decode cX5_skipBlanks 39 = .ok (.iconst 1, 1) := by decide +kernel
theorem dX5_skipBlanks_40 : decode cX5_skipBlanks 40 = .ok (.iadd, 1) := by decide +kernel
theorem dX5_skipBlanks_41 : decode cX5_skipBlanks 41 = .ok (.putfield 42, 3) := by decide +kernel
theorem dX5_skipBlanks_44 : decode cX5_skipBlanks 44 = .ok (.iinc 1 1, 3) := by decide +kernel
theorem dX5_skipBlanks_47 : decode cX5_skipBlanks 47 = .ok (.goto (-45), 3) := by decide +kernel
theorem dX5_skipBlanks_50 : decode cX5_skipBlanks 50 = .ok (.return_, 1) := by decide +kernel
theorem dX5_figureAt_0 : decode cX5_figureAt 0 = .ok (.iload_n 1, 1) := by decide +kernel
theorem dX5_figureAt_1 : decode cX5_figureAt 1 = .ok (.aload_n 0, 1) := by decide +kernel
theorem dX5_figureAt_2 : decode cX5_figureAt 2 = .ok (.getfield 32, 3) := by decide +kernel
theorem dX5_figureAt_5 : decode cX5_figureAt 5 = .ok (.if_icmp .ge 29, 3) := by decide +kernel
theorem dX5_figureAt_8 : decode cX5_figureAt 8 = .ok (.aload_n 0, 1) := by decide +kernel
theorem dX5_figureAt_9 : decode cX5_figureAt 9 = .ok (.getfield 25, 3) := by decide +kernel
theorem dX5_figureAt_12 : decode cX5_figureAt 12 = .ok (.iload_n 1, 1) := by decide +kernel
theorem dX5_figureAt_13 : decode cX5_figureAt 13 = .ok (.iaload, 1) := by decide +kernel
theorem dX5_figureAt_14 : decode cX5_figureAt 14 = .ok (.bipush 48, 2) := by decide +kernel
theorem dX5_figureAt_16 : decode cX5_figureAt 16 = .ok (.if_icmp .lt 18, 3) := by decide +kernel
theorem dX5_figureAt_19 : decode cX5_figureAt 19 = .ok (.aload_n 0, 1) := by decide +kernel
theorem dX5_figureAt_20 : decode cX5_figureAt 20 = .ok (.getfield 25, 3) := by decide +kernel
theorem dX5_figureAt_23 : decode cX5_figureAt 23 = .ok (.iload_n 1, 1) := by decide +kernel
theorem dX5_figureAt_24 : decode cX5_figureAt 24 = .ok (.iaload, 1) := by decide +kernel
theorem dX5_figureAt_25 : decode cX5_figureAt 25 = .ok (.bipush 57, 2) := by decide +kernel
theorem dX5_figureAt_27 : decode cX5_figureAt 27 = .ok (.if_icmp .gt 7, 3) := by decide +kernel
theorem dX5_figureAt_30 : decode cX5_figureAt 30 = .ok (.iconst 1, 1) := by decide +kernel
theorem dX5_figureAt_31 : decode cX5_figureAt 31 = .ok (.goto 4, 3) := by decide +kernel
theorem dX5_figureAt_34 : decode cX5_figureAt 34 = .ok (.iconst 0, 1) := by decide +kernel
theorem dX5_figureAt_35 : decode cX5_figureAt 35 = .ok (.ireturn, 1) := by decide +kernel
theorem dX5_fail_0 : decode cX5_fail 0 = .ok (.aload_n 0, 1) := by decide +kernel
theorem dX5_fail_1 : decode cX5_fail 1 = .ok (.getfield 36, 3) := by decide +kernel
theorem dX5_fail_4 : decode cX5_fail 4 = .ok (.ifCond .ne 13, 3) := by decide +kernel
theorem dX5_fail_7 : decode cX5_fail 7 = .ok (.aload_n 0, 1) := by decide +kernel
theorem dX5_fail_8 : decode cX5_fail 8 = .ok (.iload_n 1, 1) := by decide +kernel
theorem dX5_fail_9 : decode cX5_fail 9 = .ok (.putfield 36, 3) := by decide +kernel
theorem dX5_fail_12 : decode cX5_fail 12 = .ok (.aload_n 0, 1) := by decide +kernel
theorem dX5_fail_13 : decode cX5_fail 13 = .ok (.iload_n 2, 1) := by decide +kernel
theorem dX5_fail_14 : decode cX5_fail 14 = .ok (.putfield 39, 3) := by decide +kernel
theorem dX5_fail_17 : decode cX5_fail 17 = .ok (.return_, 1) := by decide +kernel
theorem dX6_init_0 : decode cX6_init 0 = .ok (.aload_n 0, 1) := by decide +kernel
theorem dX6_init_1 : decode cX6_init 1 = .ok (.invokespecial 3, 3) := by decide +kernel
theorem dX6_init_4 : decode cX6_init 4 = .ok (.aload_n 0, 1) := by decide +kernel
theorem dX6_init_5 : decode cX6_init 5 = .ok (.bipush 6, 2) := by decide +kernel
theorem dX6_init_7 : decode cX6_init 7 = .ok (.newarray .int, 2) := by decide +kernel
theorem dX6_init_9 : decode cX6_init 9 = .ok (.putfield 9, 3) := by decide +kernel
theorem dX6_init_12 : decode cX6_init 12 = .ok (.aload_n 0, 1) := by decide +kernel
theorem dX6_init_13 : decode cX6_init 13 = .ok (.bipush 6, 2) := by decide +kernel
theorem dX6_init_15 : decode cX6_init 15 = .ok (.newarray .int, 2) := by decide +kernel
theorem dX6_init_17 : decode cX6_init 17 = .ok (.putfield 15, 3) := by decide +kernel
theorem dX6_init_20 : decode cX6_init 20 = .ok (.aload_n 0, 1) := by decide +kernel
theorem dX6_init_21 : decode cX6_init 21 = .ok (.bipush 6, 2) := by decide +kernel
theorem dX6_init_23 : decode cX6_init 23 = .ok (.newarray .int, 2) := by decide +kernel
theorem dX6_init_25 : decode cX6_init 25 = .ok (.putfield 18, 3) := by decide +kernel
theorem dX6_init_28 : decode cX6_init 28 = .ok (.aload_n 0, 1) := by decide +kernel
theorem dX6_init_29 : decode cX6_init 29 = .ok (.iconst 0, 1) := by decide +kernel
theorem dX6_init_30 : decode cX6_init 30 = .ok (.putfield 21, 3) := by decide +kernel
theorem dX6_init_33 : decode cX6_init 33 = .ok (.return_, 1) := by decide +kernel
theorem dX6_gather_0 : decode cX6_gather 0 = .ok (.aload_n 0, 1) := by decide +kernel
theorem dX6_gather_1 : decode cX6_gather 1 = .ok (.iconst 0, 1) := by decide +kernel
theorem dX6_gather_2 : decode cX6_gather 2 = .ok (.putfield 21, 3) := by decide +kernel
theorem dX6_gather_5 : decode cX6_gather 5 = .ok (.iconst 0, 1) := by decide +kernel
theorem dX6_gather_6 : decode cX6_gather 6 = .ok (.istore 4, 2) := by decide +kernel
theorem dX6_gather_8 : decode cX6_gather 8 = .ok (.iload 4, 2) := by decide +kernel
theorem dX6_gather_10 : decode cX6_gather 10 = .ok (.aload_n 1, 1) := by decide +kernel
theorem dX6_gather_11 : decode cX6_gather 11 = .ok (.getfield 25, 3) := by decide +kernel
theorem dX6_gather_14 : decode cX6_gather 14 = .ok (.if_icmp .ge 52, 3) := by decide +kernel
theorem dX6_gather_17 : decode cX6_gather 17 = .ok (.aload_n 1, 1) := by decide +kernel
theorem dX6_gather_18 : decode cX6_gather 18 = .ok (.getfield 30, 3) := by decide +kernel
theorem dX6_gather_21 : decode cX6_gather 21 = .ok (.iload 4, 2) := by decide +kernel
theorem dX6_gather_23 : decode cX6_gather 23 = .ok (.iaload, 1) := by decide +kernel
theorem dX6_gather_24 : decode cX6_gather 24 = .ok (.iload_n 3, 1) := by decide +kernel
theorem dX6_gather_25 : decode cX6_gather 25 = .ok (.if_icmp .ne 35, 3) := by decide +kernel
theorem dX6_gather_28 : decode cX6_gather 28 = .ok (.aload_n 0, 1) := by decide +kernel
theorem dX6_gather_29 : decode cX6_gather 29 = .ok (.getfield 18, 3) := by decide +kernel
theorem dX6_gather_32 : decode cX6_gather 32 = .ok (.aload_n 0, 1) := by decide +kernel
theorem dX6_gather_33 : decode cX6_gather 33 = .ok (.getfield 21, 3) := by decide +kernel
theorem dX6_gather_36 : decode cX6_gather 36 = .ok (.iload 4, 2) := by decide +kernel
theorem dX6_gather_38 : decode cX6_gather 38 = .ok (.iastore, 1) := by decide +kernel
theorem dX6_gather_39 : decode cX6_gather 39 = .ok (.aload_n 0, 1) := by decide +kernel
theorem dX6_gather_40 : decode cX6_gather 40 = .ok (.aload_n 2, 1) := by decide +kernel
theorem dX6_gather_41 : decode cX6_gather 41 = .ok (.getfield 33, 3) := by decide +kernel
theorem dX6_gather_44 : decode cX6_gather 44 = .ok (.iload 4, 2) := by decide +kernel
theorem dX6_gather_46 : decode cX6_gather 46 = .ok (.iaload, 1) := by decide +kernel
theorem dX6_gather_47 : decode cX6_gather 47 = .ok (.invokevirtual 38, 3) := by decide +kernel
theorem dX6_gather_50 : decode cX6_gather 50 = .ok (.aload_n 0, 1) := by decide +kernel
theorem dX6_gather_51 : decode cX6_gather 51 = .ok (.dup, 1) := by decide +kernel
theorem dX6_gather_52 : decode cX6_gather 52 = .ok (.getfield 21, 3) := by decide +kernel
theorem dX6_gather_55 : decode cX6_gather 55 = .ok (.iconst 1, 1) := by decide +kernel
theorem dX6_gather_56 : decode cX6_gather 56 = .ok (.iadd, 1) := by decide +kernel
theorem dX6_gather_57 : decode cX6_gather 57 = .ok (.putfield 21, 3) := by decide +kernel
theorem dX6_gather_60 : decode cX6_gather 60 = .ok (.iinc 4 1, 3) := by decide +kernel
theorem dX6_gather_63 : decode cX6_gather 63 = .ok (.goto (-55), 3) := by decide +kernel
theorem dX6_gather_66 : decode cX6_gather 66 = .ok (.return_, 1) := by decide +kernel
theorem dX6_insertTenth_0 : decode cX6_insertTenth 0 = .ok (.aload_n 0, 1) := by decide +kernel
theorem dX6_insertTenth_1 : decode cX6_insertTenth 1 = .ok (.getfield 21, 3) := by decide +kernel
theorem dX6_insertTenth_4 : decode cX6_insertTenth 4 = .ok (.istore_n 2, 1) := by decide +kernel
theorem dX6_insertTenth_5 : decode cX6_insertTenth 5 = .ok (.iload_n 2, 1) := by decide +kernel
theorem dX6_insertTenth_6 : decode cX6_insertTenth 6 = .ok (.ifCond .le 35, 3) := by decide +kernel
theorem dX6_insertTenth_9 : decode cX6_insertTenth 9 = .ok (.aload_n 0, 1) := by decide +kernel
theorem dX6_insertTenth_10 : decode cX6_insertTenth 10 = .ok (.getfield 9, 3) := by decide +kernel
theorem dX6_insertTenth_13 : decode cX6_insertTenth 13 = .ok (.iload_n 2, 1) := by decide +kernel
theorem dX6_insertTenth_14 : decode cX6_insertTenth 14 = .ok (.iconst 1, 1) := by decide +kernel
theorem dX6_insertTenth_15 : decode cX6_insertTenth 15 = .ok (.isub, 1) := by decide +kernel
theorem dX6_insertTenth_16 : decode cX6_insertTenth 16 = .ok (.iaload, 1) := by decide +kernel
theorem dX6_insertTenth_17 : decode cX6_insertTenth 17 = .ok (.iload_n 1, 1) := by decide +kernel
theorem dX6_insertTenth_18 : decode cX6_insertTenth 18 = .ok (.if_icmp .le 23, 3) := by decide +kernel
theorem dX6_insertTenth_21 : decode cX6_insertTenth 21 = .ok (.aload_n 0, 1) := by decide +kernel
theorem dX6_insertTenth_22 : decode cX6_insertTenth 22 = .ok (.getfield 9, 3) := by decide +kernel
theorem dX6_insertTenth_25 : decode cX6_insertTenth 25 = .ok (.iload_n 2, 1) := by decide +kernel
theorem dX6_insertTenth_26 : decode cX6_insertTenth 26 = .ok (.aload_n 0, 1) := by decide +kernel
theorem dX6_insertTenth_27 : decode cX6_insertTenth 27 = .ok (.getfield 9, 3) := by decide +kernel
theorem dX6_insertTenth_30 : decode cX6_insertTenth 30 = .ok (.iload_n 2, 1) := by decide +kernel
theorem dX6_insertTenth_31 : decode cX6_insertTenth 31 = .ok (.iconst 1, 1) := by decide +kernel
theorem dX6_insertTenth_32 : decode cX6_insertTenth 32 = .ok (.isub, 1) := by decide +kernel
theorem dX6_insertTenth_33 : decode cX6_insertTenth 33 = .ok (.iaload, 1) := by decide +kernel
theorem dX6_insertTenth_34 : decode cX6_insertTenth 34 = .ok (.iastore, 1) := by decide +kernel
theorem dX6_insertTenth_35 : decode cX6_insertTenth 35 = .ok (.iinc 2 (-1), 3) := by decide +kernel
theorem dX6_insertTenth_38 : decode cX6_insertTenth 38 = .ok (.goto (-33), 3) := by decide +kernel
theorem dX6_insertTenth_41 : decode cX6_insertTenth 41 = .ok (.aload_n 0, 1) := by decide +kernel
theorem dX6_insertTenth_42 : decode cX6_insertTenth 42 = .ok (.getfield 9, 3) := by decide +kernel
theorem dX6_insertTenth_45 : decode cX6_insertTenth 45 = .ok (.iload_n 2, 1) := by decide +kernel
theorem dX6_insertTenth_46 : decode cX6_insertTenth 46 = .ok (.iload_n 1, 1) := by decide +kernel
theorem dX6_insertTenth_47 : decode cX6_insertTenth 47 = .ok (.iastore, 1) := by decide +kernel
theorem dX6_insertTenth_48 : decode cX6_insertTenth 48 = .ok (.return_, 1) := by decide +kernel
theorem dX6_orders_0 : decode cX6_orders 0 = .ok (.getstatic 42, 3) := by decide +kernel
theorem dX6_orders_3 : decode cX6_orders 3 = .ok (.aload_n 0, 1) := by decide +kernel
theorem dX6_orders_4 : decode cX6_orders 4 = .ok (.getfield 21, 3) := by decide +kernel
theorem dX6_orders_7 : decode cX6_orders 7 = .ok (.iaload, 1) := by decide +kernel
theorem dX6_orders_8 : decode cX6_orders 8 = .ok (.ireturn, 1) := by decide +kernel
theorem dX6_seatBy_0 : decode cX6_seatBy 0 = .ok (.aload_n 0, 1) := by decide +kernel
theorem dX6_seatBy_1 : decode cX6_seatBy 1 = .ok (.getfield 18, 3) := by decide +kernel
theorem dX6_seatBy_4 : decode cX6_seatBy 4 = .ok (.iconst 0, 1) := by decide +kernel
theorem dX6_seatBy_5 : decode cX6_seatBy 5 = .ok (.aload_n 0, 1) := by decide +kernel
theorem dX6_seatBy_6 : decode cX6_seatBy 6 = .ok (.getfield 15, 3) := by decide +kernel
theorem dX6_seatBy_9 : decode cX6_seatBy 9 = .ok (.iconst 0, 1) := by decide +kernel
theorem dX6_seatBy_10 : decode cX6_seatBy 10 = .ok (.aload_n 0, 1) := by decide +kernel
theorem dX6_seatBy_11 : decode cX6_seatBy 11 = .ok (.getfield 21, 3) := by decide +kernel
theorem dX6_seatBy_14 : decode cX6_seatBy 14 = .ok (.invokestatic 45, 3) := by decide +kernel
theorem dX6_seatBy_17 : decode cX6_seatBy 17 = .ok (.iload_n 1, 1) := by decide +kernel
theorem dX6_seatBy_18 : decode cX6_seatBy 18 = .ok (.istore_n 2, 1) := by decide +kernel
theorem dX6_seatBy_19 : decode cX6_seatBy 19 = .ok (.iconst 0, 1) := by decide +kernel
theorem dX6_seatBy_20 : decode cX6_seatBy 20 = .ok (.istore_n 3, 1) := by decide +kernel
theorem dX6_seatBy_21 : decode cX6_seatBy 21 = .ok (.iload_n 3, 1) := by decide +kernel
theorem dX6_seatBy_22 : decode cX6_seatBy 22 = .ok (.aload_n 0, 1) := by decide +kernel
theorem dX6_seatBy_23 : decode cX6_seatBy 23 = .ok (.getfield 21, 3) := by decide +kernel
theorem dX6_seatBy_26 : decode cX6_seatBy 26 = .ok (.if_icmp .ge 52, 3) := by decide +kernel
theorem dX6_seatBy_29 : decode cX6_seatBy 29 = .ok (.iconst 1, 1) := by decide +kernel
theorem dX6_seatBy_30 : decode cX6_seatBy 30 = .ok (.getstatic 42, 3) := by decide +kernel
theorem dX6_seatBy_33 : decode cX6_seatBy 33 = .ok (.aload_n 0, 1) := by decide +kernel
theorem dX6_seatBy_34 : decode cX6_seatBy 34 = .ok (.getfield 21, 3) := by decide +kernel
theorem dX6_seatBy_37 : decode cX6_seatBy 37 = .ok (.iconst 1, 1) := by decide +kernel
theorem dX6_seatBy_38 : decode cX6_seatBy 38 = .ok (.isub, 1) := by decide +kernel
theorem dX6_seatBy_39 : decode cX6_seatBy 39 = .ok (.iload_n 3, 1) := by decide +kernel
theorem dX6_seatBy_40 : decode cX6_seatBy 40 = .ok (.isub, 1) := by decide +kernel
theorem dX6_seatBy_41 : decode cX6_seatBy 41 = .ok (.iaload, 1) := by decide +kernel
theorem dX6_seatBy_42 : decode cX6_seatBy 42 = .ok (.invokestatic 51, 3) := by decide +kernel
theorem dX6_seatBy_45 : decode cX6_seatBy 45 = .ok (.istore 4, 2) := by decide +kernel
theorem dX6_seatBy_47 : decode cX6_seatBy 47 = .ok (.aload_n 0, 1) := by decide +kernel
theorem dX6_seatBy_48 : decode cX6_seatBy 48 = .ok (.iload_n 3, 1) := by decide +kernel
theorem dX6_seatBy_49 : decode cX6_seatBy 49 = .ok (.iload_n 2, 1) := by decide +kernel
theorem dX6_seatBy_50 : decode cX6_seatBy 50 = .ok (.iload 4, 2) := by decide +kernel
theorem dX6_seatBy_52 : decode cX6_seatBy 52 = .ok (.idiv, 1) := by decide +kernel
theorem dX6_seatBy_53 : decode cX6_seatBy 53 = .ok (.iadd, 1) := by decide +kernel
theorem dX6_seatBy_54 : decode cX6_seatBy 54 = .ok (.aload_n 0, 1) := by decide +kernel
theorem dX6_seatBy_55 : decode cX6_seatBy 55 = .ok (.getfield 21, 3) := by decide +kernel
theorem dX6_seatBy_58 : decode cX6_seatBy 58 = .ok (.iconst 1, 1) := by decide +kernel
theorem dX6_seatBy_59 : decode cX6_seatBy 59 = .ok (.isub, 1) := by decide +kernel
theorem dX6_seatBy_60 : decode cX6_seatBy 60 = .ok (.invokestatic 57, 3) := by decide +kernel
theorem dX6_seatBy_63 : decode cX6_seatBy 63 = .ok (.iload_n 3, 1) := by decide +kernel
theorem dX6_seatBy_64 : decode cX6_seatBy 64 = .ok (.invokevirtual 60, 3) := by decide +kernel
theorem dX6_seatBy_67 : decode cX6_seatBy 67 = .ok (.iload_n 2, 1) := by decide +kernel
theorem dX6_seatBy_68 : decode cX6_seatBy 68 = .ok (.iload 4, 2) := by decide +kernel
theorem dX6_seatBy_70 : decode cX6_seatBy 70 = .ok (.irem, 1) := by decide +kernel
theorem dX6_seatBy_71 : decode cX6_seatBy 71 = .ok (.istore_n 2, 1) := by decide +kernel
theorem dX6_seatBy_72 : decode cX6_seatBy 72 = .ok (.iinc 3 1, 3) := by decide +kernel
theorem dX6_seatBy_75 : decode cX6_seatBy 75 = .ok (.goto (-54), 3) := by decide +kernel
theorem dX6_seatBy_78 : decode cX6_seatBy 78 = .ok (.return_, 1) := by decide +kernel
theorem dX6_bringForward_0 : decode cX6_bringForward 0 = .ok (.aload_n 0, 1) := by decide +kernel
theorem dX6_bringForward_1 : decode cX6_bringForward 1 = .ok (.getfield 15, 3) := by decide +kernel
theorem dX6_bringForward_4 : decode cX6_bringForward 4 = .ok (.iload_n 1, 1) := by decide +kernel
theorem dX6_bringForward_5 : decode cX6_bringForward 5 = .ok (.iaload, 1) := by decide +kernel
theorem dX6_bringForward_6 : decode cX6_bringForward 6 = .ok (.istore_n 3, 1) := by decide +kernel
theorem dX6_bringForward_7 : decode cX6_bringForward 7 = .ok (.iload_n 1, 1) := by decide +kernel
theorem dX6_bringForward_8 : decode cX6_bringForward 8 = .ok (.istore 4, 2) := by decide +kernel
theorem dX6_bringForward_10 : decode cX6_bringForward 10 = .ok (.iload 4, 2) := by decide +kernel
theorem dX6_bringForward_12 : decode cX6_bringForward 12 = .ok (.iload_n 2, 1) := by decide +kernel
theorem dX6_bringForward_13 : decode cX6_bringForward 13 = .ok (.if_icmp .le 25, 3) := by decide +kernel
theorem dX6_bringForward_16 : decode cX6_bringForward 16 = .ok (.aload_n 0, 1) := by decide +kernel
theorem dX6_bringForward_17 : decode cX6_bringForward 17 = .ok (.getfield 15, 3) := by decide +kernel
theorem dX6_bringForward_20 : decode cX6_bringForward 20 = .ok (.iload 4, 2) := by decide +kernel
theorem dX6_bringForward_22 : decode cX6_bringForward 22 = .ok (.aload_n 0, 1) := by decide +kernel
theorem dX6_bringForward_23 : decode cX6_bringForward 23 = .ok (.getfield 15, 3) := by decide +kernel
theorem dX6_bringForward_26 : decode cX6_bringForward 26 = .ok (.iload 4, 2) := by decide +kernel
theorem dX6_bringForward_28 : decode cX6_bringForward 28 = .ok (.iconst 1, 1) := by decide +kernel
theorem dX6_bringForward_29 : decode cX6_bringForward 29 = .ok (.isub, 1) := by decide +kernel
theorem dX6_bringForward_30 : decode cX6_bringForward 30 = .ok (.iaload, 1) := by decide +kernel
theorem dX6_bringForward_31 : decode cX6_bringForward 31 = .ok (.iastore, 1) := by decide +kernel
theorem dX6_bringForward_32 : decode cX6_bringForward 32 = .ok (.iinc 4 (-1), 3) := by decide +kernel
theorem dX6_bringForward_35 : decode cX6_bringForward 35 = .ok (.goto (-25), 3) := by decide +kernel
theorem dX6_bringForward_38 : decode cX6_bringForward 38 = .ok (.aload_n 0, 1) := by decide +kernel
theorem dX6_bringForward_39 : decode cX6_bringForward 39 = .ok (.getfield 15, 3) := by decide +kernel
theorem dX6_bringForward_42 : decode cX6_bringForward 42 = .ok (.iload_n 2, 1) := by decide +kernel
theorem dX6_bringForward_43 : decode cX6_bringForward 43 = .ok (.iload_n 3, 1) := by decide +kernel
theorem dX6_bringForward_44 : decode cX6_bringForward 44 = .ok (.iastore, 1) := by decide +kernel
theorem dX6_bringForward_45 : decode cX6_bringForward 45 = .ok (.return_, 1) := by decide +kernel
theorem dX6_giveTenths_0 : decode cX6_giveTenths 0 = .ok (.iconst 0, 1) := by decide +kernel
theorem dX6_giveTenths_1 : decode cX6_giveTenths 1 = .ok (.istore_n 2, 1) := by decide +kernel
theorem dX6_giveTenths_2 : decode cX6_giveTenths 2 = .ok (.iload_n 2, 1) := by decide +kernel
theorem dX6_giveTenths_3 : decode cX6_giveTenths 3 = .ok (.aload_n 0, 1) := by decide +kernel
theorem dX6_giveTenths_4 : decode cX6_giveTenths 4 = .ok (.getfield 21, 3) := by decide +kernel
theorem dX6_giveTenths_7 : decode cX6_giveTenths 7 = .ok (.if_icmp .ge 26, 3) := by decide +kernel
theorem dX6_giveTenths_10 : decode cX6_giveTenths 10 = .ok (.aload_n 1, 1) := by decide +kernel
theorem dX6_giveTenths_11 : decode cX6_giveTenths 11 = .ok (.getfield 33, 3) := by decide +kernel
theorem dX6_giveTenths_14 : decode cX6_giveTenths 14 = .ok (.aload_n 0, 1) := by decide +kernel
theorem dX6_giveTenths_15 : decode cX6_giveTenths 15 = .ok (.getfield 15, 3) := by decide +kernel
theorem dX6_giveTenths_18 : decode cX6_giveTenths 18 = .ok (.iload_n 2, 1) := by decide +kernel
theorem dX6_giveTenths_19 : decode cX6_giveTenths 19 = .ok (.iaload, 1) := by decide +kernel
theorem dX6_giveTenths_20 : decode cX6_giveTenths 20 = .ok (.aload_n 0, 1) := by decide +kernel
theorem dX6_giveTenths_21 : decode cX6_giveTenths 21 = .ok (.getfield 9, 3) := by decide +kernel
theorem dX6_giveTenths_24 : decode cX6_giveTenths 24 = .ok (.iload_n 2, 1) := by decide +kernel
theorem dX6_giveTenths_25 : decode cX6_giveTenths 25 = .ok (.iaload, 1) := by decide +kernel
theorem dX6_giveTenths_26 : decode cX6_giveTenths 26 = .ok (.iastore, 1) := by decide +kernel
theorem dX6_giveTenths_27 : decode cX6_giveTenths 27 = .ok (.iinc 2 1, 3) := by decide +kernel
theorem dX6_giveTenths_30 : decode cX6_giveTenths 30 = .ok (.goto (-28), 3) := by decide +kernel
theorem dX6_giveTenths_33 : decode cX6_giveTenths 33 = .ok (.return_, 1) := by decide +kernel
theorem dX7_init_0 : decode cX7_init 0 = .ok (.aload_n 0, 1) := by decide +kernel
theorem dX7_init_1 : decode cX7_init 1 = .ok (.invokespecial 3, 3) := by decide +kernel
theorem dX7_init_4 : decode cX7_init 4 = .ok (.aload_n 0, 1) := by decide +kernel
theorem dX7_init_5 : decode cX7_init 5 = .ok (.iconst 2, 1) := by decide +kernel
theorem dX7_init_6 : decode cX7_init 6 = .ok (.newarray .int, 2) := by decide +kernel
theorem dX7_init_8 : decode cX7_init 8 = .ok (.putfield 9, 3) := by decide +kernel
theorem dX7_init_11 : decode cX7_init 11 = .ok (.aload_n 0, 1) := by decide +kernel
theorem dX7_init_12 : decode cX7_init 12 = .ok (.iconst 2, 1) := by decide +kernel
theorem dX7_init_13 : decode cX7_init 13 = .ok (.newarray .int, 2) := by decide +kernel
theorem dX7_init_15 : decode cX7_init 15 = .ok (.putfield 15, 3) := by decide +kernel
theorem dX7_init_18 : decode cX7_init 18 = .ok (.aload_n 0, 1) := by decide +kernel
theorem dX7_init_19 : decode cX7_init 19 = .ok (.iconst 2, 1) := by decide +kernel
theorem dX7_init_20 : decode cX7_init 20 = .ok (.newarray .int, 2) := by decide +kernel
theorem dX7_init_22 : decode cX7_init 22 = .ok (.putfield 18, 3) := by decide +kernel
theorem dX7_init_25 : decode cX7_init 25 = .ok (.aload_n 0, 1) := by decide +kernel
theorem dX7_init_26 : decode cX7_init 26 = .ok (.iconst 0, 1) := by decide +kernel
theorem dX7_init_27 : decode cX7_init 27 = .ok (.putfield 21, 3) := by decide +kernel
theorem dX7_init_30 : decode cX7_init 30 = .ok (.aload_n 0, 1) := by decide +kernel
theorem dX7_init_31 : decode cX7_init 31 = .ok (.iconst 0, 1) := by decide +kernel
theorem dX7_init_32 : decode cX7_init 32 = .ok (.putfield 25, 3) := by decide +kernel
theorem dX7_init_35 : decode cX7_init 35 = .ok (.aload_n 0, 1) := by decide +kernel
theorem dX7_init_36 : decode cX7_init 36 = .ok (.iconst 0, 1) := by decide +kernel
theorem dX7_init_37 : decode cX7_init 37 = .ok (.putfield 28, 3) := by decide +kernel
theorem dX7_init_40 : decode cX7_init 40 = .ok (.aload_n 0, 1) := by decide +kernel
theorem dX7_init_41 : decode cX7_init 41 = .ok (.iconst 0, 1) := by decide +kernel
theorem dX7_init_42 : decode cX7_init 42 = .ok (.putfield 31, 3) := by decide +kernel
theorem dX7_init_45 : decode cX7_init 45 = .ok (.aload_n 0, 1) := by decide +kernel
theorem dX7_init_46 : decode cX7_init 46 = .ok (.iconst 0, 1) := by decide +kernel
theorem dX7_init_47 : decode cX7_init 47 = .ok (.putfield 34, 3) := by decide +kernel
theorem dX7_init_50 : decode cX7_init 50 = .ok (.return_, 1) := by decide +kernel
theorem dX7_rest_0 : decode cX7_rest 0 = .ok (.aload_n 0, 1) := by decide +kernel
theorem dX7_rest_1 : decode cX7_rest 1 = .ok (.getfield 9, 3) := by decide +kernel
theorem dX7_rest_4 : decode cX7_rest 4 = .ok (.iconst 0, 1) := by decide +kernel
theorem dX7_rest_5 : decode cX7_rest 5 = .ok (.invokestatic 37, 3) := by decide +kernel
theorem dX7_rest_8 : decode cX7_rest 8 = .ok (.aload_n 0, 1) := by decide +kernel
theorem dX7_rest_9 : decode cX7_rest 9 = .ok (.getfield 15, 3) := by decide +kernel
theorem dX7_rest_12 : decode cX7_rest 12 = .ok (.iconst 0, 1) := by decide +kernel
theorem dX7_rest_13 : decode cX7_rest 13 = .ok (.invokestatic 37, 3) := by decide +kernel
theorem dX7_rest_16 : decode cX7_rest 16 = .ok (.aload_n 0, 1) := by decide +kernel
theorem dX7_rest_17 : decode cX7_rest 17 = .ok (.getfield 18, 3) := by decide +kernel
theorem dX7_rest_20 : decode cX7_rest 20 = .ok (.iconst (-1), 1) := by decide +kernel
theorem dX7_rest_21 : decode cX7_rest 21 = .ok (.invokestatic 37, 3) := by decide +kernel
theorem dX7_rest_24 : decode cX7_rest 24 = .ok (.aload_n 0, 1) := by decide +kernel
theorem dX7_rest_25 : decode cX7_rest 25 = .ok (.iconst 0, 1) := by decide +kernel
theorem dX7_rest_26 : decode cX7_rest 26 = .ok (.putfield 21, 3) := by decide +kernel
theorem dX7_rest_29 : decode cX7_rest 29 = .ok (.aload_n 0, 1) := by decide +kernel
theorem dX7_rest_30 : decode cX7_rest 30 = .ok (.iconst 0, 1) := by decide +kernel
theorem dX7_rest_31 : decode cX7_rest 31 = .ok (.putfield 25, 3) := by decide +kernel
theorem dX7_rest_34 : decode cX7_rest 34 = .ok (.aload_n 0, 1) := by decide +kernel
theorem dX7_rest_35 : decode cX7_rest 35 = .ok (.iconst 0, 1) := by decide +kernel
theorem dX7_rest_36 : decode cX7_rest 36 = .ok (.putfield 28, 3) := by decide +kernel
theorem dX7_rest_39 : decode cX7_rest 39 = .ok (.aload_n 0, 1) := by decide +kernel
theorem dX7_rest_40 : decode cX7_rest 40 = .ok (.iconst 0, 1) := by decide +kernel
theorem dX7_rest_41 : decode cX7_rest 41 = .ok (.putfield 31, 3) := by decide +kernel
theorem dX7_rest_44 : decode cX7_rest 44 = .ok (.aload_n 0, 1) := by decide +kernel
theorem dX7_rest_45 : decode cX7_rest 45 = .ok (.iconst 0, 1) := by decide +kernel
theorem dX7_rest_46 : decode cX7_rest 46 = .ok (.putfield 34, 3) := by decide +kernel
theorem dX7_rest_49 : decode cX7_rest 49 = .ok (.return_, 1) := by decide +kernel
theorem dX7_busyFor_0 : decode cX7_busyFor 0 = .ok (.aload_n 0, 1) := by decide +kernel
theorem dX7_busyFor_1 : decode cX7_busyFor 1 = .ok (.getfield 9, 3) := by decide +kernel
theorem dX7_busyFor_4 : decode cX7_busyFor 4 = .ok (.iload_n 1, 1) := by decide +kernel
theorem dX7_busyFor_5 : decode cX7_busyFor 5 = .ok (.iaload, 1) := by decide +kernel
theorem dX7_busyFor_6 : decode cX7_busyFor 6 = .ok (.iload_n 2, 1) := by decide +kernel
theorem dX7_busyFor_7 : decode cX7_busyFor 7 = .ok (.if_icmp .gt 17, 3) := by decide +kernel
theorem dX7_busyFor_10 : decode cX7_busyFor 10 = .ok (.iload_n 2, 1) := by decide +kernel
theorem dX7_busyFor_11 : decode cX7_busyFor 11 = .ok (.aload_n 0, 1) := by decide +kernel
theorem dX7_busyFor_12 : decode cX7_busyFor 12 = .ok (.getfield 15, 3) := by decide +kernel
theorem dX7_busyFor_15 : decode cX7_busyFor 15 = .ok (.iload_n 1, 1) := by decide +kernel
theorem dX7_busyFor_16 : decode cX7_busyFor 16 = .ok (.iaload, 1) := by decide +kernel
theorem dX7_busyFor_17 : decode cX7_busyFor 17 = .ok (.if_icmp .ge 7, 3) := by decide +kernel
theorem dX7_busyFor_20 : decode cX7_busyFor 20 = .ok (.iconst 1, 1) := by decide +kernel
theorem dX7_busyFor_21 : decode cX7_busyFor 21 = .ok (.goto 4, 3) := by decide +kernel
theorem dX7_busyFor_24 : decode cX7_busyFor 24 = .ok (.iconst 0, 1) := by decide +kernel
theorem dX7_busyFor_25 : decode cX7_busyFor 25 = .ok (.ireturn, 1) := by decide +kernel
theorem dX7_openAt_0 : decode cX7_openAt 0 = .ok (.aload_n 0, 1) := by decide +kernel
theorem dX7_openAt_1 : decode cX7_openAt 1 = .ok (.getfield 21, 3) := by decide +kernel
theorem dX7_openAt_4 : decode cX7_openAt 4 = .ok (.iload_n 1, 1) := by decide +kernel
theorem dX7_openAt_5 : decode cX7_openAt 5 = .ok (.if_icmp .gt 15, 3) := by decide +kernel
theorem dX7_openAt_8 : decode cX7_openAt 8 = .ok (.iload_n 1, 1) := by decide +kernel
theorem dX7_openAt_9 : decode cX7_openAt 9 = .ok (.aload_n 0, 1) := by decide +kernel
theorem dX7_openAt_10 : decode cX7_openAt 10 = .ok (.getfield 25, 3) := by decide +kernel
theorem dX7_openAt_13 : decode cX7_openAt 13 = .ok (.if_icmp .ge 7, 3) := by decide +kernel
theorem dX7_openAt_16 : decode cX7_openAt 16 = .ok (.iconst 1, 1) := by decide +kernel
theorem dX7_openAt_17 : decode cX7_openAt 17 = .ok (.goto 4, 3) := by decide +kernel
theorem dX7_openAt_20 : decode cX7_openAt 20 = .ok (.iconst 0, 1) := by decide +kernel
theorem dX7_openAt_21 : decode cX7_openAt 21 = .ok (.ireturn, 1) := by decide +kernel
theorem dX7_comesBackAt_0 : decode cX7_comesBackAt 0 = .ok (.aload_n 0, 1) := by decide +kernel
theorem dX7_comesBackAt_1 : decode cX7_comesBackAt 1 = .ok (.getfield 25, 3) := by decide +kernel
theorem dX7_comesBackAt_4 : decode cX7_comesBackAt 4 = .ok (.iload_n 1, 1) := by decide +kernel
theorem dX7_comesBackAt_5 : decode cX7_comesBackAt 5 = .ok (.if_icmp .gt 15, 3) := by decide +kernel
theorem dX7_comesBackAt_8 : decode cX7_comesBackAt 8 = .ok (.iload_n 1, 1) := by decide +kernel
theorem dX7_comesBackAt_9 : decode cX7_comesBackAt 9 = .ok (.aload_n 0, 1) := by decide +kernel
theorem dX7_comesBackAt_10 : decode cX7_comesBackAt 10 = .ok (.getfield 28, 3) := by decide +kernel
theorem dX7_comesBackAt_13 : decode cX7_comesBackAt 13 = .ok (.if_icmp .ge 7, 3) := by decide +kernel
theorem dX7_comesBackAt_16 : decode cX7_comesBackAt 16 = .ok (.iconst 1, 1) := by decide +kernel
theorem dX7_comesBackAt_17 : decode cX7_comesBackAt 17 = .ok (.goto 4, 3) := by decide +kernel
theorem dX7_comesBackAt_20 : decode cX7_comesBackAt 20 = .ok (.iconst 0, 1) := by decide +kernel
theorem dX7_comesBackAt_21 : decode cX7_comesBackAt 21 = .ok (.ireturn, 1) := by decide +kernel
theorem dX7_letThrough_0 : decode cX7_letThrough 0 = .ok (.aload_n 0, 1) := by decide +kernel
theorem dX7_letThrough_1 : decode cX7_letThrough 1 = .ok (.getfield 15, 3) := by decide +kernel
theorem dX7_letThrough_4 : decode cX7_letThrough 4 = .ok (.iload_n 2, 1) := by decide +kernel
theorem dX7_letThrough_5 : decode cX7_letThrough 5 = .ok (.iaload, 1) := by decide +kernel
theorem dX7_letThrough_6 : decode cX7_letThrough 6 = .ok (.iload_n 3, 1) := by decide +kernel
theorem dX7_letThrough_7 : decode cX7_letThrough 7 = .ok (.if_icmp .gt 21, 3) := by decide +kernel
theorem dX7_letThrough_10 : decode cX7_letThrough 10 = .ok (.aload_n 0, 1) := by decide +kernel
theorem dX7_letThrough_11 : decode cX7_letThrough 11 = .ok (.getfield 9, 3) := by decide +kernel
theorem dX7_letThrough_14 : decode cX7_letThrough 14 = .ok (.iload_n 2, 1) := by decide +kernel
theorem dX7_letThrough_15 : decode cX7_letThrough 15 = .ok (.iload_n 3, 1) := by decide +kernel
theorem dX7_letThrough_16 : decode cX7_letThrough 16 = .ok (.iastore, 1) := by decide +kernel
theorem dX7_letThrough_17 : decode cX7_letThrough 17 = .ok (.aload_n 0, 1) := by decide +kernel
theorem dX7_letThrough_18 : decode cX7_letThrough 18 = .ok (.getfield 15, 3) := by decide +kernel
theorem dX7_letThrough_21 : decode cX7_letThrough 21 = .ok (.iload_n 2, 1) := by decide +kernel
theorem dX7_letThrough_22 : decode cX7_letThrough 22 = .ok (.iload 4, 2) := by decide +kernel
theorem dX7_letThrough_24 : decode cX7_letThrough 24 = .ok (.iastore, 1) := by decide +kernel
theorem dX7_letThrough_25 : decode cX7_letThrough 25 = .ok (.goto 36, 3) := by decide +kernel
theorem dX7_letThrough_28 : decode cX7_letThrough 28 = .ok (.aload_n 0, 1) := by decide +kernel
theorem dX7_letThrough_29 : decode cX7_letThrough 29 = .ok (.getfield 9, 3) := by decide +kernel
theorem dX7_letThrough_32 : decode cX7_letThrough 32 = .ok (.iload_n 2, 1) := by decide +kernel
theorem dX7_letThrough_33 : decode cX7_letThrough 33 = .ok (.aload_n 0, 1) := by decide +kernel
theorem dX7_letThrough_34 : decode cX7_letThrough 34 = .ok (.getfield 9, 3) := by decide +kernel
theorem dX7_letThrough_37 : decode cX7_letThrough 37 = .ok (.iload_n 2, 1) := by decide +kernel
theorem dX7_letThrough_38 : decode cX7_letThrough 38 = .ok (.iaload, 1) := by decide +kernel
theorem dX7_letThrough_39 : decode cX7_letThrough 39 = .ok (.iload_n 3, 1) := by decide +kernel
theorem dX7_letThrough_40 : decode cX7_letThrough 40 = .ok (.invokestatic 43, 3) := by decide +kernel
theorem dX7_letThrough_43 : decode cX7_letThrough 43 = .ok (.iastore, 1) := by decide +kernel
theorem dX7_letThrough_44 : decode cX7_letThrough 44 = .ok (.aload_n 0, 1) := by decide +kernel
theorem dX7_letThrough_45 : decode cX7_letThrough 45 = .ok (.getfield 15, 3) := by decide +kernel
theorem dX7_letThrough_48 : decode cX7_letThrough 48 = .ok (.iload_n 2, 1) := by decide +kernel
theorem dX7_letThrough_49 : decode cX7_letThrough 49 = .ok (.aload_n 0, 1) := by decide +kernel
theorem dX7_letThrough_50 : decode cX7_letThrough 50 = .ok (.getfield 15, 3) := by decide +kernel
theorem dX7_letThrough_53 : decode cX7_letThrough 53 = .ok (.iload_n 2, 1) := by decide +kernel
theorem dX7_letThrough_54 : decode cX7_letThrough 54 = .ok (.iaload, 1) := by decide +kernel
theorem dX7_letThrough_55 : decode cX7_letThrough 55 = .ok (.iload 4, 2) := by decide +kernel
theorem dX7_letThrough_57 : decode cX7_letThrough 57 = .ok (.invokestatic 49, 3) := by decide +kernel
theorem dX7_letThrough_60 : decode cX7_letThrough 60 = .ok (.iastore, 1) := by decide +kernel
theorem dX7_letThrough_61 : decode cX7_letThrough 61 = .ok (.aload_n 0, 1) := by decide +kernel
theorem dX7_letThrough_62 : decode cX7_letThrough 62 = .ok (.getfield 18, 3) := by decide +kernel
theorem dX7_letThrough_65 : decode cX7_letThrough 65 = .ok (.iload_n 2, 1) := by decide +kernel
theorem dX7_letThrough_66 : decode cX7_letThrough 66 = .ok (.iload_n 1, 1) := by decide +kernel
theorem dX7_letThrough_67 : decode cX7_letThrough 67 = .ok (.iastore, 1) := by decide +kernel
theorem dX7_letThrough_68 : decode cX7_letThrough 68 = .ok (.return_, 1) := by decide +kernel
theorem dX7_takeKick_0 : decode cX7_takeKick 0 = .ok (.aload_n 0, 1) := by decide +kernel
theorem dX7_takeKick_1 : decode cX7_takeKick 1 = .ok (.iload_n 1, 1) := by decide +kernel
theorem dX7_takeKick_2 : decode cX7_takeKick 2 = .ok (.putfield 21, 3) := by decide +kernel
theorem dX7_takeKick_5 : decode cX7_takeKick 5 = .ok (.aload_n 0, 1) := by decide +kernel
theorem dX7_takeKick_6 : decode cX7_takeKick 6 = .ok (.iload_n 1, 1) := by decide +kernel
theorem dX7_takeKick_7 : decode cX7_takeKick 7 = .ok (.iload_n 2, 1) := by decide +kernel
theorem dX7_takeKick_8 : decode cX7_takeKick 8 = .ok (.iadd, 1) := by decide +kernel
theorem dX7_takeKick_9 : decode cX7_takeKick 9 = .ok (.putfield 25, 3) := by decide +kernel
theorem dX7_takeKick_12 : decode cX7_takeKick 12 = .ok (.aload_n 0, 1) := by decide +kernel
theorem dX7_takeKick_13 : decode cX7_takeKick 13 = .ok (.aload_n 0, 1) := by decide +kernel
theorem dX7_takeKick_14 : decode cX7_takeKick 14 = .ok (.getfield 25, 3) := by decide +kernel
theorem dX7_takeKick_17 : decode cX7_takeKick 17 = .ok (.iload_n 3, 1) := by decide +kernel
theorem dX7_takeKick_18 : decode cX7_takeKick 18 = .ok (.iadd, 1) := by decide +kernel
theorem dX7_takeKick_19 : decode cX7_takeKick 19 = .ok (.putfield 28, 3) := by decide +kernel
theorem dX7_takeKick_22 : decode cX7_takeKick 22 = .ok (.aload_n 0, 1) := by decide +kernel
theorem dX7_takeKick_23 : decode cX7_takeKick 23 = .ok (.dup, 1) := by decide +kernel
theorem dX7_takeKick_24 : decode cX7_takeKick 24 = .ok (.getfield 34, 3) := by decide +kernel
theorem dX7_takeKick_27 : decode cX7_takeKick 27 = .ok (.iconst 1, 1) := by decide +kernel
theorem dX7_takeKick_28 : decode cX7_takeKick 28 = .ok (.iadd, 1) := by decide +kernel
theorem dX7_takeKick_29 : decode cX7_takeKick 29 = .ok (.putfield 34, 3) := by decide +kernel
theorem dX7_takeKick_32 : decode cX7_takeKick 32 = .ok (.return_, 1) := by decide +kernel
theorem dX7_doing_0 : decode cX7_doing 0 = .ok (.aload_n 0, 1) := by decide +kernel
theorem dX7_doing_1 : decode cX7_doing 1 = .ok (.iconst 0, 1) := by decide +kernel
theorem dX7_doing_2 : decode cX7_doing 2 = .ok (.iload_n 1, 1) := by decide +kernel
theorem dX7_doing_3 : decode cX7_doing 3 = .ok (.invokevirtual 52, 3) := by decide +kernel
theorem dX7_doing_6 : decode cX7_doing 6 = .ok (.ifCond .ne 12, 3) := by decide +kernel
theorem dX7_doing_9 : decode cX7_doing 9 = .ok (.aload_n 0, 1) := by decide +kernel
theorem dX7_doing_10 : decode cX7_doing 10 = .ok (.iconst 1, 1) := by decide +kernel
theorem dX7_doing_11 : decode cX7_doing 11 = .ok (.iload_n 1, 1) := by decide +kernel
theorem dX7_doing_12 : decode cX7_doing 12 = .ok (.invokevirtual 52, 3) := by decide +kernel
theorem dX7_doing_15 : decode cX7_doing 15 = .ok (.ifCond .eq 5, 3) := by decide +kernel
theorem dX7_doing_18 : decode cX7_doing 18 = .ok (.iconst 1, 1) := by decide +kernel
theorem dX7_doing_19 : decode cX7_doing 19 = .ok (.ireturn, 1) := by decide +kernel
theorem dX7_doing_20 : decode cX7_doing 20 = .ok (.aload_n 0, 1) := by decide +kernel
theorem dX7_doing_21 : decode cX7_doing 21 = .ok (.iload_n 1, 1) := by decide +kernel
theorem dX7_doing_22 : decode cX7_doing 22 = .ok (.invokevirtual 56, 3) := by decide +kernel
theorem dX7_doing_25 : decode cX7_doing 25 = .ok (.ifCond .eq 5, 3) := by decide +kernel
theorem dX7_doing_28 : decode cX7_doing 28 = .ok (.iconst 2, 1) := by decide +kernel
theorem dX7_doing_29 : decode cX7_doing 29 = .ok (.ireturn, 1) := by decide +kernel
theorem dX7_doing_30 : decode cX7_doing 30 = .ok (.aload_n 0, 1) := by decide +kernel
theorem dX7_doing_31 : decode cX7_doing 31 = .ok (.iload_n 1, 1) := by decide +kernel
theorem dX7_doing_32 : decode cX7_doing 32 = .ok (.invokevirtual 60, 3) := by decide +kernel
theorem dX7_doing_35 : decode cX7_doing 35 = .ok (.ifCond .eq 7, 3) := by decide +kernel
theorem dX7_doing_38 : decode cX7_doing 38 = .ok (.iconst 3, 1) := by decide +kernel
theorem dX7_doing_39 : decode cX7_doing 39 = .ok (.goto 4, 3) := by decide +kernel
theorem dX7_doing_42 : decode cX7_doing 42 = .ok (.iconst 0, 1) := by decide +kernel
theorem dX7_doing_43 : decode cX7_doing 43 = .ok (.ireturn, 1) := by decide +kernel
theorem dX8_init_0 : decode cX8_init 0 = .ok (.aload_n 0, 1) := by decide +kernel
theorem dX8_init_1 : decode cX8_init 1 = .ok (.invokespecial 3, 3) := by decide +kernel
theorem dX8_init_4 : decode cX8_init 4 = .ok (.aload_n 0, 1) := by decide +kernel
theorem dX8_init_5 : decode cX8_init 5 = .ok (.new 9, 3) := by decide +kernel
theorem dX8_init_8 : decode cX8_init 8 = .ok (.dup, 1) := by decide +kernel
theorem dX8_init_9 : decode cX8_init 9 = .ok (.invokespecial 11, 3) := by decide +kernel
theorem dX8_init_12 : decode cX8_init 12 = .ok (.putfield 12, 3) := by decide +kernel
theorem dX8_init_15 : decode cX8_init 15 = .ok (.aload_n 0, 1) := by decide +kernel
theorem dX8_init_16 : decode cX8_init 16 = .ok (.new 18, 3) := by decide +kernel
theorem dX8_init_19 : decode cX8_init 19 = .ok (.dup, 1) := by decide +kernel
theorem dX8_init_20 : decode cX8_init 20 = .ok (.invokespecial 20, 3) := by decide +kernel
theorem dX8_init_23 : decode cX8_init 23 = .ok (.putfield 21, 3) := by decide +kernel
theorem dX8_init_26 : decode cX8_init 26 = .ok (.aload_n 0, 1) := by decide +kernel
theorem dX8_init_27 : decode cX8_init 27 = .ok (.iconst 0, 1) := by decide +kernel
theorem dX8_init_28 : decode cX8_init 28 = .ok (.putfield 25, 3) := by decide +kernel
theorem dX8_init_31 : decode cX8_init 31 = .ok (.aload_n 0, 1) := by decide +kernel
theorem dX8_init_32 : decode cX8_init 32 = .ok (.iconst 0, 1) := by decide +kernel
theorem dX8_init_33 : decode cX8_init 33 = .ok (.putfield 29, 3) := by decide +kernel
theorem dX8_init_36 : decode cX8_init 36 = .ok (.aload_n 0, 1) := by decide +kernel
theorem dX8_init_37 : decode cX8_init 37 = .ok (.aload_n 1, 1) := by decide +kernel
theorem dX8_init_38 : decode cX8_init 38 = .ok (.putfield 32, 3) := by decide +kernel
theorem dX8_init_41 : decode cX8_init 41 = .ok (.aload_n 0, 1) := by decide +kernel
theorem dX8_init_42 : decode cX8_init 42 = .ok (.aload_n 2, 1) := by decide +kernel
theorem dX8_init_43 : decode cX8_init 43 = .ok (.putfield 36, 3) := by decide +kernel
theorem dX8_init_46 : decode cX8_init 46 = .ok (.aload_n 0, 1) := by decide +kernel
theorem dX8_init_47 : decode cX8_init 47 = .ok (.aload_n 3, 1) := by decide +kernel
theorem dX8_init_48 : decode cX8_init 48 = .ok (.putfield 39, 3) := by decide +kernel
theorem dX8_init_51 : decode cX8_init 51 = .ok (.return_, 1) := by decide +kernel
theorem dX8_startSearch_0 : decode cX8_startSearch 0 = .ok (.aload_n 0, 1) := by decide +kernel
theorem dX8_startSearch_1 : decode cX8_startSearch 1 = .ok (.getfield 12, 3) := by decide +kernel
theorem dX8_startSearch_4 : decode cX8_startSearch 4 = .ok (.aload_n 0, 1) := by decide +kernel
theorem dX8_startSearch_5 : decode cX8_startSearch 5 = .ok (.getfield 36, 3) := by decide +kernel
theorem dX8_startSearch_8 : decode cX8_startSearch 8 = .ok (.invokevirtual 43, 3) := by decide +kernel
theorem dX8_startSearch_11 : decode cX8_startSearch 11 = .ok (.aload_n 0, 1) := by decide +kernel
theorem dX8_startSearch_12 : decode cX8_startSearch 12 = .ok (.iconst 0, 1) := by decide +kernel
theorem dX8_startSearch_13 : decode cX8_startSearch 13 = .ok (.putfield 25, 3) := by decide +kernel
theorem dX8_startSearch_16 : decode cX8_startSearch 16 = .ok (.aload_n 0, 1) := by decide +kernel
theorem dX8_startSearch_17 : decode cX8_startSearch 17 = .ok (.ldc 47, 2) := by decide +kernel
theorem dX8_startSearch_19 : decode cX8_startSearch 19 = .ok (.putfield 29, 3) := by decide +kernel
theorem dX8_startSearch_22 : decode cX8_startSearch 22 = .ok (.return_, 1) := by decide +kernel
theorem dX8_weigh_0 : decode cX8_weigh 0 = .ok (.aload_n 0, 1) := by decide +kernel
theorem dX8_weigh_1 : decode cX8_weigh 1 = .ok (.getfield 39, 3) := by decide +kernel
theorem dX8_weigh_4 : decode cX8_weigh 4 = .ok (.aload_n 0, 1) := by decide +kernel
theorem dX8_weigh_5 : decode cX8_weigh 5 = .ok (.getfield 12, 3) := by decide +kernel
theorem dX8_weigh_8 : decode cX8_weigh 8 = .ok (.invokevirtual 48, 3) := by decide +kernel
theorem dX8_weigh_11 : decode cX8_weigh 11 = .ok (.aload_n 0, 1) := by decide +kernel
theorem dX8_weigh_12 : decode cX8_weigh 12 = .ok (.getfield 39, 3) := by decide +kernel
theorem dX8_weigh_15 : decode cX8_weigh 15 = .ok (.invokevirtual 53, 3) := by decide +kernel
theorem dX8_weigh_18 : decode cX8_weigh 18 = .ok (.istore_n 2, 1) := by decide +kernel
theorem dX8_weigh_19 : decode cX8_weigh 19 = .ok (.iload_n 2, 1) := by decide +kernel
theorem dX8_weigh_20 : decode cX8_weigh 20 = .ok (.aload_n 0, 1) := by decide +kernel
theorem dX8_weigh_21 : decode cX8_weigh 21 = .ok (.getfield 29, 3) := by decide +kernel
theorem dX8_weigh_24 : decode cX8_weigh 24 = .ok (.if_icmp .ge 13, 3) := by decide +kernel
theorem dX8_weigh_27 : decode cX8_weigh 27 = .ok (.aload_n 0, 1) := by decide +kernel
theorem dX8_weigh_28 : decode cX8_weigh 28 = .ok (.iload_n 1, 1) := by decide +kernel
theorem dX8_weigh_29 : decode cX8_weigh 29 = .ok (.putfield 25, 3) := by decide +kernel
theorem dX8_weigh_32 : decode cX8_weigh 32 = .ok (.aload_n 0, 1) := by decide +kernel
theorem dX8_weigh_33 : decode cX8_weigh 33 = .ok (.iload_n 2, 1) := by decide +kernel
theorem dX8_weigh_34 : decode cX8_weigh 34 = .ok (.putfield 29, 3) := by decide +kernel
theorem dX8_weigh_37 : decode cX8_weigh 37 = .ok (.return_, 1) := by decide +kernel
theorem dX8_trialCost_0 : decode cX8_trialCost 0 = .ok (.aload_n 0, 1) := by decide +kernel
theorem dX8_trialCost_1 : decode cX8_trialCost 1 = .ok (.getfield 39, 3) := by decide +kernel
theorem dX8_trialCost_4 : decode cX8_trialCost 4 = .ok (.aload_n 0, 1) := by decide +kernel
theorem dX8_trialCost_5 : decode cX8_trialCost 5 = .ok (.getfield 12, 3) := by decide +kernel
theorem dX8_trialCost_8 : decode cX8_trialCost 8 = .ok (.invokevirtual 48, 3) := by decide +kernel
theorem dX8_trialCost_11 : decode cX8_trialCost 11 = .ok (.aload_n 0, 1) := by decide +kernel
theorem dX8_trialCost_12 : decode cX8_trialCost 12 = .ok (.getfield 39, 3) := by decide +kernel
theorem dX8_trialCost_15 : decode cX8_trialCost 15 = .ok (.invokevirtual 53, 3) := by decide +kernel
theorem dX8_trialCost_18 : decode cX8_trialCost 18 = .ok (.ireturn, 1) := by decide +kernel
theorem dX8_allBy_0 : decode cX8_allBy 0 = .ok (.aload_n 0, 1) := by decide +kernel
theorem dX8_allBy_1 : decode cX8_allBy 1 = .ok (.getfield 12, 3) := by decide +kernel
theorem dX8_allBy_4 : decode cX8_allBy 4 = .ok (.aload_n 0, 1) := by decide +kernel
theorem dX8_allBy_5 : decode cX8_allBy 5 = .ok (.getfield 36, 3) := by decide +kernel
theorem dX8_allBy_8 : decode cX8_allBy 8 = .ok (.invokevirtual 43, 3) := by decide +kernel
theorem dX8_allBy_11 : decode cX8_allBy 11 = .ok (.aload_n 0, 1) := by decide +kernel
theorem dX8_allBy_12 : decode cX8_allBy 12 = .ok (.getfield 12, 3) := by decide +kernel
theorem dX8_allBy_15 : decode cX8_allBy 15 = .ok (.getfield 57, 3) := by decide +kernel
theorem dX8_allBy_18 : decode cX8_allBy 18 = .ok (.iload_n 1, 1) := by decide +kernel
theorem dX8_allBy_19 : decode cX8_allBy 19 = .ok (.invokestatic 61, 3) := by decide +kernel
theorem dX8_allBy_22 : decode cX8_allBy 22 = .ok (.aload_n 0, 1) := by decide +kernel
theorem dX8_allBy_23 : decode cX8_allBy 23 = .ok (.invokevirtual 67, 3) := by decide +kernel
theorem dX8_allBy_26 : decode cX8_allBy 26 = .ok (.ireturn, 1) := by decide +kernel
theorem dX8_bestRules_0 : decode cX8_bestRules 0 = .ok (.aload_n 0, 1) := by decide +kernel
theorem dX8_bestRules_1 : decode cX8_bestRules 1 = .ok (.invokevirtual 70, 3) := by decide +kernel
theorem dX8_bestRules_4 : decode cX8_bestRules 4 = .ok (.iconst 1, 1) := by decide +kernel
theorem dX8_bestRules_5 : decode cX8_bestRules 5 = .ok (.istore_n 2, 1) := by decide +kernel
theorem dX8_bestRules_6 : decode cX8_bestRules 6 = .ok (.iconst 0, 1) := by decide +kernel
theorem dX8_bestRules_7 : decode cX8_bestRules 7 = .ok (.istore_n 3, 1) := by decide +kernel
theorem dX8_bestRules_8 : decode cX8_bestRules 8 = .ok (.iload_n 3, 1) := by decide +kernel
theorem dX8_bestRules_9 : decode cX8_bestRules 9 = .ok (.aload_n 0, 1) := by decide +kernel
theorem dX8_bestRules_10 : decode cX8_bestRules 10 = .ok (.getfield 32, 3) := by decide +kernel
theorem dX8_bestRules_13 : decode cX8_bestRules 13 = .ok (.getfield 73, 3) := by decide +kernel
theorem dX8_bestRules_16 : decode cX8_bestRules 16 = .ok (.if_icmp .ge 13, 3) := by decide +kernel
theorem dX8_bestRules_19 : decode cX8_bestRules 19 = .ok (.iload_n 2, 1) := by decide +kernel
theorem dX8_bestRules_20 : decode cX8_bestRules 20 = .ok (.iconst 3, 1) := by decide +kernel
theorem dX8_bestRules_21 : decode cX8_bestRules 21 = .ok (.imul, 1) := by decide +kernel
theorem dX8_bestRules_22 : decode cX8_bestRules 22 = .ok (.istore_n 2, 1) := by decide +kernel
theorem dX8_bestRules_23 : decode cX8_bestRules 23 = .ok (.iinc 3 1, 3) := by decide +kernel
theorem dX8_bestRules_26 : decode cX8_bestRules 26 = .ok (.goto (-18), 3) := by decide +kernel
theorem dX8_bestRules_29 : decode cX8_bestRules 29 = .ok (.iconst 0, 1) := by decide +kernel
theorem dX8_bestRules_30 : decode cX8_bestRules 30 = .ok (.istore_n 3, 1) := by decide +kernel
theorem dX8_bestRules_31 : decode cX8_bestRules 31 = .ok (.iload_n 3, 1) := by decide +kernel
theorem dX8_bestRules_32 : decode cX8_bestRules 32 = .ok (.iload_n 2, 1) := by decide +kernel
theorem dX8_bestRules_33 : decode cX8_bestRules 33 = .ok (.if_icmp .ge 26, 3) := by decide +kernel
theorem dX8_bestRules_36 : decode cX8_bestRules 36 = .ok (.aload_n 0, 1) := by decide +kernel
theorem dX8_bestRules_37 : decode cX8_bestRules 37 = .ok (.getfield 29, 3) := by decide +kernel
theorem dX8_bestRules_40 : decode cX8_bestRules 40 = .ok (.ifCond .le 19, 3) := by decide +kernel
theorem dX8_bestRules_43 : decode cX8_bestRules 43 = .ok (.aload_n 0, 1) := by decide +kernel
theorem dX8_bestRules_44 : decode cX8_bestRules 44 = .ok (.iload_n 3, 1) := by decide +kernel
theorem dX8_bestRules_45 : decode cX8_bestRules 45 = .ok (.invokevirtual 78, 3) := by decide +kernel
theorem dX8_bestRules_48 : decode cX8_bestRules 48 = .ok (.aload_n 0, 1) := by decide +kernel
theorem dX8_bestRules_49 : decode cX8_bestRules 49 = .ok (.iload_n 3, 1) := by decide +kernel
theorem dX8_bestRules_50 : decode cX8_bestRules 50 = .ok (.invokevirtual 82, 3) := by decide +kernel
theorem dX8_bestRules_53 : decode cX8_bestRules 53 = .ok (.iinc 3 1, 3) := by decide +kernel
theorem dX8_bestRules_56 : decode cX8_bestRules 56 = .ok (.goto (-25), 3) := by decide +kernel
theorem dX8_bestRules_59 : decode cX8_bestRules 59 = .ok (.aload_n 0, 1) := by decide +kernel
theorem dX8_bestRules_60 : decode cX8_bestRules 60 = .ok (.aload_n 0, 1) := by decide +kernel
theorem dX8_bestRules_61 : decode cX8_bestRules 61 = .ok (.getfield 25, 3) := by decide +kernel
theorem dX8_bestRules_64 : decode cX8_bestRules 64 = .ok (.invokevirtual 78, 3) := by decide +kernel
theorem dX8_bestRules_67 : decode cX8_bestRules 67 = .ok (.iload_n 1, 1) := by decide +kernel
theorem dX8_bestRules_68 : decode cX8_bestRules 68 = .ok (.ifCond .lt 21, 3) := by decide +kernel
theorem dX8_bestRules_71 : decode cX8_bestRules 71 = .ok (.iload_n 1, 1) := by decide +kernel
theorem dX8_bestRules_72 : decode cX8_bestRules 72 = .ok (.bipush 6, 2) := by decide +kernel
theorem dX8_bestRules_74 : decode cX8_bestRules 74 = .ok (.if_icmp .ge 15, 3) := by decide +kernel
theorem dX8_bestRules_77 : decode cX8_bestRules 77 = .ok (.aload_n 0, 1) := by decide +kernel
theorem dX8_bestRules_78 : decode cX8_bestRules 78 = .ok (.getfield 12, 3) := by decide +kernel
theorem dX8_bestRules_81 : decode cX8_bestRules 81 = .ok (.getfield 57, 3) := by decide +kernel
theorem dX8_bestRules_84 : decode cX8_bestRules 84 = .ok (.iload_n 1, 1) := by decide +kernel
theorem dX8_bestRules_85 : decode cX8_bestRules 85 = .ok (.iaload, 1) := by decide +kernel
theorem dX8_bestRules_86 : decode cX8_bestRules 86 = .ok (.goto 7, 3) := by decide +kernel
theorem dX8_bestRules_89 : decode cX8_bestRules 89 = .ok (.aload_n 0, 1) := by decide +kernel
theorem dX8_bestRules_90 : decode cX8_bestRules 90 = .ok (.getfield 29, 3) := by decide +kernel
theorem dX8_bestRules_93 : decode cX8_bestRules 93 = .ok (.ireturn, 1) := by decide +kernel
theorem dX8_spellRules_0 : decode cX8_spellRules 0 = .ok (.iload_n 1, 1) := by decide +kernel
theorem dX8_spellRules_1 : decode cX8_spellRules 1 = .ok (.istore_n 2, 1) := by decide +kernel
theorem dX8_spellRules_2 : decode cX8_spellRules 2 = .ok (.aload_n 0, 1) := by decide +kernel
theorem dX8_spellRules_3 : decode cX8_spellRules 3 = .ok (.getfield 32, 3) := by decide +kernel
theorem dX8_spellRules_6 : decode cX8_spellRules 6 = .ok (.getfield 73, 3) := by decide +kernel
theorem dX8_spellRules_9 : decode cX8_spellRules 9 = .ok (.iconst 1, 1) := by decide +kernel
theorem dX8_spellRules_10 : decode cX8_spellRules 10 = .ok (.isub, 1) := by decide +kernel
theorem dX8_spellRules_11 : decode cX8_spellRules 11 = .ok (.istore_n 3, 1) := by decide +kernel
theorem dX8_spellRules_12 : decode cX8_spellRules 12 = .ok (.iload_n 3, 1) := by decide +kernel
theorem dX8_spellRules_13 : decode cX8_spellRules 13 = .ok (.ifCond .lt 25, 3) := by decide +kernel
theorem dX8_spellRules_16 : decode cX8_spellRules 16 = .ok (.aload_n 0, 1) := by decide +kernel
theorem dX8_spellRules_17 : decode cX8_spellRules 17 = .ok (.getfield 12, 3) := by decide +kernel
theorem dX8_spellRules_20 : decode cX8_spellRules 20 = .ok (.getfield 57, 3) := by decide +kernel
theorem dX8_spellRules_23 : decode cX8_spellRules 23 = .ok (.iload_n 3, 1) := by decide +kernel
theorem dX8_spellRules_24 : decode cX8_spellRules 24 = .ok (.iload_n 2, 1) := by decide +kernel
theorem dX8_spellRules_25 : decode cX8_spellRules 25 = .ok (.iconst 3, 1) := by decide +kernel
theorem dX8_spellRules_26 : decode cX8_spellRules 26 = .ok (.irem, 1) := by decide +kernel
theorem dX8_spellRules_27 : decode cX8_spellRules 27 = .ok (.iastore, 1) := by decide +kernel
theorem dX8_spellRules_28 : decode cX8_spellRules 28 = .ok (.iload_n 2, 1) := by decide +kernel
theorem dX8_spellRules_29 : decode cX8_spellRules 29 = .ok (.iconst 3, 1) := by decide +kernel
theorem dX8_spellRules_30 : decode cX8_spellRules 30 = .ok (.idiv, 1) := by decide +kernel
theorem dX8_spellRules_31 : decode cX8_spellRules 31 = .ok (.istore_n 2, 1) := by decide +kernel
theorem dX8_spellRules_32 : decode cX8_spellRules 32 = .ok (.iinc 3 (-1), 3) := by decide +kernel
theorem dX8_spellRules_35 : decode cX8_spellRules 35 = .ok (.goto (-23), 3) := by decide +kernel
theorem dX8_spellRules_38 : decode cX8_spellRules 38 = .ok (.return_, 1) := by decide +kernel
theorem dX8_findKick_0 : decode cX8_findKick 0 = .ok (.aload_n 0, 1) := by decide +kernel
theorem dX8_findKick_1 : decode cX8_findKick 1 = .ok (.invokevirtual 70, 3) := by decide +kernel
theorem dX8_findKick_4 : decode cX8_findKick 4 = .ok (.iconst 1, 1) := by decide +kernel
theorem dX8_findKick_5 : decode cX8_findKick 5 = .ok (.istore_n 2, 1) := by decide +kernel
theorem dX8_findKick_6 : decode cX8_findKick 6 = .ok (.iload_n 2, 1) := by decide +kernel
theorem dX8_findKick_7 : decode cX8_findKick 7 = .ok (.bipush 9, 2) := by decide +kernel
theorem dX8_findKick_9 : decode cX8_findKick 9 = .ok (.if_icmp .gt 31, 3) := by decide +kernel
theorem dX8_findKick_12 : decode cX8_findKick 12 = .ok (.aload_n 0, 1) := by decide +kernel
theorem dX8_findKick_13 : decode cX8_findKick 13 = .ok (.getfield 29, 3) := by decide +kernel
theorem dX8_findKick_16 : decode cX8_findKick 16 = .ok (.ifCond .le 24, 3) := by decide +kernel
theorem dX8_findKick_19 : decode cX8_findKick 19 = .ok (.aload_n 0, 1) := by decide +kernel
theorem dX8_findKick_20 : decode cX8_findKick 20 = .ok (.getfield 12, 3) := by decide +kernel
theorem dX8_findKick_23 : decode cX8_findKick 23 = .ok (.getfield 85, 3) := by decide +kernel
theorem dX8_findKick_26 : decode cX8_findKick 26 = .ok (.iload_n 1, 1) := by decide +kernel
theorem dX8_findKick_27 : decode cX8_findKick 27 = .ok (.iload_n 2, 1) := by decide +kernel
theorem dX8_findKick_28 : decode cX8_findKick 28 = .ok (.iastore, 1) := by decide +kernel
theorem dX8_findKick_29 : decode cX8_findKick 29 = .ok (.aload_n 0, 1) := by decide +kernel
theorem dX8_findKick_30 : decode cX8_findKick 30 = .ok (.iload_n 2, 1) := by decide +kernel
theorem dX8_findKick_31 : decode cX8_findKick 31 = .ok (.invokevirtual 82, 3) := by decide +kernel
theorem dX8_findKick_34 : decode cX8_findKick 34 = .ok (.iinc 2 1, 3) := by decide +kernel
theorem dX8_findKick_37 : decode cX8_findKick 37 = .ok (.goto (-31), 3) := by decide +kernel
theorem dX8_findKick_40 : decode cX8_findKick 40 = .ok (.return_, 1) := by decide +kernel
theorem dX8_findChange_0 : decode cX8_findChange 0 = .ok (.aload_n 0, 1) := by decide +kernel
theorem dX8_findChange_1 : decode cX8_findChange 1 = .ok (.invokevirtual 70, 3) := by decide +kernel
theorem dX8_findChange_4 : decode cX8_findChange 4 = .ok (.iconst 0, 1) := by decide +kernel
theorem dX8_findChange_5 : decode cX8_findChange 5 = .ok (.istore_n 3, 1) := by decide +kernel
theorem dX8_findChange_6 : decode cX8_findChange 6 = .ok (.iload_n 3, 1) := by decide +kernel
theorem dX8_findChange_7 : decode cX8_findChange 7 = .ok (.sipush 1000, 3) := by decide +kernel
theorem dX8_findChange_10 : decode cX8_findChange 10 = .ok (.if_icmp .gt 42, 3) := by decide +kernel
theorem dX8_findChange_13 : decode cX8_findChange 13 = .ok (.aload_n 0, 1) := by decide +kernel
theorem dX8_findChange_14 : decode cX8_findChange 14 = .ok (.getfield 29, 3) := by decide +kernel
theorem dX8_findChange_17 : decode cX8_findChange 17 = .ok (.ifCond .le 35, 3) := by decide +kernel
theorem dX8_findChange_20 : decode cX8_findChange 20 = .ok (.iload_n 3, 1) := by decide +kernel
theorem dX8_findChange_21 : decode cX8_findChange 21 = .ok (.ifCond .eq 13, 3) := by decide +kernel
theorem dX8_findChange_24 : decode cX8_findChange 24 = .ok (.aload_n 0, 1) := by decide +kernel
theorem dX8_findChange_25 : decode cX8_findChange 25 = .ok (.iload_n 3, 1) := by decide +kernel
theorem dX8_findChange_26 : decode cX8_findChange 26 = .ok (.iconst 1, 1) := by decide +kernel
theorem dX8_findChange_27 : decode cX8_findChange 27 = .ok (.isub, 1) := by decide +kernel
theorem dX8_findChange_28 : decode cX8_findChange 28 = .ok (.invokevirtual 88, 3) := by decide +kernel
theorem dX8_findChange_31 : decode cX8_findChange 31 = .ok (.ifCond .eq 15, 3) := by decide +kernel
theorem dX8_findChange_34 : decode cX8_findChange 34 = .ok (.aload_n 0, 1) := by decide +kernel
theorem dX8_findChange_35 : decode cX8_findChange 35 = .ok (.iload_n 3, 1) := by decide +kernel
theorem dX8_findChange_36 : decode cX8_findChange 36 = .ok (.iload_n 1, 1) := by decide +kernel
theorem dX8_findChange_37 : decode cX8_findChange 37 = .ok (.iload_n 2, 1) := by decide +kernel
theorem dX8_findChange_38 : decode cX8_findChange 38 = .ok (.invokevirtual 92, 3) := by decide +kernel
theorem dX8_findChange_41 : decode cX8_findChange 41 = .ok (.aload_n 0, 1) := by decide +kernel
theorem dX8_findChange_42 : decode cX8_findChange 42 = .ok (.iload_n 3, 1) := by decide +kernel
theorem dX8_findChange_43 : decode cX8_findChange 43 = .ok (.invokevirtual 82, 3) := by decide +kernel
theorem dX8_findChange_46 : decode cX8_findChange 46 = .ok (.iinc 3 1, 3) := by decide +kernel
theorem dX8_findChange_49 : decode cX8_findChange 49 = .ok (.goto (-43), 3) := by decide +kernel
theorem dX8_findChange_52 : decode cX8_findChange 52 = .ok (.return_, 1) := by decide +kernel
theorem dX8_oneComesAt_0 : decode cX8_oneComesAt 0 = .ok (.iconst 0, 1) := by decide +kernel
theorem dX8_oneComesAt_1 : decode cX8_oneComesAt 1 = .ok (.istore_n 2, 1) := by decide +kernel
theorem dX8_oneComesAt_2 : decode cX8_oneComesAt 2 = .ok (.iload_n 2, 1) := by decide +kernel
theorem dX8_oneComesAt_3 : decode cX8_oneComesAt 3 = .ok (.aload_n 0, 1) := by decide +kernel
theorem dX8_oneComesAt_4 : decode cX8_oneComesAt 4 = .ok (.getfield 32, 3) := by decide +kernel
theorem dX8_oneComesAt_7 : decode cX8_oneComesAt 7 = .ok (.getfield 73, 3) := by decide +kernel
theorem dX8_oneComesAt_10 : decode cX8_oneComesAt 10 = .ok (.if_icmp .ge 24, 3) := by decide +kernel
theorem dX8_oneComesAt_13 : decode cX8_oneComesAt 13 = .ok (.aload_n 0, 1) := by decide +kernel
theorem dX8_oneComesAt_14 : decode cX8_oneComesAt 14 = .ok (.getfield 36, 3) := by decide +kernel
theorem dX8_oneComesAt_17 : decode cX8_oneComesAt 17 = .ok (.getfield 96, 3) := by decide +kernel
theorem dX8_oneComesAt_20 : decode cX8_oneComesAt 20 = .ok (.iload_n 2, 1) := by decide +kernel
theorem dX8_oneComesAt_21 : decode cX8_oneComesAt 21 = .ok (.iaload, 1) := by decide +kernel
theorem dX8_oneComesAt_22 : decode cX8_oneComesAt 22 = .ok (.iload_n 1, 1) := by decide +kernel
theorem dX8_oneComesAt_23 : decode cX8_oneComesAt 23 = .ok (.if_icmp .ne 5, 3) := by decide +kernel
theorem dX8_oneComesAt_26 : decode cX8_oneComesAt 26 = .ok (.iconst 1, 1) := by decide +kernel
theorem dX8_oneComesAt_27 : decode cX8_oneComesAt 27 = .ok (.ireturn, 1) := by decide +kernel
theorem dX8_oneComesAt_28 : decode cX8_oneComesAt 28 = .ok (.iinc 2 1, 3) := by decide +kernel
theorem dX8_oneComesAt_31 : decode cX8_oneComesAt 31 = .ok (.goto (-29), 3) := by decide +kernel
theorem dX8_oneComesAt_34 : decode cX8_oneComesAt 34 = .ok (.iconst 0, 1) := by decide +kernel
theorem dX8_oneComesAt_35 : decode cX8_oneComesAt 35 = .ok (.ireturn, 1) := by decide +kernel
theorem dX8_changeAt_0 : decode cX8_changeAt 0 = .ok (.iconst 0, 1) := by decide +kernel
theorem dX8_changeAt_1 : decode cX8_changeAt 1 = .ok (.istore 4, 2) := by decide +kernel
theorem dX8_changeAt_3 : decode cX8_changeAt 3 = .ok (.iload 4, 2) := by decide +kernel
theorem dX8_changeAt_5 : decode cX8_changeAt 5 = .ok (.aload_n 0, 1) := by decide +kernel
theorem dX8_changeAt_6 : decode cX8_changeAt 6 = .ok (.getfield 32, 3) := by decide +kernel
theorem dX8_changeAt_9 : decode cX8_changeAt 9 = .ok (.getfield 73, 3) := by decide +kernel
theorem dX8_changeAt_12 : decode cX8_changeAt 12 = .ok (.if_icmp .ge 38, 3) := by decide +kernel
theorem dX8_changeAt_15 : decode cX8_changeAt 15 = .ok (.aload_n 0, 1) := by decide +kernel
theorem dX8_changeAt_16 : decode cX8_changeAt 16 = .ok (.getfield 12, 3) := by decide +kernel
theorem dX8_changeAt_19 : decode cX8_changeAt 19 = .ok (.getfield 57, 3) := by decide +kernel
theorem dX8_changeAt_22 : decode cX8_changeAt 22 = .ok (.iload 4, 2) := by decide +kernel
theorem dX8_changeAt_24 : decode cX8_changeAt 24 = .ok (.aload_n 0, 1) := by decide +kernel
theorem dX8_changeAt_25 : decode cX8_changeAt 25 = .ok (.getfield 12, 3) := by decide +kernel
theorem dX8_changeAt_28 : decode cX8_changeAt 28 = .ok (.getfield 96, 3) := by decide +kernel
theorem dX8_changeAt_31 : decode cX8_changeAt 31 = .ok (.iload 4, 2) := by decide +kernel
theorem dX8_changeAt_33 : decode cX8_changeAt 33 = .ok (.iaload, 1) := by decide +kernel
theorem dX8_changeAt_34 : decode cX8_changeAt 34 = .ok (.iload_n 1, 1) := by decide +kernel
theorem dX8_changeAt_35 : decode cX8_changeAt 35 = .ok (.if_icmp .lt 7, 3) := by decide +kernel
theorem dX8_changeAt_38 : decode cX8_changeAt 38 = .ok (.iload_n 3, 1) := by decide +kernel
theorem dX8_changeAt_39 : decode cX8_changeAt 39 = .ok (.goto 4, 3) := by decide +kernel
theorem dX8_changeAt_42 : decode cX8_changeAt 42 = .ok (.iload_n 2, 1) := by decide +kernel
theorem dX8_changeAt_43 : decode cX8_changeAt 43 = .ok (.iastore, 1) := by decide +kernel
theorem dX8_changeAt_44 : decode cX8_changeAt 44 = .ok (.iinc 4 1, 3) := by decide +kernel
theorem dX8_changeAt_47 : decode cX8_changeAt 47 = .ok (.goto (-44), 3) := by decide +kernel
theorem dX8_changeAt_50 : decode cX8_changeAt 50 = .ok (.return_, 1) := by decide +kernel
theorem dX8_windowSaves_0 : decode cX8_windowSaves 0 = .ok (.aload_n 0, 1) := by decide +kernel
theorem dX8_windowSaves_1 : decode cX8_windowSaves 1 = .ok (.getfield 12, 3) := by decide +kernel
theorem dX8_windowSaves_4 : decode cX8_windowSaves 4 = .ok (.aload_n 0, 1) := by decide +kernel
theorem dX8_windowSaves_5 : decode cX8_windowSaves 5 = .ok (.getfield 36, 3) := by decide +kernel
theorem dX8_windowSaves_8 : decode cX8_windowSaves 8 = .ok (.invokevirtual 43, 3) := by decide +kernel
theorem dX8_windowSaves_11 : decode cX8_windowSaves 11 = .ok (.aload_n 0, 1) := by decide +kernel
theorem dX8_windowSaves_12 : decode cX8_windowSaves 12 = .ok (.getfield 12, 3) := by decide +kernel
theorem dX8_windowSaves_15 : decode cX8_windowSaves 15 = .ok (.iconst 0, 1) := by decide +kernel
theorem dX8_windowSaves_16 : decode cX8_windowSaves 16 = .ok (.putfield 99, 3) := by decide +kernel
theorem dX8_windowSaves_19 : decode cX8_windowSaves 19 = .ok (.aload_n 0, 1) := by decide +kernel
theorem dX8_windowSaves_20 : decode cX8_windowSaves 20 = .ok (.invokevirtual 67, 3) := by decide +kernel
theorem dX8_windowSaves_23 : decode cX8_windowSaves 23 = .ok (.istore_n 1, 1) := by decide +kernel
theorem dX8_windowSaves_24 : decode cX8_windowSaves 24 = .ok (.aload_n 0, 1) := by decide +kernel
theorem dX8_windowSaves_25 : decode cX8_windowSaves 25 = .ok (.getfield 12, 3) := by decide +kernel
theorem dX8_windowSaves_28 : decode cX8_windowSaves 28 = .ok (.iconst 1, 1) := by decide +kernel
theorem dX8_windowSaves_29 : decode cX8_windowSaves 29 = .ok (.putfield 99, 3) := by decide +kernel
theorem dX8_windowSaves_32 : decode cX8_windowSaves 32 = .ok (.iload_n 1, 1) := by decide +kernel
theorem dX8_windowSaves_33 : decode cX8_windowSaves 33 = .ok (.aload_n 0, 1) := by decide +kernel
theorem dX8_windowSaves_34 : decode cX8_windowSaves 34 = .ok (.invokevirtual 67, 3) := by decide +kernel
theorem dX8_windowSaves_37 : decode cX8_windowSaves 37 = .ok (.isub, 1) := by decide +kernel
theorem dX8_windowSaves_38 : decode cX8_windowSaves 38 = .ok (.ireturn, 1) := by decide +kernel
theorem dX8_quietSaves_0 : decode cX8_quietSaves 0 = .ok (.aload_n 0, 1) := by decide +kernel
theorem dX8_quietSaves_1 : decode cX8_quietSaves 1 = .ok (.getfield 12, 3) := by decide +kernel
theorem dX8_quietSaves_4 : decode cX8_quietSaves 4 = .ok (.aload_n 0, 1) := by decide +kernel
theorem dX8_quietSaves_5 : decode cX8_quietSaves 5 = .ok (.getfield 36, 3) := by decide +kernel
theorem dX8_quietSaves_8 : decode cX8_quietSaves 8 = .ok (.invokevirtual 43, 3) := by decide +kernel
theorem dX8_quietSaves_11 : decode cX8_quietSaves 11 = .ok (.aload_n 0, 1) := by decide +kernel
theorem dX8_quietSaves_12 : decode cX8_quietSaves 12 = .ok (.invokevirtual 67, 3) := by decide +kernel
theorem dX8_quietSaves_15 : decode cX8_quietSaves 15 = .ok (.istore_n 1, 1) := by decide +kernel
theorem dX8_quietSaves_16 : decode cX8_quietSaves 16 = .ok (.aload_n 0, 1) := by decide +kernel
theorem dX8_quietSaves_17 : decode cX8_quietSaves 17 = .ok (.getfield 12, 3) := by decide +kernel
theorem dX8_quietSaves_20 : decode cX8_quietSaves 20 = .ok (.bipush 9, 2) := by decide +kernel
theorem dX8_quietSaves_22 : decode cX8_quietSaves 22 = .ok (.putfield 102, 3) := by decide +kernel
theorem dX8_quietSaves_25 : decode cX8_quietSaves 25 = .ok (.iload_n 1, 1) := by decide +kernel
theorem dX8_quietSaves_26 : decode cX8_quietSaves 26 = .ok (.aload_n 0, 1) := by decide +kernel
theorem dX8_quietSaves_27 : decode cX8_quietSaves 27 = .ok (.invokevirtual 67, 3) := by decide +kernel
theorem dX8_quietSaves_30 : decode cX8_quietSaves 30 = .ok (.isub, 1) := by decide +kernel
theorem dX8_quietSaves_31 : decode cX8_quietSaves 31 = .ok (.ireturn, 1) := by decide +kernel
theorem dX8_spread_0 : decode cX8_spread 0 = .ok (.aload_n 0, 1) := by decide +kernel
theorem dX8_spread_1 : decode cX8_spread 1 = .ok (.getfield 12, 3) := by decide +kernel
theorem dX8_spread_4 : decode cX8_spread 4 = .ok (.aload_n 0, 1) := by decide +kernel
theorem dX8_spread_5 : decode cX8_spread 5 = .ok (.getfield 36, 3) := by decide +kernel
theorem dX8_spread_8 : decode cX8_spread 8 = .ok (.invokevirtual 43, 3) := by decide +kernel
theorem dX8_spread_11 : decode cX8_spread 11 = .ok (.aload_n 0, 1) := by decide +kernel
theorem dX8_spread_12 : decode cX8_spread 12 = .ok (.getfield 21, 3) := by decide +kernel
theorem dX8_spread_15 : decode cX8_spread 15 = .ok (.aload_n 0, 1) := by decide +kernel
theorem dX8_spread_16 : decode cX8_spread 16 = .ok (.getfield 32, 3) := by decide +kernel
theorem dX8_spread_19 : decode cX8_spread 19 = .ok (.aload_n 0, 1) := by decide +kernel
theorem dX8_spread_20 : decode cX8_spread 20 = .ok (.getfield 36, 3) := by decide +kernel
theorem dX8_spread_23 : decode cX8_spread 23 = .ok (.iload_n 1, 1) := by decide +kernel
theorem dX8_spread_24 : decode cX8_spread 24 = .ok (.invokevirtual 105, 3) := by decide +kernel
theorem dX8_spread_27 : decode cX8_spread 27 = .ok (.aload_n 0, 1) := by decide +kernel
theorem dX8_spread_28 : decode cX8_spread 28 = .ok (.getfield 21, 3) := by decide +kernel
theorem dX8_spread_31 : decode cX8_spread 31 = .ok (.iconst 0, 1) := by decide +kernel
theorem dX8_spread_32 : decode cX8_spread 32 = .ok (.invokevirtual 109, 3) := by decide +kernel
theorem dX8_spread_35 : decode cX8_spread 35 = .ok (.iconst 1, 1) := by decide +kernel
theorem dX8_spread_36 : decode cX8_spread 36 = .ok (.istore_n 3, 1) := by decide +kernel
theorem dX8_spread_37 : decode cX8_spread 37 = .ok (.iload_n 3, 1) := by decide +kernel
theorem dX8_spread_38 : decode cX8_spread 38 = .ok (.aload_n 0, 1) := by decide +kernel
theorem dX8_spread_39 : decode cX8_spread 39 = .ok (.getfield 21, 3) := by decide +kernel
theorem dX8_spread_42 : decode cX8_spread 42 = .ok (.getfield 112, 3) := by decide +kernel
theorem dX8_spread_45 : decode cX8_spread 45 = .ok (.if_icmp .ge 31, 3) := by decide +kernel
theorem dX8_spread_48 : decode cX8_spread 48 = .ok (.aload_n 0, 1) := by decide +kernel
theorem dX8_spread_49 : decode cX8_spread 49 = .ok (.getfield 21, 3) := by decide +kernel
theorem dX8_spread_52 : decode cX8_spread 52 = .ok (.getfield 115, 3) := by decide +kernel
theorem dX8_spread_55 : decode cX8_spread 55 = .ok (.iload_n 3, 1) := by decide +kernel
theorem dX8_spread_56 : decode cX8_spread 56 = .ok (.aload_n 0, 1) := by decide +kernel
theorem dX8_spread_57 : decode cX8_spread 57 = .ok (.getfield 21, 3) := by decide +kernel
theorem dX8_spread_60 : decode cX8_spread 60 = .ok (.getfield 115, 3) := by decide +kernel
theorem dX8_spread_63 : decode cX8_spread 63 = .ok (.iconst 0, 1) := by decide +kernel
theorem dX8_spread_64 : decode cX8_spread 64 = .ok (.iaload, 1) := by decide +kernel
theorem dX8_spread_65 : decode cX8_spread 65 = .ok (.iload_n 3, 1) := by decide +kernel
theorem dX8_spread_66 : decode cX8_spread 66 = .ok (.iload_n 2, 1) := by decide +kernel
theorem dX8_spread_67 : decode cX8_spread 67 = .ok (.imul, 1) := by decide +kernel
theorem dX8_spread_68 : decode cX8_spread 68 = .ok (.iadd, 1) := by decide +kernel
theorem dX8_spread_69 : decode cX8_spread 69 = .ok (.iastore, 1) := by decide +kernel
theorem dX8_spread_70 : decode cX8_spread 70 = .ok (.iinc 3 1, 3) := by decide +kernel
theorem dX8_spread_73 : decode cX8_spread 73 = .ok (.goto (-36), 3) := by decide +kernel
theorem dX8_spread_76 : decode cX8_spread 76 = .ok (.aload_n 0, 1) := by decide +kernel
theorem dX8_spread_77 : decode cX8_spread 77 = .ok (.getfield 21, 3) := by decide +kernel
theorem dX8_spread_80 : decode cX8_spread 80 = .ok (.aload_n 0, 1) := by decide +kernel
theorem dX8_spread_81 : decode cX8_spread 81 = .ok (.getfield 12, 3) := by decide +kernel
theorem dX8_spread_84 : decode cX8_spread 84 = .ok (.invokevirtual 118, 3) := by decide +kernel
theorem dX8_spread_87 : decode cX8_spread 87 = .ok (.aload_n 0, 1) := by decide +kernel
theorem dX8_spread_88 : decode cX8_spread 88 = .ok (.invokevirtual 67, 3) := by decide +kernel
theorem dX8_spread_91 : decode cX8_spread 91 = .ok (.ireturn, 1) := by decide +kernel
theorem dX8_bestOrder_0 : decode cX8_bestOrder 0 = .ok (.aload_n 0, 1) := by decide +kernel
theorem dX8_bestOrder_1 : decode cX8_bestOrder 1 = .ok (.invokevirtual 70, 3) := by decide +kernel
theorem dX8_bestOrder_4 : decode cX8_bestOrder 4 = .ok (.aload_n 0, 1) := by decide +kernel
theorem dX8_bestOrder_5 : decode cX8_bestOrder 5 = .ok (.getfield 21, 3) := by decide +kernel
theorem dX8_bestOrder_8 : decode cX8_bestOrder 8 = .ok (.aload_n 0, 1) := by decide +kernel
theorem dX8_bestOrder_9 : decode cX8_bestOrder 9 = .ok (.getfield 32, 3) := by decide +kernel
theorem dX8_bestOrder_12 : decode cX8_bestOrder 12 = .ok (.aload_n 0, 1) := by decide +kernel
theorem dX8_bestOrder_13 : decode cX8_bestOrder 13 = .ok (.getfield 36, 3) := by decide +kernel
theorem dX8_bestOrder_16 : decode cX8_bestOrder 16 = .ok (.iload_n 1, 1) := by decide +kernel
theorem dX8_bestOrder_17 : decode cX8_bestOrder 17 = .ok (.invokevirtual 105, 3) := by decide +kernel
theorem dX8_bestOrder_20 : decode cX8_bestOrder 20 = .ok (.iconst 0, 1) := by decide +kernel
theorem dX8_bestOrder_21 : decode cX8_bestOrder 21 = .ok (.istore_n 3, 1) := by decide +kernel
theorem dX8_bestOrder_22 : decode cX8_bestOrder 22 = .ok (.iload_n 3, 1) := by decide +kernel
theorem dX8_bestOrder_23 : decode cX8_bestOrder 23 = .ok (.aload_n 0, 1) := by decide +kernel
theorem dX8_bestOrder_24 : decode cX8_bestOrder 24 = .ok (.getfield 21, 3) := by decide +kernel
theorem dX8_bestOrder_27 : decode cX8_bestOrder 27 = .ok (.invokevirtual 121, 3) := by decide +kernel
theorem dX8_bestOrder_30 : decode cX8_bestOrder 30 = .ok (.if_icmp .ge 40, 3) := by decide +kernel
theorem dX8_bestOrder_33 : decode cX8_bestOrder 33 = .ok (.aload_n 0, 1) := by decide +kernel
theorem dX8_bestOrder_34 : decode cX8_bestOrder 34 = .ok (.getfield 29, 3) := by decide +kernel
theorem dX8_bestOrder_37 : decode cX8_bestOrder 37 = .ok (.ifCond .le 33, 3) := by decide +kernel
theorem dX8_bestOrder_40 : decode cX8_bestOrder 40 = .ok (.aload_n 0, 1) := by decide +kernel
theorem dX8_bestOrder_41 : decode cX8_bestOrder 41 = .ok (.getfield 21, 3) := by decide +kernel
theorem dX8_bestOrder_44 : decode cX8_bestOrder 44 = .ok (.iload_n 3, 1) := by decide +kernel
theorem dX8_bestOrder_45 : decode cX8_bestOrder 45 = .ok (.invokevirtual 109, 3) := by decide +kernel
theorem dX8_bestOrder_48 : decode cX8_bestOrder 48 = .ok (.aload_n 0, 1) := by decide +kernel
theorem dX8_bestOrder_49 : decode cX8_bestOrder 49 = .ok (.getfield 21, 3) := by decide +kernel
theorem dX8_bestOrder_52 : decode cX8_bestOrder 52 = .ok (.aload_n 0, 1) := by decide +kernel
theorem dX8_bestOrder_53 : decode cX8_bestOrder 53 = .ok (.getfield 12, 3) := by decide +kernel
theorem dX8_bestOrder_56 : decode cX8_bestOrder 56 = .ok (.invokevirtual 118, 3) := by decide +kernel
theorem dX8_bestOrder_59 : decode cX8_bestOrder 59 = .ok (.aload_n 0, 1) := by decide +kernel
theorem dX8_bestOrder_60 : decode cX8_bestOrder 60 = .ok (.iload_n 3, 1) := by decide +kernel
theorem dX8_bestOrder_61 : decode cX8_bestOrder 61 = .ok (.invokevirtual 82, 3) := by decide +kernel
theorem dX8_bestOrder_64 : decode cX8_bestOrder 64 = .ok (.iinc 3 1, 3) := by decide +kernel
theorem dX8_bestOrder_67 : decode cX8_bestOrder 67 = .ok (.goto (-45), 3) := by decide +kernel
theorem dX8_bestOrder_70 : decode cX8_bestOrder 70 = .ok (.iload_n 2, 1) := by decide +kernel
theorem dX8_bestOrder_71 : decode cX8_bestOrder 71 = .ok (.iconst (-1), 1) := by decide +kernel
theorem dX8_bestOrder_72 : decode cX8_bestOrder 72 = .ok (.if_icmp .ne 8, 3) := by decide +kernel
theorem dX8_bestOrder_75 : decode cX8_bestOrder 75 = .ok (.aload_n 0, 1) := by decide +kernel
theorem dX8_bestOrder_76 : decode cX8_bestOrder 76 = .ok (.getfield 29, 3) := by decide +kernel
theorem dX8_bestOrder_79 : decode cX8_bestOrder 79 = .ok (.ireturn, 1) := by decide +kernel
theorem dX8_bestOrder_80 : decode cX8_bestOrder 80 = .ok (.iload_n 2, 1) := by decide +kernel
theorem dX8_bestOrder_81 : decode cX8_bestOrder 81 = .ok (.ifCond .lt 14, 3) := by decide +kernel
theorem dX8_bestOrder_84 : decode cX8_bestOrder 84 = .ok (.iload_n 2, 1) := by decide +kernel
theorem dX8_bestOrder_85 : decode cX8_bestOrder 85 = .ok (.aload_n 0, 1) := by decide +kernel
theorem dX8_bestOrder_86 : decode cX8_bestOrder 86 = .ok (.getfield 21, 3) := by decide +kernel
theorem dX8_bestOrder_89 : decode cX8_bestOrder 89 = .ok (.getfield 112, 3) := by decide +kernel
theorem dX8_bestOrder_92 : decode cX8_bestOrder 92 = .ok (.if_icmp .lt 5, 3) := by decide +kernel
theorem dX8_bestOrder_95 : decode cX8_bestOrder 95 = .ok (.iconst (-1), 1) := by decide +kernel
theorem dX8_bestOrder_96 : decode cX8_bestOrder 96 = .ok (.ireturn, 1) := by decide +kernel
theorem dX8_bestOrder_97 : decode cX8_bestOrder 97 = .ok (.aload_n 0, 1) := by decide +kernel
theorem dX8_bestOrder_98 : decode cX8_bestOrder 98 = .ok (.getfield 21, 3) := by decide +kernel
theorem dX8_bestOrder_101 : decode cX8_bestOrder 101 = .ok (.aload_n 0, 1) := by decide +kernel
theorem dX8_bestOrder_102 : decode cX8_bestOrder 102 = .ok (.getfield 25, 3) := by decide +kernel
theorem dX8_bestOrder_105 : decode cX8_bestOrder 105 = .ok (.invokevirtual 109, 3) := by decide +kernel
theorem dX8_bestOrder_108 : decode cX8_bestOrder 108 = .ok (.aload_n 0, 1) := by decide +kernel
theorem dX8_bestOrder_109 : decode cX8_bestOrder 109 = .ok (.getfield 21, 3) := by decide +kernel
theorem dX8_bestOrder_112 : decode cX8_bestOrder 112 = .ok (.getfield 124, 3) := by decide +kernel
theorem dX8_bestOrder_115 : decode cX8_bestOrder 115 = .ok (.iload_n 2, 1) := by decide +kernel
theorem dX8_bestOrder_116 : decode cX8_bestOrder 116 = .ok (.iaload, 1) := by decide +kernel
theorem dX8_bestOrder_117 : decode cX8_bestOrder 117 = .ok (.ireturn, 1) := by decide +kernel
theorem dX8_restingPairs_0 : decode cX8_restingPairs 0 = .ok (.iconst 0, 1) := by decide +kernel
theorem dX8_restingPairs_1 : decode cX8_restingPairs 1 = .ok (.istore_n 3, 1) := by decide +kernel
theorem dX8_restingPairs_2 : decode cX8_restingPairs 2 = .ok (.iconst 0, 1) := by decide +kernel
theorem dX8_restingPairs_3 : decode cX8_restingPairs 3 = .ok (.istore 4, 2) := by decide +kernel
theorem dX8_restingPairs_5 : decode cX8_restingPairs 5 = .ok (.iload 4, 2) := by decide +kernel
theorem dX8_restingPairs_7 : decode cX8_restingPairs 7 = .ok (.iconst 2, 1) := by decide +kernel
theorem dX8_restingPairs_8 : decode cX8_restingPairs 8 = .ok (.if_icmp .ge 110, 3) := by decide +kernel
theorem dX8_restingPairs_11 : decode cX8_restingPairs 11 = .ok (.iconst 0, 1) := by decide +kernel
theorem dX8_restingPairs_12 : decode cX8_restingPairs 12 = .ok (.istore 5, 2) := by decide +kernel
theorem dX8_restingPairs_14 : decode cX8_restingPairs 14 = .ok (.iload 5, 2) := by decide +kernel
theorem dX8_restingPairs_16 : decode cX8_restingPairs 16 = .ok (.iconst 2, 1) := by decide +kernel
theorem dX8_restingPairs_17 : decode cX8_restingPairs 17 = .ok (.if_icmp .ge 95, 3) := by decide +kernel
theorem dX8_restingPairs_20 : decode cX8_restingPairs 20 = .ok (.aload_n 0, 1) := by decide +kernel
theorem dX8_restingPairs_21 : decode cX8_restingPairs 21 = .ok (.iload_n 1, 1) := by decide +kernel
theorem dX8_restingPairs_22 : decode cX8_restingPairs 22 = .ok (.iload_n 2, 1) := by decide +kernel
theorem dX8_restingPairs_23 : decode cX8_restingPairs 23 = .ok (.iload 4, 2) := by decide +kernel
theorem dX8_restingPairs_25 : decode cX8_restingPairs 25 = .ok (.iload 5, 2) := by decide +kernel
theorem dX8_restingPairs_27 : decode cX8_restingPairs 27 = .ok (.invokevirtual 127, 3) := by decide +kernel
theorem dX8_restingPairs_30 : decode cX8_restingPairs 30 = .ok (.aload_n 0, 1) := by decide +kernel
theorem dX8_restingPairs_31 : decode cX8_restingPairs 31 = .ok (.iload_n 1, 1) := by decide +kernel
theorem dX8_restingPairs_32 : decode cX8_restingPairs 32 = .ok (.iload_n 2, 1) := by decide +kernel
theorem dX8_restingPairs_33 : decode cX8_restingPairs 33 = .ok (.iconst 1, 1) := by decide +kernel
theorem dX8_restingPairs_34 : decode cX8_restingPairs 34 = .ok (.iload 4, 2) := by decide +kernel
theorem dX8_restingPairs_36 : decode cX8_restingPairs 36 = .ok (.isub, 1) := by decide +kernel
theorem dX8_restingPairs_37 : decode cX8_restingPairs 37 = .ok (.iload 5, 2) := by decide +kernel
theorem dX8_restingPairs_39 : decode cX8_restingPairs 39 = .ok (.invokevirtual 127, 3) := by decide +kernel
theorem dX8_restingPairs_42 : decode cX8_restingPairs 42 = .ok (.if_icmp .gt 7, 3) := by decide +kernel
theorem dX8_restingPairs_45 : decode cX8_restingPairs 45 = .ok (.iconst 1, 1) := by decide +kernel
theorem dX8_restingPairs_46 : decode cX8_restingPairs 46 = .ok (.goto 4, 3) := by decide +kernel
theorem dX8_restingPairs_49 : decode cX8_restingPairs 49 = .ok (.iconst 0, 1) := by decide +kernel
theorem dX8_restingPairs_50 : decode cX8_restingPairs 50 = .ok (.istore 6, 2) := by decide +kernel
theorem dX8_restingPairs_52 : decode cX8_restingPairs 52 = .ok (.aload_n 0, 1) := by decide +kernel
theorem dX8_restingPairs_53 : decode cX8_restingPairs 53 = .ok (.iload_n 2, 1) := by decide +kernel
theorem dX8_restingPairs_54 : decode cX8_restingPairs 54 = .ok (.iload_n 1, 1) := by decide +kernel
theorem dX8_restingPairs_55 : decode cX8_restingPairs 55 = .ok (.iload 5, 2) := by decide +kernel
theorem dX8_restingPairs_57 : decode cX8_restingPairs 57 = .ok (.iload 4, 2) := by decide +kernel
theorem dX8_restingPairs_59 : decode cX8_restingPairs 59 = .ok (.invokevirtual 127, 3) := by decide +kernel
theorem dX8_restingPairs_62 : decode cX8_restingPairs 62 = .ok (.aload_n 0, 1) := by decide +kernel
theorem dX8_restingPairs_63 : decode cX8_restingPairs 63 = .ok (.iload_n 2, 1) := by decide +kernel
theorem dX8_restingPairs_64 : decode cX8_restingPairs 64 = .ok (.iload_n 1, 1) := by decide +kernel
theorem dX8_restingPairs_65 : decode cX8_restingPairs 65 = .ok (.iconst 1, 1) := by decide +kernel
theorem dX8_restingPairs_66 : decode cX8_restingPairs 66 = .ok (.iload 5, 2) := by decide +kernel
theorem dX8_restingPairs_68 : decode cX8_restingPairs 68 = .ok (.isub, 1) := by decide +kernel
theorem dX8_restingPairs_69 : decode cX8_restingPairs 69 = .ok (.iload 4, 2) := by decide +kernel
theorem dX8_restingPairs_71 : decode cX8_restingPairs 71 = .ok (.invokevirtual 127, 3) := by decide +kernel
theorem dX8_restingPairs_74 : decode cX8_restingPairs 74 = .ok (.if_icmp .gt 7, 3) := by decide +kernel
theorem dX8_restingPairs_77 : decode cX8_restingPairs 77 = .ok (.iconst 1, 1) := by decide +kernel
theorem dX8_restingPairs_78 : decode cX8_restingPairs 78 = .ok (.goto 4, 3) := by decide +kernel
theorem dX8_restingPairs_81 : decode cX8_restingPairs 81 = .ok (.iconst 0, 1) := by decide +kernel
theorem dX8_restingPairs_82 : decode cX8_restingPairs 82 = .ok (.istore 7, 2) := by decide +kernel
theorem dX8_restingPairs_84 : decode cX8_restingPairs 84 = .ok (.iload 6, 2) := by decide +kernel
theorem dX8_restingPairs_86 : decode cX8_restingPairs 86 = .ok (.ifCond .eq 20, 3) := by decide +kernel
theorem dX8_restingPairs_89 : decode cX8_restingPairs 89 = .ok (.iload 7, 2) := by decide +kernel
theorem dX8_restingPairs_91 : decode cX8_restingPairs 91 = .ok (.ifCond .eq 15, 3) := by decide +kernel
theorem dX8_restingPairs_94 : decode cX8_restingPairs 94 = .ok (.iload_n 3, 1) := by decide +kernel
theorem dX8_restingPairs_95 : decode cX8_restingPairs 95 = .ok (.iconst 1, 1) := by decide +kernel
theorem dX8_restingPairs_96 : decode cX8_restingPairs 96 = .ok (.iconst 2, 1) := by decide +kernel
theorem dX8_restingPairs_97 : decode cX8_restingPairs 97 = .ok (.iload 4, 2) := by decide +kernel
theorem dX8_restingPairs_99 : decode cX8_restingPairs 99 = .ok (.imul, 1) := by decide +kernel
theorem dX8_restingPairs_100 : decode cX8_restingPairs 100 = .ok (.iload 5, 2) := by decide +kernel
theorem dX8_restingPairs_102 : decode cX8_restingPairs 102 = .ok (.iadd, 1) := by decide +kernel
theorem dX8_restingPairs_103 : decode cX8_restingPairs 103 = .ok (.ishl, 1) := by decide +kernel
theorem dX8_restingPairs_104 : decode cX8_restingPairs 104 = .ok (.ior, 1) := by decide +kernel
theorem dX8_restingPairs_105 : decode cX8_restingPairs 105 = .ok (.istore_n 3, 1) := by decide +kernel
theorem dX8_restingPairs_106 : decode cX8_restingPairs 106 = .ok (.iinc 5 1, 3) := by decide +kernel
theorem dX8_restingPairs_109 : decode cX8_restingPairs 109 = .ok (.goto (-95), 3) := by decide +kernel
theorem dX8_restingPairs_112 : decode cX8_restingPairs 112 = .ok (.iinc 4 1, 3) := by decide +kernel
theorem dX8_restingPairs_115 : decode cX8_restingPairs 115 = .ok (.goto (-110), 3) := by decide +kernel
theorem dX8_restingPairs_118 : decode cX8_restingPairs 118 = .ok (.iload_n 3, 1) := by decide +kernel
theorem dX8_restingPairs_119 : decode cX8_restingPairs 119 = .ok (.ireturn, 1) := by decide +kernel
theorem dX8_lossOf_0 : decode cX8_lossOf 0 = .ok (.iload_n 3, 1) := by decide +kernel
theorem dX8_lossOf_1 : decode cX8_lossOf 1 = .ok (.ifCond .ne 25, 3) := by decide +kernel
theorem dX8_lossOf_4 : decode cX8_lossOf 4 = .ok (.iload 4, 2) := by decide +kernel
theorem dX8_lossOf_6 : decode cX8_lossOf 6 = .ok (.ifCond .ne 18, 3) := by decide +kernel
theorem dX8_lossOf_9 : decode cX8_lossOf 9 = .ok (.aload_n 0, 1) := by decide +kernel
theorem dX8_lossOf_10 : decode cX8_lossOf 10 = .ok (.getfield 32, 3) := by decide +kernel
theorem dX8_lossOf_13 : decode cX8_lossOf 13 = .ok (.getfield 131, 3) := by decide +kernel
theorem dX8_lossOf_16 : decode cX8_lossOf 16 = .ok (.iload_n 1, 1) := by decide +kernel
theorem dX8_lossOf_17 : decode cX8_lossOf 17 = .ok (.iaload, 1) := by decide +kernel
theorem dX8_lossOf_18 : decode cX8_lossOf 18 = .ok (.bipush 20, 2) := by decide +kernel
theorem dX8_lossOf_20 : decode cX8_lossOf 20 = .ok (.iadd, 1) := by decide +kernel
theorem dX8_lossOf_21 : decode cX8_lossOf 21 = .ok (.goto 4, 3) := by decide +kernel
theorem dX8_lossOf_24 : decode cX8_lossOf 24 = .ok (.iconst 0, 1) := by decide +kernel
theorem dX8_lossOf_25 : decode cX8_lossOf 25 = .ok (.ireturn, 1) := by decide +kernel
theorem dX8_lossOf_26 : decode cX8_lossOf 26 = .ok (.iload 4, 2) := by decide +kernel
theorem dX8_lossOf_28 : decode cX8_lossOf 28 = .ok (.ifCond .ne 15, 3) := by decide +kernel
theorem dX8_lossOf_31 : decode cX8_lossOf 31 = .ok (.aload_n 0, 1) := by decide +kernel
theorem dX8_lossOf_32 : decode cX8_lossOf 32 = .ok (.getfield 32, 3) := by decide +kernel
theorem dX8_lossOf_35 : decode cX8_lossOf 35 = .ok (.getfield 134, 3) := by decide +kernel
theorem dX8_lossOf_38 : decode cX8_lossOf 38 = .ok (.iload_n 2, 1) := by decide +kernel
theorem dX8_lossOf_39 : decode cX8_lossOf 39 = .ok (.iaload, 1) := by decide +kernel
theorem dX8_lossOf_40 : decode cX8_lossOf 40 = .ok (.goto 5, 3) := by decide +kernel
theorem dX8_lossOf_43 : decode cX8_lossOf 43 = .ok (.bipush 9, 2) := by decide +kernel
theorem dX8_lossOf_45 : decode cX8_lossOf 45 = .ok (.ireturn, 1) := by decide +kernel
theorem dX8_kindOnOtherLeaf_0 : decode cX8_kindOnOtherLeaf 0 = .ok (.aload_n 0, 1) := by decide +kernel
theorem dX8_kindOnOtherLeaf_1 : decode cX8_kindOnOtherLeaf 1 = .ok (.getfield 12, 3) := by decide +kernel
theorem dX8_kindOnOtherLeaf_4 : decode cX8_kindOnOtherLeaf 4 = .ok (.aload_n 0, 1) := by decide +kernel
theorem dX8_kindOnOtherLeaf_5 : decode cX8_kindOnOtherLeaf 5 = .ok (.getfield 36, 3) := by decide +kernel
theorem dX8_kindOnOtherLeaf_8 : decode cX8_kindOnOtherLeaf 8 = .ok (.invokevirtual 43, 3) := by decide +kernel
theorem dX8_kindOnOtherLeaf_11 : decode cX8_kindOnOtherLeaf 11 = .ok (.aload_n 0, 1) := by decide +kernel
theorem dX8_kindOnOtherLeaf_12 : decode cX8_kindOnOtherLeaf 12 = .ok (.getfield 12, 3) := by decide +kernel
theorem dX8_kindOnOtherLeaf_15 : decode cX8_kindOnOtherLeaf 15 = .ok (.getfield 57, 3) := by decide +kernel
theorem dX8_kindOnOtherLeaf_18 : decode cX8_kindOnOtherLeaf 18 = .ok (.iload_n 1, 1) := by decide +kernel
theorem dX8_kindOnOtherLeaf_19 : decode cX8_kindOnOtherLeaf 19 = .ok (.iconst 1, 1) := by decide +kernel
theorem dX8_kindOnOtherLeaf_20 : decode cX8_kindOnOtherLeaf 20 = .ok (.iastore, 1) := by decide +kernel
theorem dX8_kindOnOtherLeaf_21 : decode cX8_kindOnOtherLeaf 21 = .ok (.aload_n 0, 1) := by decide +kernel
theorem dX8_kindOnOtherLeaf_22 : decode cX8_kindOnOtherLeaf 22 = .ok (.getfield 39, 3) := by decide +kernel
theorem dX8_kindOnOtherLeaf_25 : decode cX8_kindOnOtherLeaf 25 = .ok (.aload_n 0, 1) := by decide +kernel
theorem dX8_kindOnOtherLeaf_26 : decode cX8_kindOnOtherLeaf 26 = .ok (.getfield 12, 3) := by decide +kernel
theorem dX8_kindOnOtherLeaf_29 : decode cX8_kindOnOtherLeaf 29 = .ok (.invokevirtual 48, 3) := by decide +kernel
theorem dX8_kindOnOtherLeaf_32 : decode cX8_kindOnOtherLeaf 32 = .ok (.aload_n 0, 1) := by decide +kernel
theorem dX8_kindOnOtherLeaf_33 : decode cX8_kindOnOtherLeaf 33 = .ok (.getfield 39, 3) := by decide +kernel
theorem dX8_kindOnOtherLeaf_36 : decode cX8_kindOnOtherLeaf 36 = .ok (.getfield 137, 3) := by decide +kernel
theorem dX8_kindOnOtherLeaf_39 : decode cX8_kindOnOtherLeaf 39 = .ok (.iload_n 1, 1) := by decide +kernel
theorem dX8_kindOnOtherLeaf_40 : decode cX8_kindOnOtherLeaf 40 = .ok (.aaload, 1) := by decide +kernel
theorem dX8_kindOnOtherLeaf_41 : decode cX8_kindOnOtherLeaf 41 = .ok (.getfield 141, 3) := by decide +kernel
theorem dX8_kindOnOtherLeaf_44 : decode cX8_kindOnOtherLeaf 44 = .ok (.ireturn, 1) := by decide +kernel
theorem dX9_init_0 : decode cX9_init 0 = .ok (.aload_n 0, 1) := by decide +kernel
theorem dX9_init_1 : decode cX9_init 1 = .ok (.invokespecial 1, 3) := by decide +kernel
theorem dX9_init_4 : decode cX9_init 4 = .ok (.aload_n 0, 1) := by decide +kernel
theorem dX9_init_5 : decode cX9_init 5 = .ok (.new 7, 3) := by decide +kernel
theorem dX9_init_8 : decode cX9_init 8 = .ok (.dup, 1) := by decide +kernel
theorem dX9_init_9 : decode cX9_init 9 = .ok (.invokespecial 9, 3) := by decide +kernel
theorem dX9_init_12 : decode cX9_init 12 = .ok (.putfield 10, 3) := by decide +kernel
theorem dX9_init_15 : decode cX9_init 15 = .ok (.aload_n 0, 1) := by decide +kernel
theorem dX9_init_16 : decode cX9_init 16 = .ok (.new 16, 3) := by decide +kernel
theorem dX9_init_19 : decode cX9_init 19 = .ok (.dup, 1) := by decide +kernel
theorem dX9_init_20 : decode cX9_init 20 = .ok (.invokespecial 18, 3) := by decide +kernel
theorem dX9_init_23 : decode cX9_init 23 = .ok (.putfield 19, 3) := by decide +kernel
theorem dX9_init_26 : decode cX9_init 26 = .ok (.aload_n 0, 1) := by decide +kernel
theorem dX9_init_27 : decode cX9_init 27 = .ok (.new 23, 3) := by decide +kernel
theorem dX9_init_30 : decode cX9_init 30 = .ok (.dup, 1) := by decide +kernel
theorem dX9_init_31 : decode cX9_init 31 = .ok (.invokespecial 25, 3) := by decide +kernel
theorem dX9_init_34 : decode cX9_init 34 = .ok (.putfield 26, 3) := by decide +kernel
theorem dX9_init_37 : decode cX9_init 37 = .ok (.aload_n 0, 1) := by decide +kernel
theorem dX9_init_38 : decode cX9_init 38 = .ok (.new 30, 3) := by decide +kernel
theorem dX9_init_41 : decode cX9_init 41 = .ok (.dup, 1) := by decide +kernel
theorem dX9_init_42 : decode cX9_init 42 = .ok (.aload_n 0, 1) := by decide +kernel
theorem dX9_init_43 : decode cX9_init 43 = .ok (.getfield 19, 3) := by decide +kernel
theorem dX9_init_46 : decode cX9_init 46 = .ok (.invokespecial 32, 3) := by decide +kernel
theorem dX9_init_49 : decode cX9_init 49 = .ok (.putfield 35, 3) := by decide +kernel
theorem dX9_init_52 : decode cX9_init 52 = .ok (.aload_n 0, 1) := by decide +kernel
theorem dX9_init_53 : decode cX9_init 53 = .ok (.new 39, 3) := by decide +kernel
theorem dX9_init_56 : decode cX9_init 56 = .ok (.dup, 1) := by decide +kernel
theorem dX9_init_57 : decode cX9_init 57 = .ok (.aload_n 0, 1) := by decide +kernel
theorem dX9_init_58 : decode cX9_init 58 = .ok (.getfield 19, 3) := by decide +kernel
theorem dX9_init_61 : decode cX9_init 61 = .ok (.aload_n 0, 1) := by decide +kernel
theorem dX9_init_62 : decode cX9_init 62 = .ok (.getfield 26, 3) := by decide +kernel
theorem dX9_init_65 : decode cX9_init 65 = .ok (.aload_n 0, 1) := by decide +kernel
theorem dX9_init_66 : decode cX9_init 66 = .ok (.getfield 35, 3) := by decide +kernel
theorem dX9_init_69 : decode cX9_init 69 = .ok (.invokespecial 41, 3) := by decide +kernel
theorem dX9_init_72 : decode cX9_init 72 = .ok (.putfield 44, 3) := by decide +kernel
theorem dX9_init_75 : decode cX9_init 75 = .ok (.aload_n 0, 1) := by decide +kernel
theorem dX9_init_76 : decode cX9_init 76 = .ok (.iconst 2, 1) := by decide +kernel
theorem dX9_init_77 : decode cX9_init 77 = .ok (.anewarray 48, 3) := by decide +kernel
theorem dX9_init_80 : decode cX9_init 80 = .ok (.putfield 50, 3) := by decide +kernel
theorem dX9_init_83 : decode cX9_init 83 = .ok (.aload_n 0, 1) := by decide +kernel
theorem dX9_init_84 : decode cX9_init 84 = .ok (.bipush 20, 2) := by decide +kernel
theorem dX9_init_86 : decode cX9_init 86 = .ok (.newarray .int, 2) := by decide +kernel
theorem dX9_init_88 : decode cX9_init 88 = .ok (.putfield 54, 3) := by decide +kernel
theorem dX9_init_91 : decode cX9_init 91 = .ok (.aload_n 0, 1) := by decide +kernel
theorem dX9_init_92 : decode cX9_init 92 = .ok (.bipush 20, 2) := by decide +kernel
theorem dX9_init_94 : decode cX9_init 94 = .ok (.newarray .int, 2) := by decide +kernel
theorem dX9_init_96 : decode cX9_init 96 = .ok (.putfield 58, 3) := by decide +kernel
theorem dX9_init_99 : decode cX9_init 99 = .ok (.aload_n 0, 1) := by decide +kernel
theorem dX9_init_100 : decode cX9_init 100 = .ok (.iconst 0, 1) := by decide +kernel
theorem dX9_init_101 : decode cX9_init 101 = .ok (.putfield 61, 3) := by decide +kernel
theorem dX9_init_104 : decode cX9_init 104 = .ok (.aload_n 0, 1) := by decide +kernel
theorem dX9_init_105 : decode cX9_init 105 = .ok (.lconst 0, 1) := by decide +kernel
theorem dX9_init_106 : decode cX9_init 106 = .ok (.putfield 65, 3) := by decide +kernel
theorem dX9_init_109 : decode cX9_init 109 = .ok (.aload_n 0, 1) := by decide +kernel
theorem dX9_init_110 : decode cX9_init 110 = .ok (.iconst (-1), 1) := by decide +kernel
theorem dX9_init_111 : decode cX9_init 111 = .ok (.putfield 69, 3) := by decide +kernel
theorem dX9_init_114 : decode cX9_init 114 = .ok (.iconst 0, 1) := by decide +kernel
theorem dX9_init_115 : decode cX9_init 115 = .ok (.istore_n 1, 1) := by decide +kernel
theorem dX9_init_116 : decode cX9_init 116 = .ok (.iload_n 1, 1) := by decide +kernel
theorem dX9_init_117 : decode cX9_init 117 = .ok (.iconst 2, 1) := by decide +kernel
theorem dX9_init_118 : decode cX9_init 118 = .ok (.if_icmp .ge 22, 3) := by decide +kernel
theorem dX9_init_121 : decode cX9_init 121 = .ok (.aload_n 0, 1) := by decide +kernel
theorem dX9_init_122 : decode cX9_init 122 = .ok (.getfield 50, 3) := by decide +kernel
theorem dX9_init_125 : decode cX9_init 125 = .ok (.iload_n 1, 1) := by decide +kernel
theorem dX9_init_126 : decode cX9_init 126 = .ok (.new 48, 3) := by decide +kernel
theorem dX9_init_129 : decode cX9_init 129 = .ok (.dup, 1) := by decide +kernel
theorem dX9_init_130 : decode cX9_init 130 = .ok (.invokespecial 72, 3) := by decide +kernel
theorem dX9_init_133 : decode cX9_init 133 = .ok (.aastore, 1) := by decide +kernel
theorem dX9_init_134 : decode cX9_init 134 = .ok (.iinc 1 1, 3) := by decide +kernel
theorem dX9_init_137 : decode cX9_init 137 = .ok (.goto (-21), 3) := by decide +kernel
theorem dX9_init_140 : decode cX9_init 140 = .ok (.return_, 1) := by decide +kernel
theorem dX9_feed_0 : decode cX9_feed 0 = .ok (.iload_n 1, 1) := by decide +kernel
theorem dX9_feed_1 : decode cX9_feed 1 = .ok (.ifCond .lt 10, 3) := by decide +kernel
theorem dX9_feed_4 : decode cX9_feed 4 = .ok (.iload_n 1, 1) := by decide +kernel
theorem dX9_feed_5 : decode cX9_feed 5 = .ok (.sipush 255, 3) := by decide +kernel
theorem dX9_feed_8 : decode cX9_feed 8 = .ok (.if_icmp .le 6, 3) := by decide +kernel
theorem dX9_feed_11 : decode cX9_feed 11 = .ok (.ldc 73, 2) := by decide +kernel
theorem dX9_feed_13 : decode cX9_feed 13 = .ok (.ireturn, 1) := by decide +kernel
theorem dX9_feed_14 : decode cX9_feed 14 = .ok (.aload_n 0, 1) := by decide +kernel
theorem dX9_feed_15 : decode cX9_feed 15 = .ok (.getfield 10, 3) := by decide +kernel
theorem dX9_feed_18 : decode cX9_feed 18 = .ok (.getfield 74, 3) := by decide +kernel
theorem dX9_feed_21 : decode cX9_feed 21 = .ok (.sipush 250, 3) := by decide +kernel
theorem dX9_feed_24 : decode cX9_feed 24 = .ok (.if_icmp .lt 6, 3) := by decide +kernel
theorem dX9_feed_27 : decode cX9_feed 27 = .ok (.ldc 77, 2) := by decide +kernel
theorem dX9_feed_29 : decode cX9_feed 29 = .ok (.ireturn, 1) := by decide +kernel
theorem dX9_feed_30 : decode cX9_feed 30 = .ok (.aload_n 0, 1) := by decide +kernel
theorem dX9_feed_31 : decode cX9_feed 31 = .ok (.getfield 10, 3) := by decide +kernel
theorem dX9_feed_34 : decode cX9_feed 34 = .ok (.iload_n 1, 1) := by decide +kernel
theorem dX9_feed_35 : decode cX9_feed 35 = .ok (.invokevirtual 78, 3) := by decide +kernel
theorem dX9_feed_38 : decode cX9_feed 38 = .ok (.ireturn, 1) := by decide +kernel
theorem dX9_house_0 : decode cX9_house 0 = .ok (.aload_n 0, 1) := by decide +kernel
theorem dX9_house_1 : decode cX9_house 1 = .ok (.getfield 10, 3) := by decide +kernel
theorem dX9_house_4 : decode cX9_house 4 = .ok (.invokevirtual 82, 3) := by decide +kernel
theorem dX9_house_7 : decode cX9_house 7 = .ok (.aload_n 0, 1) := by decide +kernel
theorem dX9_house_8 : decode cX9_house 8 = .ok (.getfield 10, 3) := by decide +kernel
theorem dX9_house_11 : decode cX9_house 11 = .ok (.getfield 85, 3) := by decide +kernel
theorem dX9_house_14 : decode cX9_house 14 = .ok (.ifCond .eq 25, 3) := by decide +kernel
theorem dX9_house_17 : decode cX9_house 17 = .ok (.aload_n 0, 1) := by decide +kernel
theorem dX9_house_18 : decode cX9_house 18 = .ok (.aload_n 0, 1) := by decide +kernel
theorem dX9_house_19 : decode cX9_house 19 = .ok (.getfield 10, 3) := by decide +kernel
theorem dX9_house_22 : decode cX9_house 22 = .ok (.getfield 88, 3) := by decide +kernel
theorem dX9_house_25 : decode cX9_house 25 = .ok (.putfield 69, 3) := by decide +kernel
theorem dX9_house_28 : decode cX9_house 28 = .ok (.bipush (-10), 2) := by decide +kernel
theorem dX9_house_30 : decode cX9_house 30 = .ok (.aload_n 0, 1) := by decide +kernel
theorem dX9_house_31 : decode cX9_house 31 = .ok (.getfield 10, 3) := by decide +kernel
theorem dX9_house_34 : decode cX9_house 34 = .ok (.getfield 85, 3) := by decide +kernel
theorem dX9_house_37 : decode cX9_house 37 = .ok (.isub, 1) := by decide +kernel
theorem dX9_house_38 : decode cX9_house 38 = .ok (.ireturn, 1) := by decide +kernel
theorem dX9_house_39 : decode cX9_house 39 = .ok (.aload_n 0, 1) := by decide +kernel
theorem dX9_house_40 : decode cX9_house 40 = .ok (.iconst (-1), 1) := by decide +kernel
theorem dX9_house_41 : decode cX9_house 41 = .ok (.putfield 69, 3) := by decide +kernel
theorem dX9_house_44 : decode cX9_house 44 = .ok (.aload_n 0, 1) := by decide +kernel
theorem dX9_house_45 : decode cX9_house 45 = .ok (.getfield 19, 3) := by decide +kernel
theorem dX9_house_48 : decode cX9_house 48 = .ok (.aload_n 0, 1) := by decide +kernel
theorem dX9_house_49 : decode cX9_house 49 = .ok (.getfield 10, 3) := by decide +kernel
theorem dX9_house_52 : decode cX9_house 52 = .ok (.getfield 89, 3) := by decide +kernel
theorem dX9_house_55 : decode cX9_house 55 = .ok (.invokevirtual 90, 3) := by decide +kernel
theorem dX9_house_58 : decode cX9_house 58 = .ok (.aload_n 0, 1) := by decide +kernel
theorem dX9_house_59 : decode cX9_house 59 = .ok (.getfield 26, 3) := by decide +kernel
theorem dX9_house_62 : decode cX9_house 62 = .ok (.aload_n 0, 1) := by decide +kernel
theorem dX9_house_63 : decode cX9_house 63 = .ok (.getfield 10, 3) := by decide +kernel
theorem dX9_house_66 : decode cX9_house 66 = .ok (.getfield 93, 3) := by decide +kernel
theorem dX9_house_69 : decode cX9_house 69 = .ok (.invokevirtual 94, 3) := by decide +kernel
theorem dX9_house_72 : decode cX9_house 72 = .ok (.aload_n 0, 1) := by decide +kernel
theorem dX9_house_73 : decode cX9_house 73 = .ok (.iconst 0, 1) := by decide +kernel
theorem dX9_house_74 : decode cX9_house 74 = .ok (.putfield 61, 3) := by decide +kernel
theorem dX9_house_77 : decode cX9_house 77 = .ok (.iconst 0, 1) := by decide +kernel
theorem dX9_house_78 : decode cX9_house 78 = .ok (.istore_n 1, 1) := by decide +kernel
theorem dX9_house_79 : decode cX9_house 79 = .ok (.iload_n 1, 1) := by decide +kernel
theorem dX9_house_80 : decode cX9_house 80 = .ok (.iconst 2, 1) := by decide +kernel
theorem dX9_house_81 : decode cX9_house 81 = .ok (.if_icmp .ge 19, 3) := by decide +kernel
theorem dX9_house_84 : decode cX9_house 84 = .ok (.aload_n 0, 1) := by decide +kernel
theorem dX9_house_85 : decode cX9_house 85 = .ok (.getfield 50, 3) := by decide +kernel
theorem dX9_house_88 : decode cX9_house 88 = .ok (.iload_n 1, 1) := by decide +kernel
theorem dX9_house_89 : decode cX9_house 89 = .ok (.aaload, 1) := by decide +kernel
theorem dX9_house_90 : decode cX9_house 90 = .ok (.iconst 0, 1) := by decide +kernel
theorem dX9_house_91 : decode cX9_house 91 = .ok (.putfield 97, 3) := by decide +kernel
theorem dX9_house_94 : decode cX9_house 94 = .ok (.iinc 1 1, 3) := by decide +kernel
theorem dX9_house_97 : decode cX9_house 97 = .ok (.goto (-18), 3) := by decide +kernel
theorem dX9_house_100 : decode cX9_house 100 = .ok (.aload_n 0, 1) := by decide +kernel
theorem dX9_house_101 : decode cX9_house 101 = .ok (.getfield 19, 3) := by decide +kernel
theorem dX9_house_104 : decode cX9_house 104 = .ok (.getfield 101, 3) := by decide +kernel
theorem dX9_house_107 : decode cX9_house 107 = .ok (.ireturn, 1) := by decide +kernel
theorem dX9_fault_0 : decode cX9_fault 0 = .ok (.aload_n 0, 1) := by decide +kernel
theorem dX9_fault_1 : decode cX9_fault 1 = .ok (.getfield 69, 3) := by decide +kernel
theorem dX9_fault_4 : decode cX9_fault 4 = .ok (.ireturn, 1) := by decide +kernel
theorem dX9_told_0 : decode cX9_told 0 = .ok (.iload_n 1, 1) := by decide +kernel
theorem dX9_told_1 : decode cX9_told 1 = .ok (.ifCond .lt 9, 3) := by decide +kernel
theorem dX9_told_4 : decode cX9_told 4 = .ok (.iload_n 1, 1) := by decide +kernel
theorem dX9_told_5 : decode cX9_told 5 = .ok (.bipush 10, 2) := by decide +kernel
theorem dX9_told_7 : decode cX9_told 7 = .ok (.if_icmp .le 6, 3) := by decide +kernel
theorem dX9_told_10 : decode cX9_told 10 = .ok (.ldc 73, 2) := by decide +kernel
theorem dX9_told_12 : decode cX9_told 12 = .ok (.ireturn, 1) := by decide +kernel
theorem dX9_told_13 : decode cX9_told 13 = .ok (.iload_n 1, 1) := by decide +kernel
theorem dX9_told_14 : decode cX9_told 14 = .ok (.tableswitch 71 0 4 #[34, 42, 50, 58, 66], 34) := by decide +kernel
theorem dX9_told_48 : decode cX9_told 48 = .ok (.aload_n 0, 1) := by decide +kernel
theorem dX9_told_49 : decode cX9_told 49 = .ok (.getfield 19, 3) := by decide +kernel
theorem dX9_told_52 : decode cX9_told 52 = .ok (.getfield 101, 3) := by decide +kernel
theorem dX9_told_55 : decode cX9_told 55 = .ok (.ireturn, 1) := by decide +kernel
theorem dX9_told_56 : decode cX9_told 56 = .ok (.aload_n 0, 1) := by decide +kernel
theorem dX9_told_57 : decode cX9_told 57 = .ok (.getfield 10, 3) := by decide +kernel
theorem dX9_told_60 : decode cX9_told 60 = .ok (.getfield 74, 3) := by decide +kernel
theorem dX9_told_63 : decode cX9_told 63 = .ok (.ireturn, 1) := by decide +kernel
theorem dX9_told_64 : decode cX9_told 64 = .ok (.aload_n 0, 1) := by decide +kernel
theorem dX9_told_65 : decode cX9_told 65 = .ok (.getfield 26, 3) := by decide +kernel
theorem dX9_told_68 : decode cX9_told 68 = .ok (.getfield 104, 3) := by decide +kernel
theorem dX9_told_71 : decode cX9_told 71 = .ok (.ireturn, 1) := by decide +kernel
theorem dX9_told_72 : decode cX9_told 72 = .ok (.aload_n 0, 1) := by decide +kernel
theorem dX9_told_73 : decode cX9_told 73 = .ok (.getfield 26, 3) := by decide +kernel
theorem dX9_told_76 : decode cX9_told 76 = .ok (.getfield 107, 3) := by decide +kernel
theorem dX9_told_79 : decode cX9_told 79 = .ok (.ireturn, 1) := by decide +kernel
theorem dX9_told_80 : decode cX9_told 80 = .ok (.aload_n 0, 1) := by decide +kernel
theorem dX9_told_81 : decode cX9_told 81 = .ok (.getfield 61, 3) := by decide +kernel
theorem dX9_told_84 : decode cX9_told 84 = .ok (.ireturn, 1) := by decide +kernel
theorem dX9_told_85 : decode cX9_told 85 = .ok (.aload_n 0, 1) := by decide +kernel
theorem dX9_told_86 : decode cX9_told 86 = .ok (.iload_n 1, 1) := by decide +kernel
theorem dX9_told_87 : decode cX9_told 87 = .ok (.invokevirtual 110, 3) := by decide +kernel
theorem dX9_told_90 : decode cX9_told 90 = .ok (.ireturn, 1) := by decide +kernel
theorem dX9_toldOfEvening_0 : decode cX9_toldOfEvening 0 = .ok (.aload_n 0, 1) := by decide +kernel
theorem dX9_toldOfEvening_1 : decode cX9_toldOfEvening 1 = .ok (.getfield 35, 3) := by decide +kernel
theorem dX9_toldOfEvening_4 : decode cX9_toldOfEvening 4 = .ok (.aload_n 0, 1) := by decide +kernel
theorem dX9_toldOfEvening_5 : decode cX9_toldOfEvening 5 = .ok (.getfield 26, 3) := by decide +kernel
theorem dX9_toldOfEvening_8 : decode cX9_toldOfEvening 8 = .ok (.invokevirtual 113, 3) := by decide +kernel
theorem dX9_toldOfEvening_11 : decode cX9_toldOfEvening 11 = .ok (.iload_n 1, 1) := by decide +kernel
theorem dX9_toldOfEvening_12 : decode cX9_toldOfEvening 12 = .ok (.tableswitch 79 5 9 #[36, 44, 52, 60, 70], 36) := by decide +kernel
theorem dX9_toldOfEvening_48 : decode cX9_toldOfEvening 48 = .ok (.aload_n 0, 1) := by decide +kernel
theorem dX9_toldOfEvening_49 : decode cX9_toldOfEvening 49 = .ok (.getfield 35, 3) := by decide +kernel
theorem dX9_toldOfEvening_52 : decode cX9_toldOfEvening 52 = .ok (.invokevirtual 116, 3) := by decide +kernel
theorem dX9_toldOfEvening_55 : decode cX9_toldOfEvening 55 = .ok (.ireturn, 1) := by decide +kernel
theorem dX9_toldOfEvening_56 : decode cX9_toldOfEvening 56 = .ok (.aload_n 0, 1) := by decide +kernel
theorem dX9_toldOfEvening_57 : decode cX9_toldOfEvening 57 = .ok (.getfield 35, 3) := by decide +kernel
theorem dX9_toldOfEvening_60 : decode cX9_toldOfEvening 60 = .ok (.invokevirtual 120, 3) := by decide +kernel
theorem dX9_toldOfEvening_63 : decode cX9_toldOfEvening 63 = .ok (.ireturn, 1) := by decide +kernel
theorem dX9_toldOfEvening_64 : decode cX9_toldOfEvening 64 = .ok (.aload_n 0, 1) := by decide +kernel
theorem dX9_toldOfEvening_65 : decode cX9_toldOfEvening 65 = .ok (.getfield 35, 3) := by decide +kernel
theorem dX9_toldOfEvening_68 : decode cX9_toldOfEvening 68 = .ok (.invokevirtual 123, 3) := by decide +kernel
theorem dX9_toldOfEvening_71 : decode cX9_toldOfEvening 71 = .ok (.ireturn, 1) := by decide +kernel
theorem dX9_toldOfEvening_72 : decode cX9_toldOfEvening 72 = .ok (.aload_n 0, 1) := by decide +kernel
theorem dX9_toldOfEvening_73 : decode cX9_toldOfEvening 73 = .ok (.getfield 35, 3) := by decide +kernel
theorem dX9_toldOfEvening_76 : decode cX9_toldOfEvening 76 = .ok (.bipush 6, 2) := by decide +kernel
theorem dX9_toldOfEvening_78 : decode cX9_toldOfEvening 78 = .ok (.invokevirtual 126, 3) := by decide +kernel
theorem dX9_toldOfEvening_81 : decode cX9_toldOfEvening 81 = .ok (.ireturn, 1) := by decide +kernel
theorem dX9_toldOfEvening_82 : decode cX9_toldOfEvening 82 = .ok (.aload_n 0, 1) := by decide +kernel
theorem dX9_toldOfEvening_83 : decode cX9_toldOfEvening 83 = .ok (.getfield 35, 3) := by decide +kernel
theorem dX9_toldOfEvening_86 : decode cX9_toldOfEvening 86 = .ok (.iconst 5, 1) := by decide +kernel
theorem dX9_toldOfEvening_87 : decode cX9_toldOfEvening 87 = .ok (.invokevirtual 126, 3) := by decide +kernel
theorem dX9_toldOfEvening_90 : decode cX9_toldOfEvening 90 = .ok (.ireturn, 1) := by decide +kernel
theorem dX9_toldOfEvening_91 : decode cX9_toldOfEvening 91 = .ok (.aload_n 0, 1) := by decide +kernel
theorem dX9_toldOfEvening_92 : decode cX9_toldOfEvening 92 = .ok (.getfield 35, 3) := by decide +kernel
theorem dX9_toldOfEvening_95 : decode cX9_toldOfEvening 95 = .ok (.invokevirtual 129, 3) := by decide +kernel
theorem dX9_toldOfEvening_98 : decode cX9_toldOfEvening 98 = .ok (.ireturn, 1) := by decide +kernel
theorem dX9_leaf_0 : decode cX9_leaf 0 = .ok (.iload_n 1, 1) := by decide +kernel
theorem dX9_leaf_1 : decode cX9_leaf 1 = .ok (.invokestatic 132, 3) := by decide +kernel
theorem dX9_leaf_4 : decode cX9_leaf 4 = .ok (.ifCond .eq 6, 3) := by decide +kernel
theorem dX9_leaf_7 : decode cX9_leaf 7 = .ok (.ldc 136, 2) := by decide +kernel
theorem dX9_leaf_9 : decode cX9_leaf 9 = .ok (.ireturn, 1) := by decide +kernel
theorem dX9_leaf_10 : decode cX9_leaf 10 = .ok (.iload_n 2, 1) := by decide +kernel
theorem dX9_leaf_11 : decode cX9_leaf 11 = .ok (.ifCond .lt 8, 3) := by decide +kernel
theorem dX9_leaf_14 : decode cX9_leaf 14 = .ok (.iload_n 2, 1) := by decide +kernel
theorem dX9_leaf_15 : decode cX9_leaf 15 = .ok (.iconst 3, 1) := by decide +kernel
theorem dX9_leaf_16 : decode cX9_leaf 16 = .ok (.if_icmp .le 6, 3) := by decide +kernel
theorem dX9_leaf_19 : decode cX9_leaf 19 = .ok (.ldc 73, 2) := by decide +kernel
theorem dX9_leaf_21 : decode cX9_leaf 21 = .ok (.ireturn, 1) := by decide +kernel
theorem dX9_leaf_22 : decode cX9_leaf 22 = .ok (.iload_n 2, 1) := by decide +kernel
theorem dX9_leaf_23 : decode cX9_leaf 23 = .ok (.ifCond .ne 13, 3) := by decide +kernel
theorem dX9_leaf_26 : decode cX9_leaf 26 = .ok (.aload_n 0, 1) := by decide +kernel
theorem dX9_leaf_27 : decode cX9_leaf 27 = .ok (.getfield 19, 3) := by decide +kernel
theorem dX9_leaf_30 : decode cX9_leaf 30 = .ok (.getfield 137, 3) := by decide +kernel
theorem dX9_leaf_33 : decode cX9_leaf 33 = .ok (.iload_n 1, 1) := by decide +kernel
theorem dX9_leaf_34 : decode cX9_leaf 34 = .ok (.iaload, 1) := by decide +kernel
theorem dX9_leaf_35 : decode cX9_leaf 35 = .ok (.ireturn, 1) := by decide +kernel
theorem dX9_leaf_36 : decode cX9_leaf 36 = .ok (.iload_n 2, 1) := by decide +kernel
theorem dX9_leaf_37 : decode cX9_leaf 37 = .ok (.iconst 1, 1) := by decide +kernel
theorem dX9_leaf_38 : decode cX9_leaf 38 = .ok (.if_icmp .ne 13, 3) := by decide +kernel
theorem dX9_leaf_41 : decode cX9_leaf 41 = .ok (.aload_n 0, 1) := by decide +kernel
theorem dX9_leaf_42 : decode cX9_leaf 42 = .ok (.getfield 19, 3) := by decide +kernel
theorem dX9_leaf_45 : decode cX9_leaf 45 = .ok (.getfield 140, 3) := by decide +kernel
theorem dX9_leaf_48 : decode cX9_leaf 48 = .ok (.iload_n 1, 1) := by decide +kernel
theorem dX9_leaf_49 : decode cX9_leaf 49 = .ok (.iaload, 1) := by decide +kernel
theorem dX9_leaf_50 : decode cX9_leaf 50 = .ok (.ireturn, 1) := by decide +kernel
theorem dX9_leaf_51 : decode cX9_leaf 51 = .ok (.aload_n 0, 1) := by decide +kernel
theorem dX9_leaf_52 : decode cX9_leaf 52 = .ok (.getfield 35, 3) := by decide +kernel
theorem dX9_leaf_55 : decode cX9_leaf 55 = .ok (.aload_n 0, 1) := by decide +kernel
theorem dX9_leaf_56 : decode cX9_leaf 56 = .ok (.getfield 26, 3) := by decide +kernel
theorem dX9_leaf_59 : decode cX9_leaf 59 = .ok (.invokevirtual 113, 3) := by decide +kernel
theorem dX9_leaf_62 : decode cX9_leaf 62 = .ok (.iload_n 2, 1) := by decide +kernel
theorem dX9_leaf_63 : decode cX9_leaf 63 = .ok (.iconst 2, 1) := by decide +kernel
theorem dX9_leaf_64 : decode cX9_leaf 64 = .ok (.if_icmp .ne 18, 3) := by decide +kernel
theorem dX9_leaf_67 : decode cX9_leaf 67 = .ok (.aload_n 0, 1) := by decide +kernel
theorem dX9_leaf_68 : decode cX9_leaf 68 = .ok (.getfield 35, 3) := by decide +kernel
theorem dX9_leaf_71 : decode cX9_leaf 71 = .ok (.getfield 143, 3) := by decide +kernel
theorem dX9_leaf_74 : decode cX9_leaf 74 = .ok (.iload_n 1, 1) := by decide +kernel
theorem dX9_leaf_75 : decode cX9_leaf 75 = .ok (.aaload, 1) := by decide +kernel
theorem dX9_leaf_76 : decode cX9_leaf 76 = .ok (.getfield 147, 3) := by decide +kernel
theorem dX9_leaf_79 : decode cX9_leaf 79 = .ok (.goto 15, 3) := by decide +kernel
theorem dX9_leaf_82 : decode cX9_leaf 82 = .ok (.aload_n 0, 1) := by decide +kernel
theorem dX9_leaf_83 : decode cX9_leaf 83 = .ok (.getfield 35, 3) := by decide +kernel
theorem dX9_leaf_86 : decode cX9_leaf 86 = .ok (.getfield 143, 3) := by decide +kernel
theorem dX9_leaf_89 : decode cX9_leaf 89 = .ok (.iload_n 1, 1) := by decide +kernel
theorem dX9_leaf_90 : decode cX9_leaf 90 = .ok (.aaload, 1) := by decide +kernel
theorem dX9_leaf_91 : decode cX9_leaf 91 = .ok (.getfield 152, 3) := by decide +kernel
theorem dX9_leaf_94 : decode cX9_leaf 94 = .ok (.ireturn, 1) := by decide +kernel
theorem dX9_waiter_0 : decode cX9_waiter 0 = .ok (.aload_n 0, 1) := by decide +kernel
theorem dX9_waiter_1 : decode cX9_waiter 1 = .ok (.iload_n 1, 1) := by decide +kernel
theorem dX9_waiter_2 : decode cX9_waiter 2 = .ok (.invokevirtual 155, 3) := by decide +kernel
theorem dX9_waiter_5 : decode cX9_waiter 5 = .ok (.ifCond .eq 6, 3) := by decide +kernel
theorem dX9_waiter_8 : decode cX9_waiter 8 = .ok (.ldc 136, 2) := by decide +kernel
theorem dX9_waiter_10 : decode cX9_waiter 10 = .ok (.ireturn, 1) := by decide +kernel
theorem dX9_waiter_11 : decode cX9_waiter 11 = .ok (.iload_n 2, 1) := by decide +kernel
theorem dX9_waiter_12 : decode cX9_waiter 12 = .ok (.ifCond .lt 9, 3) := by decide +kernel
theorem dX9_waiter_15 : decode cX9_waiter 15 = .ok (.iload_n 2, 1) := by decide +kernel
theorem dX9_waiter_16 : decode cX9_waiter 16 = .ok (.bipush 6, 2) := by decide +kernel
theorem dX9_waiter_18 : decode cX9_waiter 18 = .ok (.if_icmp .le 6, 3) := by decide +kernel
theorem dX9_waiter_21 : decode cX9_waiter 21 = .ok (.ldc 73, 2) := by decide +kernel
theorem dX9_waiter_23 : decode cX9_waiter 23 = .ok (.ireturn, 1) := by decide +kernel
theorem dX9_waiter_24 : decode cX9_waiter 24 = .ok (.iload_n 2, 1) := by decide +kernel
theorem dX9_waiter_25 : decode cX9_waiter 25 = .ok (.tableswitch 99 0 5 #[39, 49, 59, 69, 79, 89], 39) := by decide +kernel
theorem dX9_waiter_64 : decode cX9_waiter 64 = .ok (.aload_n 0, 1) := by decide +kernel
theorem dX9_waiter_65 : decode cX9_waiter 65 = .ok (.getfield 19, 3) := by decide +kernel
theorem dX9_waiter_68 : decode cX9_waiter 68 = .ok (.getfield 158, 3) := by decide +kernel
theorem dX9_waiter_71 : decode cX9_waiter 71 = .ok (.iload_n 1, 1) := by decide +kernel
theorem dX9_waiter_72 : decode cX9_waiter 72 = .ok (.iaload, 1) := by decide +kernel
theorem dX9_waiter_73 : decode cX9_waiter 73 = .ok (.ireturn, 1) := by decide +kernel
theorem dX9_waiter_74 : decode cX9_waiter 74 = .ok (.aload_n 0, 1) := by decide +kernel
theorem dX9_waiter_75 : decode cX9_waiter 75 = .ok (.getfield 26, 3) := by decide +kernel
theorem dX9_waiter_78 : decode cX9_waiter 78 = .ok (.getfield 161, 3) := by decide +kernel
theorem dX9_waiter_81 : decode cX9_waiter 81 = .ok (.iload_n 1, 1) := by decide +kernel
theorem dX9_waiter_82 : decode cX9_waiter 82 = .ok (.iaload, 1) := by decide +kernel
theorem dX9_waiter_83 : decode cX9_waiter 83 = .ok (.ireturn, 1) := by decide +kernel
theorem dX9_waiter_84 : decode cX9_waiter 84 = .ok (.aload_n 0, 1) := by decide +kernel
theorem dX9_waiter_85 : decode cX9_waiter 85 = .ok (.getfield 19, 3) := by decide +kernel
theorem dX9_waiter_88 : decode cX9_waiter 88 = .ok (.getfield 164, 3) := by decide +kernel
theorem dX9_waiter_91 : decode cX9_waiter 91 = .ok (.iload_n 1, 1) := by decide +kernel
theorem dX9_waiter_92 : decode cX9_waiter 92 = .ok (.iaload, 1) := by decide +kernel
theorem dX9_waiter_93 : decode cX9_waiter 93 = .ok (.ireturn, 1) := by decide +kernel
theorem dX9_waiter_94 : decode cX9_waiter 94 = .ok (.aload_n 0, 1) := by decide +kernel
theorem dX9_waiter_95 : decode cX9_waiter 95 = .ok (.getfield 19, 3) := by decide +kernel
theorem dX9_waiter_98 : decode cX9_waiter 98 = .ok (.getfield 167, 3) := by decide +kernel
theorem dX9_waiter_101 : decode cX9_waiter 101 = .ok (.iload_n 1, 1) := by decide +kernel
theorem dX9_waiter_102 : decode cX9_waiter 102 = .ok (.iaload, 1) := by decide +kernel
theorem dX9_waiter_103 : decode cX9_waiter 103 = .ok (.ireturn, 1) := by decide +kernel
theorem dX9_waiter_104 : decode cX9_waiter 104 = .ok (.aload_n 0, 1) := by decide +kernel
theorem dX9_waiter_105 : decode cX9_waiter 105 = .ok (.getfield 26, 3) := by decide +kernel
theorem dX9_waiter_108 : decode cX9_waiter 108 = .ok (.getfield 170, 3) := by decide +kernel
theorem dX9_waiter_111 : decode cX9_waiter 111 = .ok (.iload_n 1, 1) := by decide +kernel
theorem dX9_waiter_112 : decode cX9_waiter 112 = .ok (.iaload, 1) := by decide +kernel
theorem dX9_waiter_113 : decode cX9_waiter 113 = .ok (.ireturn, 1) := by decide +kernel
theorem dX9_waiter_114 : decode cX9_waiter 114 = .ok (.aload_n 0, 1) := by decide +kernel
theorem dX9_waiter_115 : decode cX9_waiter 115 = .ok (.getfield 26, 3) := by decide +kernel
theorem dX9_waiter_118 : decode cX9_waiter 118 = .ok (.getfield 172, 3) := by decide +kernel
theorem dX9_waiter_121 : decode cX9_waiter 121 = .ok (.iload_n 1, 1) := by decide +kernel
theorem dX9_waiter_122 : decode cX9_waiter 122 = .ok (.iaload, 1) := by decide +kernel
theorem dX9_waiter_123 : decode cX9_waiter 123 = .ok (.ireturn, 1) := by decide +kernel
theorem dX9_waiter_124 : decode cX9_waiter 124 = .ok (.aload_n 0, 1) := by decide +kernel
theorem dX9_waiter_125 : decode cX9_waiter 125 = .ok (.getfield 19, 3) := by decide +kernel
theorem dX9_waiter_128 : decode cX9_waiter 128 = .ok (.getfield 175, 3) := by decide +kernel
theorem dX9_waiter_131 : decode cX9_waiter 131 = .ok (.iload_n 1, 1) := by decide +kernel
theorem dX9_waiter_132 : decode cX9_waiter 132 = .ok (.iaload, 1) := by decide +kernel
theorem dX9_waiter_133 : decode cX9_waiter 133 = .ok (.ireturn, 1) := by decide +kernel
theorem dX9_come_0 : decode cX9_come 0 = .ok (.aload_n 0, 1) := by decide +kernel
theorem dX9_come_1 : decode cX9_come 1 = .ok (.aload_n 0, 1) := by decide +kernel
theorem dX9_come_2 : decode cX9_come 2 = .ok (.getfield 26, 3) := by decide +kernel
theorem dX9_come_5 : decode cX9_come 5 = .ok (.getfield 161, 3) := by decide +kernel
theorem dX9_come_8 : decode cX9_come 8 = .ok (.iload_n 1, 1) := by decide +kernel
theorem dX9_come_9 : decode cX9_come 9 = .ok (.iload_n 2, 1) := by decide +kernel
theorem dX9_come_10 : decode cX9_come 10 = .ok (.iconst 0, 1) := by decide +kernel
theorem dX9_come_11 : decode cX9_come 11 = .ok (.sipush 999, 3) := by decide +kernel
theorem dX9_come_14 : decode cX9_come 14 = .ok (.invokevirtual 178, 3) := by decide +kernel
theorem dX9_come_17 : decode cX9_come 17 = .ok (.ireturn, 1) := by decide +kernel
theorem dX9_rule_0 : decode cX9_rule 0 = .ok (.aload_n 0, 1) := by decide +kernel
theorem dX9_rule_1 : decode cX9_rule 1 = .ok (.aload_n 0, 1) := by decide +kernel
theorem dX9_rule_2 : decode cX9_rule 2 = .ok (.getfield 26, 3) := by decide +kernel
theorem dX9_rule_5 : decode cX9_rule 5 = .ok (.getfield 172, 3) := by decide +kernel
theorem dX9_rule_8 : decode cX9_rule 8 = .ok (.iload_n 1, 1) := by decide +kernel
theorem dX9_rule_9 : decode cX9_rule 9 = .ok (.iload_n 2, 1) := by decide +kernel
theorem dX9_rule_10 : decode cX9_rule 10 = .ok (.iconst 0, 1) := by decide +kernel
theorem dX9_rule_11 : decode cX9_rule 11 = .ok (.iconst 2, 1) := by decide +kernel
theorem dX9_rule_12 : decode cX9_rule 12 = .ok (.invokevirtual 178, 3) := by decide +kernel
theorem dX9_rule_15 : decode cX9_rule 15 = .ok (.ireturn, 1) := by decide +kernel
theorem dX9_kick_0 : decode cX9_kick 0 = .ok (.aload_n 0, 1) := by decide +kernel
theorem dX9_kick_1 : decode cX9_kick 1 = .ok (.aload_n 0, 1) := by decide +kernel
theorem dX9_kick_2 : decode cX9_kick 2 = .ok (.getfield 26, 3) := by decide +kernel
theorem dX9_kick_5 : decode cX9_kick 5 = .ok (.getfield 170, 3) := by decide +kernel
theorem dX9_kick_8 : decode cX9_kick 8 = .ok (.iload_n 1, 1) := by decide +kernel
theorem dX9_kick_9 : decode cX9_kick 9 = .ok (.iload_n 2, 1) := by decide +kernel
theorem dX9_kick_10 : decode cX9_kick 10 = .ok (.iconst 1, 1) := by decide +kernel
theorem dX9_kick_11 : decode cX9_kick 11 = .ok (.bipush 9, 2) := by decide +kernel
theorem dX9_kick_13 : decode cX9_kick 13 = .ok (.invokevirtual 178, 3) := by decide +kernel
theorem dX9_kick_16 : decode cX9_kick 16 = .ok (.ireturn, 1) := by decide +kernel
theorem dX9_put_0 : decode cX9_put 0 = .ok (.aload_n 0, 1) := by decide +kernel
theorem dX9_put_1 : decode cX9_put 1 = .ok (.iload_n 2, 1) := by decide +kernel
theorem dX9_put_2 : decode cX9_put 2 = .ok (.invokevirtual 155, 3) := by decide +kernel
theorem dX9_put_5 : decode cX9_put 5 = .ok (.ifCond .eq 6, 3) := by decide +kernel
theorem dX9_put_8 : decode cX9_put 8 = .ok (.ldc 136, 2) := by decide +kernel
theorem dX9_put_10 : decode cX9_put 10 = .ok (.ireturn, 1) := by decide +kernel
theorem dX9_put_11 : decode cX9_put 11 = .ok (.iload_n 3, 1) := by decide +kernel
theorem dX9_put_12 : decode cX9_put 12 = .ok (.iload 4, 2) := by decide +kernel
theorem dX9_put_14 : decode cX9_put 14 = .ok (.if_icmp .lt 9, 3) := by decide +kernel
theorem dX9_put_17 : decode cX9_put 17 = .ok (.iload_n 3, 1) := by decide +kernel
theorem dX9_put_18 : decode cX9_put 18 = .ok (.iload 5, 2) := by decide +kernel
theorem dX9_put_20 : decode cX9_put 20 = .ok (.if_icmp .le 6, 3) := by decide +kernel
theorem dX9_put_23 : decode cX9_put 23 = .ok (.ldc 73, 2) := by decide +kernel
theorem dX9_put_25 : decode cX9_put 25 = .ok (.ireturn, 1) := by decide +kernel
theorem dX9_put_26 : decode cX9_put 26 = .ok (.aload_n 1, 1) := by decide +kernel
theorem dX9_put_27 : decode cX9_put 27 = .ok (.iload_n 2, 1) := by decide +kernel
theorem dX9_put_28 : decode cX9_put 28 = .ok (.iaload, 1) := by decide +kernel
theorem dX9_put_29 : decode cX9_put 29 = .ok (.istore 6, 2) := by decide +kernel
theorem dX9_put_31 : decode cX9_put 31 = .ok (.aload_n 1, 1) := by decide +kernel
theorem dX9_put_32 : decode cX9_put 32 = .ok (.iload_n 2, 1) := by decide +kernel
theorem dX9_put_33 : decode cX9_put 33 = .ok (.iload_n 3, 1) := by decide +kernel
theorem dX9_put_34 : decode cX9_put 34 = .ok (.iastore, 1) := by decide +kernel
theorem dX9_put_35 : decode cX9_put 35 = .ok (.iload 6, 2) := by decide +kernel
theorem dX9_put_37 : decode cX9_put 37 = .ok (.ireturn, 1) := by decide +kernel
theorem dX9_glass_0 : decode cX9_glass 0 = .ok (.aload_n 0, 1) := by decide +kernel
theorem dX9_glass_1 : decode cX9_glass 1 = .ok (.getfield 26, 3) := by decide +kernel
theorem dX9_glass_4 : decode cX9_glass 4 = .ok (.getfield 104, 3) := by decide +kernel
theorem dX9_glass_7 : decode cX9_glass 7 = .ok (.istore_n 2, 1) := by decide +kernel
theorem dX9_glass_8 : decode cX9_glass 8 = .ok (.aload_n 0, 1) := by decide +kernel
theorem dX9_glass_9 : decode cX9_glass 9 = .ok (.getfield 26, 3) := by decide +kernel
theorem dX9_glass_12 : decode cX9_glass 12 = .ok (.iload_n 1, 1) := by decide +kernel
theorem dX9_glass_13 : decode cX9_glass 13 = .ok (.ifCond .eq 7, 3) := by decide +kernel
theorem dX9_glass_16 : decode cX9_glass 16 = .ok (.iconst 1, 1) := by decide +kernel
theorem dX9_glass_17 : decode cX9_glass 17 = .ok (.goto 4, 3) := by decide +kernel
theorem dX9_glass_20 : decode cX9_glass 20 = .ok (.iconst 0, 1) := by decide +kernel
theorem dX9_glass_21 : decode cX9_glass 21 = .ok (.putfield 104, 3) := by decide +kernel
theorem dX9_glass_24 : decode cX9_glass 24 = .ok (.iload_n 2, 1) := by decide +kernel
theorem dX9_glass_25 : decode cX9_glass 25 = .ok (.ireturn, 1) := by decide +kernel
theorem dX9_noise_0 : decode cX9_noise 0 = .ok (.iload_n 1, 1) := by decide +kernel
theorem dX9_noise_1 : decode cX9_noise 1 = .ok (.ifCond .lt 9, 3) := by decide +kernel
theorem dX9_noise_4 : decode cX9_noise 4 = .ok (.iload_n 1, 1) := by decide +kernel
theorem dX9_noise_5 : decode cX9_noise 5 = .ok (.bipush 9, 2) := by decide +kernel
theorem dX9_noise_7 : decode cX9_noise 7 = .ok (.if_icmp .le 6, 3) := by decide +kernel
theorem dX9_noise_10 : decode cX9_noise 10 = .ok (.ldc 73, 2) := by decide +kernel
theorem dX9_noise_12 : decode cX9_noise 12 = .ok (.ireturn, 1) := by decide +kernel
theorem dX9_noise_13 : decode cX9_noise 13 = .ok (.aload_n 0, 1) := by decide +kernel
theorem dX9_noise_14 : decode cX9_noise 14 = .ok (.getfield 26, 3) := by decide +kernel
theorem dX9_noise_17 : decode cX9_noise 17 = .ok (.getfield 107, 3) := by decide +kernel
theorem dX9_noise_20 : decode cX9_noise 20 = .ok (.istore_n 2, 1) := by decide +kernel
theorem dX9_noise_21 : decode cX9_noise 21 = .ok (.aload_n 0, 1) := by decide +kernel
theorem dX9_noise_22 : decode cX9_noise 22 = .ok (.getfield 26, 3) := by decide +kernel
theorem dX9_noise_25 : decode cX9_noise 25 = .ok (.iload_n 1, 1) := by decide +kernel
theorem dX9_noise_26 : decode cX9_noise 26 = .ok (.putfield 107, 3) := by decide +kernel
theorem dX9_noise_29 : decode cX9_noise 29 = .ok (.iload_n 2, 1) := by decide +kernel
theorem dX9_noise_30 : decode cX9_noise 30 = .ok (.ireturn, 1) := by decide +kernel
theorem dX9_drift_0 : decode cX9_drift 0 = .ok (.iload_n 1, 1) := by decide +kernel
theorem dX9_drift_1 : decode cX9_drift 1 = .ok (.iconst 1, 1) := by decide +kernel
theorem dX9_drift_2 : decode cX9_drift 2 = .ok (.if_icmp .lt 9, 3) := by decide +kernel
theorem dX9_drift_5 : decode cX9_drift 5 = .ok (.iload_n 1, 1) := by decide +kernel
theorem dX9_drift_6 : decode cX9_drift 6 = .ok (.bipush 99, 2) := by decide +kernel
theorem dX9_drift_8 : decode cX9_drift 8 = .ok (.if_icmp .le 6, 3) := by decide +kernel
theorem dX9_drift_11 : decode cX9_drift 11 = .ok (.ldc 73, 2) := by decide +kernel
theorem dX9_drift_13 : decode cX9_drift 13 = .ok (.ireturn, 1) := by decide +kernel
theorem dX9_drift_14 : decode cX9_drift 14 = .ok (.aload_n 0, 1) := by decide +kernel
theorem dX9_drift_15 : decode cX9_drift 15 = .ok (.getfield 19, 3) := by decide +kernel
theorem dX9_drift_18 : decode cX9_drift 18 = .ok (.getfield 101, 3) := by decide +kernel
theorem dX9_drift_21 : decode cX9_drift 21 = .ok (.ifCond .ne 6, 3) := by decide +kernel
theorem dX9_drift_24 : decode cX9_drift 24 = .ok (.ldc 182, 2) := by decide +kernel
theorem dX9_drift_26 : decode cX9_drift 26 = .ok (.ireturn, 1) := by decide +kernel
theorem dX9_drift_27 : decode cX9_drift 27 = .ok (.iconst 0, 1) := by decide +kernel
theorem dX9_drift_28 : decode cX9_drift 28 = .ok (.istore_n 2, 1) := by decide +kernel
theorem dX9_drift_29 : decode cX9_drift 29 = .ok (.iconst 0, 1) := by decide +kernel
theorem dX9_drift_30 : decode cX9_drift 30 = .ok (.istore_n 3, 1) := by decide +kernel
theorem dX9_drift_31 : decode cX9_drift 31 = .ok (.iload_n 3, 1) := by decide +kernel
theorem dX9_drift_32 : decode cX9_drift 32 = .ok (.iload_n 1, 1) := by decide +kernel
theorem dX9_drift_33 : decode cX9_drift 33 = .ok (.if_icmp .ge 92, 3) := by decide +kernel
theorem dX9_drift_36 : decode cX9_drift 36 = .ok (.iconst 0, 1) := by decide +kernel
theorem dX9_drift_37 : decode cX9_drift 37 = .ok (.istore 4, 2) := by decide +kernel
theorem dX9_drift_39 : decode cX9_drift 39 = .ok (.iload 4, 2) := by decide +kernel
theorem dX9_drift_41 : decode cX9_drift 41 = .ok (.aload_n 0, 1) := by decide +kernel
theorem dX9_drift_42 : decode cX9_drift 42 = .ok (.getfield 19, 3) := by decide +kernel
theorem dX9_drift_45 : decode cX9_drift 45 = .ok (.getfield 101, 3) := by decide +kernel
theorem dX9_drift_48 : decode cX9_drift 48 = .ok (.if_icmp .ge 26, 3) := by decide +kernel
theorem dX9_drift_51 : decode cX9_drift 51 = .ok (.aload_n 0, 1) := by decide +kernel
theorem dX9_drift_52 : decode cX9_drift 52 = .ok (.getfield 26, 3) := by decide +kernel
theorem dX9_drift_55 : decode cX9_drift 55 = .ok (.getfield 161, 3) := by decide +kernel
theorem dX9_drift_58 : decode cX9_drift 58 = .ok (.iload 4, 2) := by decide +kernel
theorem dX9_drift_60 : decode cX9_drift 60 = .ok (.aload_n 0, 1) := by decide +kernel
theorem dX9_drift_61 : decode cX9_drift 61 = .ok (.sipush 200, 3) := by decide +kernel
theorem dX9_drift_64 : decode cX9_drift 64 = .ok (.invokevirtual 183, 3) := by decide +kernel
theorem dX9_drift_67 : decode cX9_drift 67 = .ok (.iastore, 1) := by decide +kernel
theorem dX9_drift_68 : decode cX9_drift 68 = .ok (.iinc 4 1, 3) := by decide +kernel
theorem dX9_drift_71 : decode cX9_drift 71 = .ok (.goto (-32), 3) := by decide +kernel
theorem dX9_drift_74 : decode cX9_drift 74 = .ok (.aload_n 0, 1) := by decide +kernel
theorem dX9_drift_75 : decode cX9_drift 75 = .ok (.iconst 4, 1) := by decide +kernel
theorem dX9_drift_76 : decode cX9_drift 76 = .ok (.invokevirtual 183, 3) := by decide +kernel
theorem dX9_drift_79 : decode cX9_drift 79 = .ok (.ifCond .ne 19, 3) := by decide +kernel
theorem dX9_drift_82 : decode cX9_drift 82 = .ok (.aload_n 0, 1) := by decide +kernel
theorem dX9_drift_83 : decode cX9_drift 83 = .ok (.getfield 26, 3) := by decide +kernel
theorem dX9_drift_86 : decode cX9_drift 86 = .ok (.iconst 1, 1) := by decide +kernel
theorem dX9_drift_87 : decode cX9_drift 87 = .ok (.aload_n 0, 1) := by decide +kernel
theorem dX9_drift_88 : decode cX9_drift 88 = .ok (.getfield 26, 3) := by decide +kernel
theorem dX9_drift_91 : decode cX9_drift 91 = .ok (.getfield 104, 3) := by decide +kernel
theorem dX9_drift_94 : decode cX9_drift 94 = .ok (.isub, 1) := by decide +kernel
theorem dX9_drift_95 : decode cX9_drift 95 = .ok (.putfield 104, 3) := by decide +kernel
theorem dX9_drift_98 : decode cX9_drift 98 = .ok (.aload_n 0, 1) := by decide +kernel
theorem dX9_drift_99 : decode cX9_drift 99 = .ok (.getfield 35, 3) := by decide +kernel
theorem dX9_drift_102 : decode cX9_drift 102 = .ok (.aload_n 0, 1) := by decide +kernel
theorem dX9_drift_103 : decode cX9_drift 103 = .ok (.getfield 26, 3) := by decide +kernel
theorem dX9_drift_106 : decode cX9_drift 106 = .ok (.invokevirtual 113, 3) := by decide +kernel
theorem dX9_drift_109 : decode cX9_drift 109 = .ok (.iload_n 2, 1) := by decide +kernel
theorem dX9_drift_110 : decode cX9_drift 110 = .ok (.aload_n 0, 1) := by decide +kernel
theorem dX9_drift_111 : decode cX9_drift 111 = .ok (.getfield 35, 3) := by decide +kernel
theorem dX9_drift_114 : decode cX9_drift 114 = .ok (.invokevirtual 123, 3) := by decide +kernel
theorem dX9_drift_117 : decode cX9_drift 117 = .ok (.iadd, 1) := by decide +kernel
theorem dX9_drift_118 : decode cX9_drift 118 = .ok (.istore_n 2, 1) := by decide +kernel
theorem dX9_drift_119 : decode cX9_drift 119 = .ok (.iinc 3 1, 3) := by decide +kernel
theorem dX9_drift_122 : decode cX9_drift 122 = .ok (.goto (-91), 3) := by decide +kernel
theorem dX9_drift_125 : decode cX9_drift 125 = .ok (.iload_n 2, 1) := by decide +kernel
theorem dX9_drift_126 : decode cX9_drift 126 = .ok (.ireturn, 1) := by decide +kernel
theorem dX9_drawOf_0 : decode cX9_drawOf 0 = .ok (.aload_n 0, 1) := by decide +kernel
theorem dX9_drawOf_1 : decode cX9_drawOf 1 = .ok (.aload_n 0, 1) := by decide +kernel
theorem dX9_drawOf_2 : decode cX9_drawOf 2 = .ok (.getfield 65, 3) := by decide +kernel
theorem dX9_drawOf_5 : decode cX9_drawOf 5 = .ok (.ldc2_w 186, 3) := by decide +kernel
theorem dX9_drawOf_8 : decode cX9_drawOf 8 = .ok (.lmul, 1) := by decide +kernel
theorem dX9_drawOf_9 : decode cX9_drawOf 9 = .ok (.ldc2_w 188, 3) := by decide +kernel
theorem dX9_drawOf_12 : decode cX9_drawOf 12 = .ok (.ladd, 1) := by decide +kernel
theorem dX9_drawOf_13 : decode cX9_drawOf 13 = .ok (.ldc2_w 190, 3) := by decide +kernel
theorem dX9_drawOf_16 : decode cX9_drawOf 16 = .ok (.lrem, 1) := by decide +kernel
theorem dX9_drawOf_17 : decode cX9_drawOf 17 = .ok (.putfield 65, 3) := by decide +kernel
theorem dX9_drawOf_20 : decode cX9_drawOf 20 = .ok (.iload_n 1, 1) := by decide +kernel
theorem dX9_drawOf_21 : decode cX9_drawOf 21 = .ok (.iconst 1, 1) := by decide +kernel
theorem dX9_drawOf_22 : decode cX9_drawOf 22 = .ok (.if_icmp .ge 7, 3) := by decide +kernel
theorem dX9_drawOf_25 : decode cX9_drawOf 25 = .ok (.iconst 0, 1) := by decide +kernel
theorem dX9_drawOf_26 : decode cX9_drawOf 26 = .ok (.goto 15, 3) := by decide +kernel
theorem dX9_drawOf_29 : decode cX9_drawOf 29 = .ok (.aload_n 0, 1) := by decide +kernel
theorem dX9_drawOf_30 : decode cX9_drawOf 30 = .ok (.getfield 65, 3) := by decide +kernel
theorem dX9_drawOf_33 : decode cX9_drawOf 33 = .ok (.ldc2_w 192, 3) := by decide +kernel
theorem dX9_drawOf_36 : decode cX9_drawOf 36 = .ok (.ldiv, 1) := by decide +kernel
theorem dX9_drawOf_37 : decode cX9_drawOf 37 = .ok (.iload_n 1, 1) := by decide +kernel
theorem dX9_drawOf_38 : decode cX9_drawOf 38 = .ok (.i2l, 1) := by decide +kernel
theorem dX9_drawOf_39 : decode cX9_drawOf 39 = .ok (.lrem, 1) := by decide +kernel
theorem dX9_drawOf_40 : decode cX9_drawOf 40 = .ok (.l2i, 1) := by decide +kernel
theorem dX9_drawOf_41 : decode cX9_drawOf 41 = .ok (.ireturn, 1) := by decide +kernel
theorem dX9_pass_0 : decode cX9_pass 0 = .ok (.aload_n 0, 1) := by decide +kernel
theorem dX9_pass_1 : decode cX9_pass 1 = .ok (.iload_n 1, 1) := by decide +kernel
theorem dX9_pass_2 : decode cX9_pass 2 = .ok (.invokevirtual 155, 3) := by decide +kernel
theorem dX9_pass_5 : decode cX9_pass 5 = .ok (.ifCond .eq 6, 3) := by decide +kernel
theorem dX9_pass_8 : decode cX9_pass 8 = .ok (.ldc 136, 2) := by decide +kernel
theorem dX9_pass_10 : decode cX9_pass 10 = .ok (.ireturn, 1) := by decide +kernel
theorem dX9_pass_11 : decode cX9_pass 11 = .ok (.iload_n 2, 1) := by decide +kernel
theorem dX9_pass_12 : decode cX9_pass 12 = .ok (.ifCond .lt 8, 3) := by decide +kernel
theorem dX9_pass_15 : decode cX9_pass 15 = .ok (.iload_n 2, 1) := by decide +kernel
theorem dX9_pass_16 : decode cX9_pass 16 = .ok (.iconst 5, 1) := by decide +kernel
theorem dX9_pass_17 : decode cX9_pass 17 = .ok (.if_icmp .le 6, 3) := by decide +kernel
theorem dX9_pass_20 : decode cX9_pass 20 = .ok (.ldc 73, 2) := by decide +kernel
theorem dX9_pass_22 : decode cX9_pass 22 = .ok (.ireturn, 1) := by decide +kernel
theorem dX9_pass_23 : decode cX9_pass 23 = .ok (.aload_n 0, 1) := by decide +kernel
theorem dX9_pass_24 : decode cX9_pass 24 = .ok (.getfield 35, 3) := by decide +kernel
theorem dX9_pass_27 : decode cX9_pass 27 = .ok (.aload_n 0, 1) := by decide +kernel
theorem dX9_pass_28 : decode cX9_pass 28 = .ok (.getfield 26, 3) := by decide +kernel
theorem dX9_pass_31 : decode cX9_pass 31 = .ok (.invokevirtual 113, 3) := by decide +kernel
theorem dX9_pass_34 : decode cX9_pass 34 = .ok (.aload_n 0, 1) := by decide +kernel
theorem dX9_pass_35 : decode cX9_pass 35 = .ok (.getfield 35, 3) := by decide +kernel
theorem dX9_pass_38 : decode cX9_pass 38 = .ok (.getfield 194, 3) := by decide +kernel
theorem dX9_pass_41 : decode cX9_pass 41 = .ok (.iload_n 1, 1) := by decide +kernel
theorem dX9_pass_42 : decode cX9_pass 42 = .ok (.aaload, 1) := by decide +kernel
theorem dX9_pass_43 : decode cX9_pass 43 = .ok (.astore_n 3, 1) := by decide +kernel
theorem dX9_pass_44 : decode cX9_pass 44 = .ok (.iload_n 2, 1) := by decide +kernel
theorem dX9_pass_45 : decode cX9_pass 45 = .ok (.tableswitch 60 0 4 #[35, 40, 45, 50, 55], 35) := by decide +kernel
theorem dX9_pass_80 : decode cX9_pass 80 = .ok (.aload_n 3, 1) := by decide +kernel
theorem dX9_pass_81 : decode cX9_pass 81 = .ok (.getfield 198, 3) := by decide +kernel
theorem dX9_pass_84 : decode cX9_pass 84 = .ok (.ireturn, 1) := by decide +kernel
theorem dX9_pass_85 : decode cX9_pass 85 = .ok (.aload_n 3, 1) := by decide +kernel
theorem dX9_pass_86 : decode cX9_pass 86 = .ok (.getfield 203, 3) := by decide +kernel
theorem dX9_pass_89 : decode cX9_pass 89 = .ok (.ireturn, 1) := by decide +kernel
theorem dX9_pass_90 : decode cX9_pass 90 = .ok (.aload_n 3, 1) := by decide +kernel
theorem dX9_pass_91 : decode cX9_pass 91 = .ok (.getfield 206, 3) := by decide +kernel
theorem dX9_pass_94 : decode cX9_pass 94 = .ok (.ireturn, 1) := by decide +kernel
theorem dX9_pass_95 : decode cX9_pass 95 = .ok (.aload_n 3, 1) := by decide +kernel
theorem dX9_pass_96 : decode cX9_pass 96 = .ok (.getfield 208, 3) := by decide +kernel
theorem dX9_pass_99 : decode cX9_pass 99 = .ok (.ireturn, 1) := by decide +kernel
theorem dX9_pass_100 : decode cX9_pass 100 = .ok (.aload_n 3, 1) := by decide +kernel
theorem dX9_pass_101 : decode cX9_pass 101 = .ok (.getfield 211, 3) := by decide +kernel
theorem dX9_pass_104 : decode cX9_pass 104 = .ok (.ireturn, 1) := by decide +kernel
theorem dX9_pass_105 : decode cX9_pass 105 = .ok (.aload_n 3, 1) := by decide +kernel
theorem dX9_pass_106 : decode cX9_pass 106 = .ok (.getfield 214, 3) := by decide +kernel
theorem dX9_pass_109 : decode cX9_pass 109 = .ok (.ireturn, 1) := by decide +kernel
theorem dX9_leafAt_0 : decode cX9_leafAt 0 = .ok (.iload_n 1, 1) := by decide +kernel
theorem dX9_leafAt_1 : decode cX9_leafAt 1 = .ok (.invokestatic 132, 3) := by decide +kernel
theorem dX9_leafAt_4 : decode cX9_leafAt 4 = .ok (.ifCond .eq 6, 3) := by decide +kernel
theorem dX9_leafAt_7 : decode cX9_leafAt 7 = .ok (.ldc 136, 2) := by decide +kernel
theorem dX9_leafAt_9 : decode cX9_leafAt 9 = .ok (.ireturn, 1) := by decide +kernel
theorem dX9_leafAt_10 : decode cX9_leafAt 10 = .ok (.iload_n 2, 1) := by decide +kernel
theorem dX9_leafAt_11 : decode cX9_leafAt 11 = .ok (.ifCond .lt 10, 3) := by decide +kernel
theorem dX9_leafAt_14 : decode cX9_leafAt 14 = .ok (.iload_n 2, 1) := by decide +kernel
theorem dX9_leafAt_15 : decode cX9_leafAt 15 = .ok (.sipush 9999, 3) := by decide +kernel
theorem dX9_leafAt_18 : decode cX9_leafAt 18 = .ok (.if_icmp .le 6, 3) := by decide +kernel
theorem dX9_leafAt_21 : decode cX9_leafAt 21 = .ok (.ldc 73, 2) := by decide +kernel
theorem dX9_leafAt_23 : decode cX9_leafAt 23 = .ok (.ireturn, 1) := by decide +kernel
theorem dX9_leafAt_24 : decode cX9_leafAt 24 = .ok (.aload_n 0, 1) := by decide +kernel
theorem dX9_leafAt_25 : decode cX9_leafAt 25 = .ok (.getfield 35, 3) := by decide +kernel
theorem dX9_leafAt_28 : decode cX9_leafAt 28 = .ok (.aload_n 0, 1) := by decide +kernel
theorem dX9_leafAt_29 : decode cX9_leafAt 29 = .ok (.getfield 26, 3) := by decide +kernel
theorem dX9_leafAt_32 : decode cX9_leafAt 32 = .ok (.invokevirtual 113, 3) := by decide +kernel
theorem dX9_leafAt_35 : decode cX9_leafAt 35 = .ok (.aload_n 0, 1) := by decide +kernel
theorem dX9_leafAt_36 : decode cX9_leafAt 36 = .ok (.getfield 35, 3) := by decide +kernel
theorem dX9_leafAt_39 : decode cX9_leafAt 39 = .ok (.getfield 143, 3) := by decide +kernel
theorem dX9_leafAt_42 : decode cX9_leafAt 42 = .ok (.iload_n 1, 1) := by decide +kernel
theorem dX9_leafAt_43 : decode cX9_leafAt 43 = .ok (.aaload, 1) := by decide +kernel
theorem dX9_leafAt_44 : decode cX9_leafAt 44 = .ok (.iload_n 2, 1) := by decide +kernel
theorem dX9_leafAt_45 : decode cX9_leafAt 45 = .ok (.invokevirtual 217, 3) := by decide +kernel
theorem dX9_leafAt_48 : decode cX9_leafAt 48 = .ok (.ireturn, 1) := by decide +kernel
theorem dX9_all_0 : decode cX9_all 0 = .ok (.iload_n 1, 1) := by decide +kernel
theorem dX9_all_1 : decode cX9_all 1 = .ok (.invokestatic 220, 3) := by decide +kernel
theorem dX9_all_4 : decode cX9_all 4 = .ok (.ifCond .eq 8, 3) := by decide +kernel
theorem dX9_all_7 : decode cX9_all 7 = .ok (.ldc 73, 2) := by decide +kernel
theorem dX9_all_9 : decode cX9_all 9 = .ok (.goto 11, 3) := by decide +kernel
theorem dX9_all_12 : decode cX9_all 12 = .ok (.aload_n 0, 1) := by decide +kernel
theorem dX9_all_13 : decode cX9_all 13 = .ok (.getfield 44, 3) := by decide +kernel
theorem dX9_all_16 : decode cX9_all 16 = .ok (.iload_n 1, 1) := by decide +kernel
theorem dX9_all_17 : decode cX9_all 17 = .ok (.invokevirtual 223, 3) := by decide +kernel
theorem dX9_all_20 : decode cX9_all 20 = .ok (.ireturn, 1) := by decide +kernel
theorem dX9_best_0 : decode cX9_best 0 = .ok (.iload_n 1, 1) := by decide +kernel
theorem dX9_best_1 : decode cX9_best 1 = .ok (.iconst (-1), 1) := by decide +kernel
theorem dX9_best_2 : decode cX9_best 2 = .ok (.if_icmp .eq 14, 3) := by decide +kernel
theorem dX9_best_5 : decode cX9_best 5 = .ok (.aload_n 0, 1) := by decide +kernel
theorem dX9_best_6 : decode cX9_best 6 = .ok (.iload_n 1, 1) := by decide +kernel
theorem dX9_best_7 : decode cX9_best 7 = .ok (.invokevirtual 155, 3) := by decide +kernel
theorem dX9_best_10 : decode cX9_best 10 = .ok (.ifCond .eq 6, 3) := by decide +kernel
theorem dX9_best_13 : decode cX9_best 13 = .ok (.ldc 136, 2) := by decide +kernel
theorem dX9_best_15 : decode cX9_best 15 = .ok (.ireturn, 1) := by decide +kernel
theorem dX9_best_16 : decode cX9_best 16 = .ok (.aload_n 0, 1) := by decide +kernel
theorem dX9_best_17 : decode cX9_best 17 = .ok (.getfield 44, 3) := by decide +kernel
theorem dX9_best_20 : decode cX9_best 20 = .ok (.iload_n 1, 1) := by decide +kernel
theorem dX9_best_21 : decode cX9_best 21 = .ok (.invokevirtual 226, 3) := by decide +kernel
theorem dX9_best_24 : decode cX9_best 24 = .ok (.ireturn, 1) := by decide +kernel
theorem dX9_bestKick_0 : decode cX9_bestKick 0 = .ok (.aload_n 0, 1) := by decide +kernel
theorem dX9_bestKick_1 : decode cX9_bestKick 1 = .ok (.iload_n 1, 1) := by decide +kernel
theorem dX9_bestKick_2 : decode cX9_bestKick 2 = .ok (.invokevirtual 155, 3) := by decide +kernel
theorem dX9_bestKick_5 : decode cX9_bestKick 5 = .ok (.ifCond .eq 6, 3) := by decide +kernel
theorem dX9_bestKick_8 : decode cX9_bestKick 8 = .ok (.ldc 136, 2) := by decide +kernel
theorem dX9_bestKick_10 : decode cX9_bestKick 10 = .ok (.ireturn, 1) := by decide +kernel
theorem dX9_bestKick_11 : decode cX9_bestKick 11 = .ok (.iload_n 2, 1) := by decide +kernel
theorem dX9_bestKick_12 : decode cX9_bestKick 12 = .ok (.ifCond .lt 8, 3) := by decide +kernel
theorem dX9_bestKick_15 : decode cX9_bestKick 15 = .ok (.iload_n 2, 1) := by decide +kernel
theorem dX9_bestKick_16 : decode cX9_bestKick 16 = .ok (.iconst 1, 1) := by decide +kernel
theorem dX9_bestKick_17 : decode cX9_bestKick 17 = .ok (.if_icmp .le 6, 3) := by decide +kernel
theorem dX9_bestKick_20 : decode cX9_bestKick 20 = .ok (.ldc 73, 2) := by decide +kernel
theorem dX9_bestKick_22 : decode cX9_bestKick 22 = .ok (.ireturn, 1) := by decide +kernel
theorem dX9_bestKick_23 : decode cX9_bestKick 23 = .ok (.aload_n 0, 1) := by decide +kernel
theorem dX9_bestKick_24 : decode cX9_bestKick 24 = .ok (.getfield 44, 3) := by decide +kernel
theorem dX9_bestKick_27 : decode cX9_bestKick 27 = .ok (.iload_n 1, 1) := by decide +kernel
theorem dX9_bestKick_28 : decode cX9_bestKick 28 = .ok (.invokevirtual 229, 3) := by decide +kernel
theorem dX9_bestKick_31 : decode cX9_bestKick 31 = .ok (.iload_n 2, 1) := by decide +kernel
theorem dX9_bestKick_32 : decode cX9_bestKick 32 = .ok (.ifCond .ne 13, 3) := by decide +kernel
theorem dX9_bestKick_35 : decode cX9_bestKick 35 = .ok (.aload_n 0, 1) := by decide +kernel
theorem dX9_bestKick_36 : decode cX9_bestKick 36 = .ok (.getfield 44, 3) := by decide +kernel
theorem dX9_bestKick_39 : decode cX9_bestKick 39 = .ok (.getfield 233, 3) := by decide +kernel
theorem dX9_bestKick_42 : decode cX9_bestKick 42 = .ok (.goto 10, 3) := by decide +kernel
theorem dX9_bestKick_45 : decode cX9_bestKick 45 = .ok (.aload_n 0, 1) := by decide +kernel
theorem dX9_bestKick_46 : decode cX9_bestKick 46 = .ok (.getfield 44, 3) := by decide +kernel
theorem dX9_bestKick_49 : decode cX9_bestKick 49 = .ok (.getfield 236, 3) := by decide +kernel
theorem dX9_bestKick_52 : decode cX9_bestKick 52 = .ok (.ireturn, 1) := by decide +kernel
theorem dX9_change_0 : decode cX9_change 0 = .ok (.iload_n 1, 1) := by decide +kernel
theorem dX9_change_1 : decode cX9_change 1 = .ok (.invokestatic 220, 3) := by decide +kernel
theorem dX9_change_4 : decode cX9_change 4 = .ok (.ifCond .ne 19, 3) := by decide +kernel
theorem dX9_change_7 : decode cX9_change 7 = .ok (.iload_n 2, 1) := by decide +kernel
theorem dX9_change_8 : decode cX9_change 8 = .ok (.invokestatic 220, 3) := by decide +kernel
theorem dX9_change_11 : decode cX9_change 11 = .ok (.ifCond .ne 12, 3) := by decide +kernel
theorem dX9_change_14 : decode cX9_change 14 = .ok (.iload_n 3, 1) := by decide +kernel
theorem dX9_change_15 : decode cX9_change 15 = .ok (.ifCond .lt 8, 3) := by decide +kernel
theorem dX9_change_18 : decode cX9_change 18 = .ok (.iload_n 3, 1) := by decide +kernel
theorem dX9_change_19 : decode cX9_change 19 = .ok (.iconst 1, 1) := by decide +kernel
theorem dX9_change_20 : decode cX9_change 20 = .ok (.if_icmp .le 6, 3) := by decide +kernel
theorem dX9_change_23 : decode cX9_change 23 = .ok (.ldc 73, 2) := by decide +kernel
theorem dX9_change_25 : decode cX9_change 25 = .ok (.ireturn, 1) := by decide +kernel
theorem dX9_change_26 : decode cX9_change 26 = .ok (.aload_n 0, 1) := by decide +kernel
theorem dX9_change_27 : decode cX9_change 27 = .ok (.getfield 44, 3) := by decide +kernel
theorem dX9_change_30 : decode cX9_change 30 = .ok (.iload_n 1, 1) := by decide +kernel
theorem dX9_change_31 : decode cX9_change 31 = .ok (.iload_n 2, 1) := by decide +kernel
theorem dX9_change_32 : decode cX9_change 32 = .ok (.invokevirtual 239, 3) := by decide +kernel
theorem dX9_change_35 : decode cX9_change 35 = .ok (.iload_n 3, 1) := by decide +kernel
theorem dX9_change_36 : decode cX9_change 36 = .ok (.ifCond .ne 13, 3) := by decide +kernel
theorem dX9_change_39 : decode cX9_change 39 = .ok (.aload_n 0, 1) := by decide +kernel
theorem dX9_change_40 : decode cX9_change 40 = .ok (.getfield 44, 3) := by decide +kernel
theorem dX9_change_43 : decode cX9_change 43 = .ok (.getfield 233, 3) := by decide +kernel
theorem dX9_change_46 : decode cX9_change 46 = .ok (.goto 10, 3) := by decide +kernel
theorem dX9_change_49 : decode cX9_change 49 = .ok (.aload_n 0, 1) := by decide +kernel
theorem dX9_change_50 : decode cX9_change 50 = .ok (.getfield 44, 3) := by decide +kernel
theorem dX9_change_53 : decode cX9_change 53 = .ok (.getfield 236, 3) := by decide +kernel
theorem dX9_change_56 : decode cX9_change 56 = .ok (.ireturn, 1) := by decide +kernel
theorem dX9_worth_0 : decode cX9_worth 0 = .ok (.iload_n 1, 1) := by decide +kernel
theorem dX9_worth_1 : decode cX9_worth 1 = .ok (.ifCond .lt 19, 3) := by decide +kernel
theorem dX9_worth_4 : decode cX9_worth 4 = .ok (.iload_n 1, 1) := by decide +kernel
theorem dX9_worth_5 : decode cX9_worth 5 = .ok (.iconst 1, 1) := by decide +kernel
theorem dX9_worth_6 : decode cX9_worth 6 = .ok (.if_icmp .gt 14, 3) := by decide +kernel
theorem dX9_worth_9 : decode cX9_worth 9 = .ok (.iload_n 2, 1) := by decide +kernel
theorem dX9_worth_10 : decode cX9_worth 10 = .ok (.ifCond .lt 10, 3) := by decide +kernel
theorem dX9_worth_13 : decode cX9_worth 13 = .ok (.iload_n 2, 1) := by decide +kernel
theorem dX9_worth_14 : decode cX9_worth 14 = .ok (.sipush 999, 3) := by decide +kernel
theorem dX9_worth_17 : decode cX9_worth 17 = .ok (.if_icmp .le 6, 3) := by decide +kernel
theorem dX9_worth_20 : decode cX9_worth 20 = .ok (.ldc 73, 2) := by decide +kernel
theorem dX9_worth_22 : decode cX9_worth 22 = .ok (.ireturn, 1) := by decide +kernel
theorem dX9_worth_23 : decode cX9_worth 23 = .ok (.iload_n 2, 1) := by decide +kernel
theorem dX9_worth_24 : decode cX9_worth 24 = .ok (.iload_n 1, 1) := by decide +kernel
theorem dX9_worth_25 : decode cX9_worth 25 = .ok (.ifCond .ne 13, 3) := by decide +kernel
theorem dX9_worth_28 : decode cX9_worth 28 = .ok (.aload_n 0, 1) := by decide +kernel
theorem dX9_worth_29 : decode cX9_worth 29 = .ok (.getfield 44, 3) := by decide +kernel
theorem dX9_worth_32 : decode cX9_worth 32 = .ok (.invokevirtual 243, 3) := by decide +kernel
theorem dX9_worth_35 : decode cX9_worth 35 = .ok (.goto 10, 3) := by decide +kernel
theorem dX9_worth_38 : decode cX9_worth 38 = .ok (.aload_n 0, 1) := by decide +kernel
theorem dX9_worth_39 : decode cX9_worth 39 = .ok (.getfield 44, 3) := by decide +kernel
theorem dX9_worth_42 : decode cX9_worth 42 = .ok (.invokevirtual 246, 3) := by decide +kernel
theorem dX9_worth_45 : decode cX9_worth 45 = .ok (.imul, 1) := by decide +kernel
theorem dX9_worth_46 : decode cX9_worth 46 = .ok (.ireturn, 1) := by decide +kernel
theorem dX9_apart_0 : decode cX9_apart 0 = .ok (.iload_n 1, 1) := by decide +kernel
theorem dX9_apart_1 : decode cX9_apart 1 = .ok (.invokestatic 249, 3) := by decide +kernel
theorem dX9_apart_4 : decode cX9_apart 4 = .ok (.ifCond .ne 13, 3) := by decide +kernel
theorem dX9_apart_7 : decode cX9_apart 7 = .ok (.iload_n 2, 1) := by decide +kernel
theorem dX9_apart_8 : decode cX9_apart 8 = .ok (.ifCond .lt 9, 3) := by decide +kernel
theorem dX9_apart_11 : decode cX9_apart 11 = .ok (.iload_n 2, 1) := by decide +kernel
theorem dX9_apart_12 : decode cX9_apart 12 = .ok (.bipush 50, 2) := by decide +kernel
theorem dX9_apart_14 : decode cX9_apart 14 = .ok (.if_icmp .le 6, 3) := by decide +kernel
theorem dX9_apart_17 : decode cX9_apart 17 = .ok (.ldc 73, 2) := by decide +kernel
theorem dX9_apart_19 : decode cX9_apart 19 = .ok (.ireturn, 1) := by decide +kernel
theorem dX9_apart_20 : decode cX9_apart 20 = .ok (.aload_n 0, 1) := by decide +kernel
theorem dX9_apart_21 : decode cX9_apart 21 = .ok (.getfield 44, 3) := by decide +kernel
theorem dX9_apart_24 : decode cX9_apart 24 = .ok (.iload_n 1, 1) := by decide +kernel
theorem dX9_apart_25 : decode cX9_apart 25 = .ok (.iload_n 2, 1) := by decide +kernel
theorem dX9_apart_26 : decode cX9_apart 26 = .ok (.invokevirtual 252, 3) := by decide +kernel
theorem dX9_apart_29 : decode cX9_apart 29 = .ok (.ireturn, 1) := by decide +kernel
theorem dX9_order_0 : decode cX9_order 0 = .ok (.iload_n 1, 1) := by decide +kernel
theorem dX9_order_1 : decode cX9_order 1 = .ok (.invokestatic 249, 3) := by decide +kernel
theorem dX9_order_4 : decode cX9_order 4 = .ok (.ifCond .eq 6, 3) := by decide +kernel
theorem dX9_order_7 : decode cX9_order 7 = .ok (.ldc 73, 2) := by decide +kernel
theorem dX9_order_9 : decode cX9_order 9 = .ok (.ireturn, 1) := by decide +kernel
theorem dX9_order_10 : decode cX9_order 10 = .ok (.aload_n 0, 1) := by decide +kernel
theorem dX9_order_11 : decode cX9_order 11 = .ok (.getfield 44, 3) := by decide +kernel
theorem dX9_order_14 : decode cX9_order 14 = .ok (.iload_n 1, 1) := by decide +kernel
theorem dX9_order_15 : decode cX9_order 15 = .ok (.iload_n 2, 1) := by decide +kernel
theorem dX9_order_16 : decode cX9_order 16 = .ok (.invokevirtual 256, 3) := by decide +kernel
theorem dX9_order_19 : decode cX9_order 19 = .ok (.ireturn, 1) := by decide +kernel
theorem dX9_rests_0 : decode cX9_rests 0 = .ok (.aload_n 0, 1) := by decide +kernel
theorem dX9_rests_1 : decode cX9_rests 1 = .ok (.iload_n 1, 1) := by decide +kernel
theorem dX9_rests_2 : decode cX9_rests 2 = .ok (.invokevirtual 155, 3) := by decide +kernel
theorem dX9_rests_5 : decode cX9_rests 5 = .ok (.ifCond .ne 16, 3) := by decide +kernel
theorem dX9_rests_8 : decode cX9_rests 8 = .ok (.aload_n 0, 1) := by decide +kernel
theorem dX9_rests_9 : decode cX9_rests 9 = .ok (.iload_n 2, 1) := by decide +kernel
theorem dX9_rests_10 : decode cX9_rests 10 = .ok (.invokevirtual 155, 3) := by decide +kernel
theorem dX9_rests_13 : decode cX9_rests 13 = .ok (.ifCond .ne 8, 3) := by decide +kernel
theorem dX9_rests_16 : decode cX9_rests 16 = .ok (.iload_n 1, 1) := by decide +kernel
theorem dX9_rests_17 : decode cX9_rests 17 = .ok (.iload_n 2, 1) := by decide +kernel
theorem dX9_rests_18 : decode cX9_rests 18 = .ok (.if_icmp .ne 6, 3) := by decide +kernel
theorem dX9_rests_21 : decode cX9_rests 21 = .ok (.ldc 136, 2) := by decide +kernel
theorem dX9_rests_23 : decode cX9_rests 23 = .ok (.ireturn, 1) := by decide +kernel
theorem dX9_rests_24 : decode cX9_rests 24 = .ok (.aload_n 0, 1) := by decide +kernel
theorem dX9_rests_25 : decode cX9_rests 25 = .ok (.getfield 19, 3) := by decide +kernel
theorem dX9_rests_28 : decode cX9_rests 28 = .ok (.getfield 158, 3) := by decide +kernel
theorem dX9_rests_31 : decode cX9_rests 31 = .ok (.iload_n 1, 1) := by decide +kernel
theorem dX9_rests_32 : decode cX9_rests 32 = .ok (.iaload, 1) := by decide +kernel
theorem dX9_rests_33 : decode cX9_rests 33 = .ok (.aload_n 0, 1) := by decide +kernel
theorem dX9_rests_34 : decode cX9_rests 34 = .ok (.getfield 19, 3) := by decide +kernel
theorem dX9_rests_37 : decode cX9_rests 37 = .ok (.getfield 158, 3) := by decide +kernel
theorem dX9_rests_40 : decode cX9_rests 40 = .ok (.iload_n 2, 1) := by decide +kernel
theorem dX9_rests_41 : decode cX9_rests 41 = .ok (.iaload, 1) := by decide +kernel
theorem dX9_rests_42 : decode cX9_rests 42 = .ok (.if_icmp .ne 6, 3) := by decide +kernel
theorem dX9_rests_45 : decode cX9_rests 45 = .ok (.ldc 182, 2) := by decide +kernel
theorem dX9_rests_47 : decode cX9_rests 47 = .ok (.ireturn, 1) := by decide +kernel
theorem dX9_rests_48 : decode cX9_rests 48 = .ok (.aload_n 0, 1) := by decide +kernel
theorem dX9_rests_49 : decode cX9_rests 49 = .ok (.getfield 44, 3) := by decide +kernel
theorem dX9_rests_52 : decode cX9_rests 52 = .ok (.iload_n 1, 1) := by decide +kernel
theorem dX9_rests_53 : decode cX9_rests 53 = .ok (.iload_n 2, 1) := by decide +kernel
theorem dX9_rests_54 : decode cX9_rests 54 = .ok (.invokevirtual 259, 3) := by decide +kernel
theorem dX9_rests_57 : decode cX9_rests 57 = .ok (.ireturn, 1) := by decide +kernel
theorem dX9_stack_0 : decode cX9_stack 0 = .ok (.iload_n 1, 1) := by decide +kernel
theorem dX9_stack_1 : decode cX9_stack 1 = .ok (.ifCond .lt 9, 3) := by decide +kernel
theorem dX9_stack_4 : decode cX9_stack 4 = .ok (.iload_n 1, 1) := by decide +kernel
theorem dX9_stack_5 : decode cX9_stack 5 = .ok (.bipush 100, 2) := by decide +kernel
theorem dX9_stack_7 : decode cX9_stack 7 = .ok (.if_icmp .le 6, 3) := by decide +kernel
theorem dX9_stack_10 : decode cX9_stack 10 = .ok (.ldc 73, 2) := by decide +kernel
theorem dX9_stack_12 : decode cX9_stack 12 = .ok (.ireturn, 1) := by decide +kernel
theorem dX9_stack_13 : decode cX9_stack 13 = .ok (.iconst 1, 1) := by decide +kernel
theorem dX9_stack_14 : decode cX9_stack 14 = .ok (.istore_n 2, 1) := by decide +kernel
theorem dX9_stack_15 : decode cX9_stack 15 = .ok (.iconst 2, 1) := by decide +kernel
theorem dX9_stack_16 : decode cX9_stack 16 = .ok (.istore_n 3, 1) := by decide +kernel
theorem dX9_stack_17 : decode cX9_stack 17 = .ok (.iload_n 3, 1) := by decide +kernel
theorem dX9_stack_18 : decode cX9_stack 18 = .ok (.bipush 9, 2) := by decide +kernel
theorem dX9_stack_20 : decode cX9_stack 20 = .ok (.if_icmp .gt 24, 3) := by decide +kernel
theorem dX9_stack_23 : decode cX9_stack 23 = .ok (.iload_n 3, 1) := by decide +kernel
theorem dX9_stack_24 : decode cX9_stack 24 = .ok (.iload_n 1, 1) := by decide +kernel
theorem dX9_stack_25 : decode cX9_stack 25 = .ok (.invokestatic 262, 3) := by decide +kernel
theorem dX9_stack_28 : decode cX9_stack 28 = .ok (.iload_n 2, 1) := by decide +kernel
theorem dX9_stack_29 : decode cX9_stack 29 = .ok (.iload_n 1, 1) := by decide +kernel
theorem dX9_stack_30 : decode cX9_stack 30 = .ok (.invokestatic 262, 3) := by decide +kernel
theorem dX9_stack_33 : decode cX9_stack 33 = .ok (.if_icmp .le 5, 3) := by decide +kernel
theorem dX9_stack_36 : decode cX9_stack 36 = .ok (.iload_n 3, 1) := by decide +kernel
theorem dX9_stack_37 : decode cX9_stack 37 = .ok (.istore_n 2, 1) := by decide +kernel
theorem dX9_stack_38 : decode cX9_stack 38 = .ok (.iinc 3 1, 3) := by decide +kernel
theorem dX9_stack_41 : decode cX9_stack 41 = .ok (.goto (-24), 3) := by decide +kernel
theorem dX9_stack_44 : decode cX9_stack 44 = .ok (.iload_n 2, 1) := by decide +kernel
theorem dX9_stack_45 : decode cX9_stack 45 = .ok (.ireturn, 1) := by decide +kernel
theorem dX9_carried_0 : decode cX9_carried 0 = .ok (.iload_n 0, 1) := by decide +kernel
theorem dX9_carried_1 : decode cX9_carried 1 = .ok (.iconst 0, 1) := by decide +kernel
theorem dX9_carried_2 : decode cX9_carried 2 = .ok (.bipush 100, 2) := by decide +kernel
theorem dX9_carried_4 : decode cX9_carried 4 = .ok (.iload_n 1, 1) := by decide +kernel
theorem dX9_carried_5 : decode cX9_carried 5 = .ok (.iload_n 0, 1) := by decide +kernel
theorem dX9_carried_6 : decode cX9_carried 6 = .ok (.imul, 1) := by decide +kernel
theorem dX9_carried_7 : decode cX9_carried 7 = .ok (.isub, 1) := by decide +kernel
theorem dX9_carried_8 : decode cX9_carried 8 = .ok (.invokestatic 265, 3) := by decide +kernel
theorem dX9_carried_11 : decode cX9_carried 11 = .ok (.imul, 1) := by decide +kernel
theorem dX9_carried_12 : decode cX9_carried 12 = .ok (.ireturn, 1) := by decide +kernel
theorem dX9_until_0 : decode cX9_until 0 = .ok (.iload_n 1, 1) := by decide +kernel
theorem dX9_until_1 : decode cX9_until 1 = .ok (.ifCond .lt 20, 3) := by decide +kernel
theorem dX9_until_4 : decode cX9_until 4 = .ok (.iload_n 1, 1) := by decide +kernel
theorem dX9_until_5 : decode cX9_until 5 = .ok (.sipush 1000, 3) := by decide +kernel
theorem dX9_until_8 : decode cX9_until 8 = .ok (.if_icmp .gt 13, 3) := by decide +kernel
theorem dX9_until_11 : decode cX9_until 11 = .ok (.iload_n 2, 1) := by decide +kernel
theorem dX9_until_12 : decode cX9_until 12 = .ok (.ifCond .lt 9, 3) := by decide +kernel
theorem dX9_until_15 : decode cX9_until 15 = .ok (.iload_n 2, 1) := by decide +kernel
theorem dX9_until_16 : decode cX9_until 16 = .ok (.bipush 100, 2) := by decide +kernel
theorem dX9_until_18 : decode cX9_until 18 = .ok (.if_icmp .le 6, 3) := by decide +kernel
theorem dX9_until_21 : decode cX9_until 21 = .ok (.ldc 73, 2) := by decide +kernel
theorem dX9_until_23 : decode cX9_until 23 = .ok (.ireturn, 1) := by decide +kernel
theorem dX9_until_24 : decode cX9_until 24 = .ok (.ldc2_w 270, 3) := by decide +kernel
theorem dX9_until_27 : decode cX9_until 27 = .ok (.lstore_n 3, 1) := by decide +kernel
theorem dX9_until_28 : decode cX9_until 28 = .ok (.iload_n 2, 1) := by decide +kernel
theorem dX9_until_29 : decode cX9_until 29 = .ok (.i2l, 1) := by decide +kernel
theorem dX9_until_30 : decode cX9_until 30 = .ok (.ldc2_w 272, 3) := by decide +kernel
theorem dX9_until_33 : decode cX9_until 33 = .ok (.lmul, 1) := by decide +kernel
theorem dX9_until_34 : decode cX9_until 34 = .ok (.lstore 5, 2) := by decide +kernel
theorem dX9_until_36 : decode cX9_until 36 = .ok (.iconst 0, 1) := by decide +kernel
theorem dX9_until_37 : decode cX9_until 37 = .ok (.istore 7, 2) := by decide +kernel
theorem dX9_until_39 : decode cX9_until 39 = .ok (.iload 7, 2) := by decide +kernel
theorem dX9_until_41 : decode cX9_until 41 = .ok (.sipush 9999, 3) := by decide +kernel
theorem dX9_until_44 : decode cX9_until 44 = .ok (.if_icmp .gt 32, 3) := by decide +kernel
theorem dX9_until_47 : decode cX9_until 47 = .ok (.lload_n 3, 1) := by decide +kernel
theorem dX9_until_48 : decode cX9_until 48 = .ok (.lload 5, 2) := by decide +kernel
theorem dX9_until_50 : decode cX9_until 50 = .ok (.lcmp, 1) := by decide +kernel
theorem dX9_until_51 : decode cX9_until 51 = .ok (.ifCond .gt 6, 3) := by decide +kernel
theorem dX9_until_54 : decode cX9_until 54 = .ok (.iload 7, 2) := by decide +kernel
theorem dX9_until_56 : decode cX9_until 56 = .ok (.ireturn, 1) := by decide +kernel
theorem dX9_until_57 : decode cX9_until 57 = .ok (.lload_n 3, 1) := by decide +kernel
theorem dX9_until_58 : decode cX9_until 58 = .ok (.sipush 1000, 3) := by decide +kernel
theorem dX9_until_61 : decode cX9_until 61 = .ok (.iload_n 1, 1) := by decide +kernel
theorem dX9_until_62 : decode cX9_until 62 = .ok (.isub, 1) := by decide +kernel
theorem dX9_until_63 : decode cX9_until 63 = .ok (.i2l, 1) := by decide +kernel
theorem dX9_until_64 : decode cX9_until 64 = .ok (.lmul, 1) := by decide +kernel
theorem dX9_until_65 : decode cX9_until 65 = .ok (.ldc2_w 274, 3) := by decide +kernel
theorem dX9_until_68 : decode cX9_until 68 = .ok (.ldiv, 1) := by decide +kernel
theorem dX9_until_69 : decode cX9_until 69 = .ok (.lstore_n 3, 1) := by decide +kernel
theorem dX9_until_70 : decode cX9_until 70 = .ok (.iinc 7 1, 3) := by decide +kernel
theorem dX9_until_73 : decode cX9_until 73 = .ok (.goto (-34), 3) := by decide +kernel
theorem dX9_until_76 : decode cX9_until 76 = .ok (.iconst (-1), 1) := by decide +kernel
theorem dX9_until_77 : decode cX9_until 77 = .ok (.ireturn, 1) := by decide +kernel
theorem dX9_unheard_0 : decode cX9_unheard 0 = .ok (.iload_n 1, 1) := by decide +kernel
theorem dX9_unheard_1 : decode cX9_unheard 1 = .ok (.ifCond .lt 28, 3) := by decide +kernel
theorem dX9_unheard_4 : decode cX9_unheard 4 = .ok (.iload_n 1, 1) := by decide +kernel
theorem dX9_unheard_5 : decode cX9_unheard 5 = .ok (.bipush 100, 2) := by decide +kernel
theorem dX9_unheard_7 : decode cX9_unheard 7 = .ok (.if_icmp .gt 22, 3) := by decide +kernel
theorem dX9_unheard_10 : decode cX9_unheard 10 = .ok (.iload_n 2, 1) := by decide +kernel
theorem dX9_unheard_11 : decode cX9_unheard 11 = .ok (.ifCond .lt 18, 3) := by decide +kernel
theorem dX9_unheard_14 : decode cX9_unheard 14 = .ok (.iload_n 2, 1) := by decide +kernel
theorem dX9_unheard_15 : decode cX9_unheard 15 = .ok (.bipush 100, 2) := by decide +kernel
theorem dX9_unheard_17 : decode cX9_unheard 17 = .ok (.if_icmp .gt 12, 3) := by decide +kernel
theorem dX9_unheard_20 : decode cX9_unheard 20 = .ok (.iload_n 3, 1) := by decide +kernel
theorem dX9_unheard_21 : decode cX9_unheard 21 = .ok (.ifCond .lt 8, 3) := by decide +kernel
theorem dX9_unheard_24 : decode cX9_unheard 24 = .ok (.iload_n 3, 1) := by decide +kernel
theorem dX9_unheard_25 : decode cX9_unheard 25 = .ok (.iconst 1, 1) := by decide +kernel
theorem dX9_unheard_26 : decode cX9_unheard 26 = .ok (.if_icmp .le 6, 3) := by decide +kernel
theorem dX9_unheard_29 : decode cX9_unheard 29 = .ok (.ldc 73, 2) := by decide +kernel
theorem dX9_unheard_31 : decode cX9_unheard 31 = .ok (.ireturn, 1) := by decide +kernel
theorem dX9_unheard_32 : decode cX9_unheard 32 = .ok (.bipush 100, 2) := by decide +kernel
theorem dX9_unheard_34 : decode cX9_unheard 34 = .ok (.iload_n 1, 1) := by decide +kernel
theorem dX9_unheard_35 : decode cX9_unheard 35 = .ok (.imul, 1) := by decide +kernel
theorem dX9_unheard_36 : decode cX9_unheard 36 = .ok (.istore 4, 2) := by decide +kernel
theorem dX9_unheard_38 : decode cX9_unheard 38 = .ok (.iload 4, 2) := by decide +kernel
theorem dX9_unheard_40 : decode cX9_unheard 40 = .ok (.bipush 100, 2) := by decide +kernel
theorem dX9_unheard_42 : decode cX9_unheard 42 = .ok (.iload_n 1, 1) := by decide +kernel
theorem dX9_unheard_43 : decode cX9_unheard 43 = .ok (.isub, 1) := by decide +kernel
theorem dX9_unheard_44 : decode cX9_unheard 44 = .ok (.iload_n 2, 1) := by decide +kernel
theorem dX9_unheard_45 : decode cX9_unheard 45 = .ok (.imul, 1) := by decide +kernel
theorem dX9_unheard_46 : decode cX9_unheard 46 = .ok (.iadd, 1) := by decide +kernel
theorem dX9_unheard_47 : decode cX9_unheard 47 = .ok (.istore 5, 2) := by decide +kernel
theorem dX9_unheard_49 : decode cX9_unheard 49 = .ok (.iload 5, 2) := by decide +kernel
theorem dX9_unheard_51 : decode cX9_unheard 51 = .ok (.iload 4, 2) := by decide +kernel
theorem dX9_unheard_53 : decode cX9_unheard 53 = .ok (.invokestatic 276, 3) := by decide +kernel
theorem dX9_unheard_56 : decode cX9_unheard 56 = .ok (.istore 6, 2) := by decide +kernel
theorem dX9_unheard_58 : decode cX9_unheard 58 = .ok (.iload 6, 2) := by decide +kernel
theorem dX9_unheard_60 : decode cX9_unheard 60 = .ok (.ifCond .ne 6, 3) := by decide +kernel
theorem dX9_unheard_63 : decode cX9_unheard 63 = .ok (.ldc 182, 2) := by decide +kernel
theorem dX9_unheard_65 : decode cX9_unheard 65 = .ok (.ireturn, 1) := by decide +kernel
theorem dX9_unheard_66 : decode cX9_unheard 66 = .ok (.iload_n 3, 1) := by decide +kernel
theorem dX9_unheard_67 : decode cX9_unheard 67 = .ok (.ifCond .ne 8, 3) := by decide +kernel
theorem dX9_unheard_70 : decode cX9_unheard 70 = .ok (.iload 4, 2) := by decide +kernel
theorem dX9_unheard_72 : decode cX9_unheard 72 = .ok (.goto 5, 3) := by decide +kernel
theorem dX9_unheard_75 : decode cX9_unheard 75 = .ok (.iload 5, 2) := by decide +kernel
theorem dX9_unheard_77 : decode cX9_unheard 77 = .ok (.iload 6, 2) := by decide +kernel
theorem dX9_unheard_79 : decode cX9_unheard 79 = .ok (.idiv, 1) := by decide +kernel
theorem dX9_unheard_80 : decode cX9_unheard 80 = .ok (.ireturn, 1) := by decide +kernel
theorem dX9_commonDivisor_0 : decode cX9_commonDivisor 0 = .ok (.iload_n 0, 1) := by decide +kernel
theorem dX9_commonDivisor_1 : decode cX9_commonDivisor 1 = .ok (.istore_n 2, 1) := by decide +kernel
theorem dX9_commonDivisor_2 : decode cX9_commonDivisor 2 = .ok (.iload_n 1, 1) := by decide +kernel
theorem dX9_commonDivisor_3 : decode cX9_commonDivisor 3 = .ok (.istore_n 3, 1) := by decide +kernel
theorem dX9_commonDivisor_4 : decode cX9_commonDivisor 4 = .ok (.iconst 0, 1) := by decide +kernel
theorem dX9_commonDivisor_5 : decode cX9_commonDivisor 5 = .ok (.istore 4, 2) := by decide +kernel
theorem dX9_commonDivisor_7 : decode cX9_commonDivisor 7 = .ok (.iload 4, 2) := by decide +kernel
theorem dX9_commonDivisor_9 : decode cX9_commonDivisor 9 = .ok (.bipush 100, 2) := by decide +kernel
theorem dX9_commonDivisor_11 : decode cX9_commonDivisor 11 = .ok (.if_icmp .ge 23, 3) := by decide +kernel
theorem dX9_commonDivisor_14 : decode cX9_commonDivisor 14 = .ok (.iload_n 3, 1) := by decide +kernel
theorem dX9_commonDivisor_15 : decode cX9_commonDivisor 15 = .ok (.ifCond .eq 19, 3) := by decide +kernel
theorem dX9_commonDivisor_18 : decode cX9_commonDivisor 18 = .ok (.iload_n 2, 1) := by decide +kernel
theorem dX9_commonDivisor_19 : decode cX9_commonDivisor 19 = .ok (.iload_n 3, 1) := by decide +kernel
theorem dX9_commonDivisor_20 : decode cX9_commonDivisor 20 = .ok (.irem, 1) := by decide +kernel
theorem dX9_commonDivisor_21 : decode cX9_commonDivisor 21 = .ok (.istore 5, 2) := by decide +kernel
theorem dX9_commonDivisor_23 : decode cX9_commonDivisor 23 = .ok (.iload_n 3, 1) := by decide +kernel
theorem dX9_commonDivisor_24 : decode cX9_commonDivisor 24 = .ok (.istore_n 2, 1) := by decide +kernel
theorem dX9_commonDivisor_25 : decode cX9_commonDivisor 25 = .ok (.iload 5, 2) := by decide +kernel
theorem dX9_commonDivisor_27 : decode cX9_commonDivisor 27 = .ok (.istore_n 3, 1) := by decide +kernel
theorem dX9_commonDivisor_28 : decode cX9_commonDivisor 28 = .ok (.iinc 4 1, 3) := by decide +kernel
theorem dX9_commonDivisor_31 : decode cX9_commonDivisor 31 = .ok (.goto (-24), 3) := by decide +kernel
theorem dX9_commonDivisor_34 : decode cX9_commonDivisor 34 = .ok (.iload_n 2, 1) := by decide +kernel
theorem dX9_commonDivisor_35 : decode cX9_commonDivisor 35 = .ok (.ireturn, 1) := by decide +kernel
theorem dX9_learns_0 : decode cX9_learns 0 = .ok (.aload_n 0, 1) := by decide +kernel
theorem dX9_learns_1 : decode cX9_learns 1 = .ok (.iload_n 1, 1) := by decide +kernel
theorem dX9_learns_2 : decode cX9_learns 2 = .ok (.invokevirtual 155, 3) := by decide +kernel
theorem dX9_learns_5 : decode cX9_learns 5 = .ok (.ifCond .eq 6, 3) := by decide +kernel
theorem dX9_learns_8 : decode cX9_learns 8 = .ok (.ldc 136, 2) := by decide +kernel
theorem dX9_learns_10 : decode cX9_learns 10 = .ok (.ireturn, 1) := by decide +kernel
theorem dX9_learns_11 : decode cX9_learns 11 = .ok (.iload_n 2, 1) := by decide +kernel
theorem dX9_learns_12 : decode cX9_learns 12 = .ok (.iconst 1, 1) := by decide +kernel
theorem dX9_learns_13 : decode cX9_learns 13 = .ok (.if_icmp .lt 9, 3) := by decide +kernel
theorem dX9_learns_16 : decode cX9_learns 16 = .ok (.iload_n 2, 1) := by decide +kernel
theorem dX9_learns_17 : decode cX9_learns 17 = .ok (.bipush 9, 2) := by decide +kernel
theorem dX9_learns_19 : decode cX9_learns 19 = .ok (.if_icmp .le 6, 3) := by decide +kernel
theorem dX9_learns_22 : decode cX9_learns 22 = .ok (.ldc 73, 2) := by decide +kernel
theorem dX9_learns_24 : decode cX9_learns 24 = .ok (.ireturn, 1) := by decide +kernel
theorem dX9_learns_25 : decode cX9_learns 25 = .ok (.aload_n 0, 1) := by decide +kernel
theorem dX9_learns_26 : decode cX9_learns 26 = .ok (.getfield 44, 3) := by decide +kernel
theorem dX9_learns_29 : decode cX9_learns 29 = .ok (.iload_n 1, 1) := by decide +kernel
theorem dX9_learns_30 : decode cX9_learns 30 = .ok (.invokevirtual 279, 3) := by decide +kernel
theorem dX9_learns_33 : decode cX9_learns 33 = .ok (.istore_n 3, 1) := by decide +kernel
theorem dX9_learns_34 : decode cX9_learns 34 = .ok (.iload_n 3, 1) := by decide +kernel
theorem dX9_learns_35 : decode cX9_learns 35 = .ok (.bipush 6, 2) := by decide +kernel
theorem dX9_learns_37 : decode cX9_learns 37 = .ok (.if_icmp .ne 9, 3) := by decide +kernel
theorem dX9_learns_40 : decode cX9_learns 40 = .ok (.iload_n 2, 1) := by decide +kernel
theorem dX9_learns_41 : decode cX9_learns 41 = .ok (.iconst 1, 1) := by decide +kernel
theorem dX9_learns_42 : decode cX9_learns 42 = .ok (.iadd, 1) := by decide +kernel
theorem dX9_learns_43 : decode cX9_learns 43 = .ok (.iconst 2, 1) := by decide +kernel
theorem dX9_learns_44 : decode cX9_learns 44 = .ok (.idiv, 1) := by decide +kernel
theorem dX9_learns_45 : decode cX9_learns 45 = .ok (.ireturn, 1) := by decide +kernel
theorem dX9_learns_46 : decode cX9_learns 46 = .ok (.iload_n 3, 1) := by decide +kernel
theorem dX9_learns_47 : decode cX9_learns 47 = .ok (.iconst 5, 1) := by decide +kernel
theorem dX9_learns_48 : decode cX9_learns 48 = .ok (.if_icmp .ne 7, 3) := by decide +kernel
theorem dX9_learns_51 : decode cX9_learns 51 = .ok (.iload_n 2, 1) := by decide +kernel
theorem dX9_learns_52 : decode cX9_learns 52 = .ok (.goto 4, 3) := by decide +kernel
theorem dX9_learns_55 : decode cX9_learns 55 = .ok (.iconst (-1), 1) := by decide +kernel
theorem dX9_learns_56 : decode cX9_learns 56 = .ok (.ireturn, 1) := by decide +kernel
theorem dX9_write_0 : decode cX9_write 0 = .ok (.aload_n 0, 1) := by decide +kernel
theorem dX9_write_1 : decode cX9_write 1 = .ok (.iload_n 1, 1) := by decide +kernel
theorem dX9_write_2 : decode cX9_write 2 = .ok (.invokevirtual 155, 3) := by decide +kernel
theorem dX9_write_5 : decode cX9_write 5 = .ok (.ifCond .eq 6, 3) := by decide +kernel
theorem dX9_write_8 : decode cX9_write 8 = .ok (.ldc 136, 2) := by decide +kernel
theorem dX9_write_10 : decode cX9_write 10 = .ok (.ireturn, 1) := by decide +kernel
theorem dX9_write_11 : decode cX9_write 11 = .ok (.iload_n 2, 1) := by decide +kernel
theorem dX9_write_12 : decode cX9_write 12 = .ok (.ifCond .lt 9, 3) := by decide +kernel
theorem dX9_write_15 : decode cX9_write 15 = .ok (.iload_n 2, 1) := by decide +kernel
theorem dX9_write_16 : decode cX9_write 16 = .ok (.bipush 6, 2) := by decide +kernel
theorem dX9_write_18 : decode cX9_write 18 = .ok (.if_icmp .le 6, 3) := by decide +kernel
theorem dX9_write_21 : decode cX9_write 21 = .ok (.ldc 73, 2) := by decide +kernel
theorem dX9_write_23 : decode cX9_write 23 = .ok (.ireturn, 1) := by decide +kernel
theorem dX9_write_24 : decode cX9_write 24 = .ok (.aload_n 0, 1) := by decide +kernel
theorem dX9_write_25 : decode cX9_write 25 = .ok (.getfield 61, 3) := by decide +kernel
theorem dX9_write_28 : decode cX9_write 28 = .ok (.bipush 20, 2) := by decide +kernel
theorem dX9_write_30 : decode cX9_write 30 = .ok (.if_icmp .lt 6, 3) := by decide +kernel
theorem dX9_write_33 : decode cX9_write 33 = .ok (.ldc 77, 2) := by decide +kernel
theorem dX9_write_35 : decode cX9_write 35 = .ok (.ireturn, 1) := by decide +kernel
theorem dX9_write_36 : decode cX9_write 36 = .ok (.aload_n 0, 1) := by decide +kernel
theorem dX9_write_37 : decode cX9_write 37 = .ok (.getfield 54, 3) := by decide +kernel
theorem dX9_write_40 : decode cX9_write 40 = .ok (.aload_n 0, 1) := by decide +kernel
theorem dX9_write_41 : decode cX9_write 41 = .ok (.getfield 61, 3) := by decide +kernel
theorem dX9_write_44 : decode cX9_write 44 = .ok (.iload_n 1, 1) := by decide +kernel
theorem dX9_write_45 : decode cX9_write 45 = .ok (.iastore, 1) := by decide +kernel
theorem dX9_write_46 : decode cX9_write 46 = .ok (.aload_n 0, 1) := by decide +kernel
theorem dX9_write_47 : decode cX9_write 47 = .ok (.getfield 58, 3) := by decide +kernel
theorem dX9_write_50 : decode cX9_write 50 = .ok (.aload_n 0, 1) := by decide +kernel
theorem dX9_write_51 : decode cX9_write 51 = .ok (.getfield 61, 3) := by decide +kernel
theorem dX9_write_54 : decode cX9_write 54 = .ok (.iload_n 2, 1) := by decide +kernel
theorem dX9_write_55 : decode cX9_write 55 = .ok (.iastore, 1) := by decide +kernel
theorem dX9_write_56 : decode cX9_write 56 = .ok (.aload_n 0, 1) := by decide +kernel
theorem dX9_write_57 : decode cX9_write 57 = .ok (.dup, 1) := by decide +kernel
theorem dX9_write_58 : decode cX9_write 58 = .ok (.getfield 61, 3) := by decide +kernel
theorem dX9_write_61 : decode cX9_write 61 = .ok (.iconst 1, 1) := by decide +kernel
theorem dX9_write_62 : decode cX9_write 62 = .ok (.iadd, 1) := by decide +kernel
theorem dX9_write_63 : decode cX9_write 63 = .ok (.putfield 61, 3) := by decide +kernel
theorem dX9_write_66 : decode cX9_write 66 = .ok (.aload_n 0, 1) := by decide +kernel
theorem dX9_write_67 : decode cX9_write 67 = .ok (.getfield 61, 3) := by decide +kernel
theorem dX9_write_70 : decode cX9_write 70 = .ok (.ireturn, 1) := by decide +kernel
theorem dX9_tear_0 : decode cX9_tear 0 = .ok (.aload_n 0, 1) := by decide +kernel
theorem dX9_tear_1 : decode cX9_tear 1 = .ok (.getfield 61, 3) := by decide +kernel
theorem dX9_tear_4 : decode cX9_tear 4 = .ok (.istore_n 1, 1) := by decide +kernel
theorem dX9_tear_5 : decode cX9_tear 5 = .ok (.aload_n 0, 1) := by decide +kernel
theorem dX9_tear_6 : decode cX9_tear 6 = .ok (.iconst 0, 1) := by decide +kernel
theorem dX9_tear_7 : decode cX9_tear 7 = .ok (.putfield 61, 3) := by decide +kernel
theorem dX9_tear_10 : decode cX9_tear 10 = .ok (.iload_n 1, 1) := by decide +kernel
theorem dX9_tear_11 : decode cX9_tear 11 = .ok (.ireturn, 1) := by decide +kernel
theorem dX9_judge_0 : decode cX9_judge 0 = .ok (.aload_n 0, 1) := by decide +kernel
theorem dX9_judge_1 : decode cX9_judge 1 = .ok (.getfield 35, 3) := by decide +kernel
theorem dX9_judge_4 : decode cX9_judge 4 = .ok (.aload_n 0, 1) := by decide +kernel
theorem dX9_judge_5 : decode cX9_judge 5 = .ok (.getfield 26, 3) := by decide +kernel
theorem dX9_judge_8 : decode cX9_judge 8 = .ok (.invokevirtual 113, 3) := by decide +kernel
theorem dX9_judge_11 : decode cX9_judge 11 = .ok (.iconst 0, 1) := by decide +kernel
theorem dX9_judge_12 : decode cX9_judge 12 = .ok (.istore_n 1, 1) := by decide +kernel
theorem dX9_judge_13 : decode cX9_judge 13 = .ok (.iload_n 1, 1) := by decide +kernel
theorem dX9_judge_14 : decode cX9_judge 14 = .ok (.aload_n 0, 1) := by decide +kernel
theorem dX9_judge_15 : decode cX9_judge 15 = .ok (.getfield 61, 3) := by decide +kernel
theorem dX9_judge_18 : decode cX9_judge 18 = .ok (.if_icmp .ge 37, 3) := by decide +kernel
theorem dX9_judge_21 : decode cX9_judge 21 = .ok (.aload_n 0, 1) := by decide +kernel
theorem dX9_judge_22 : decode cX9_judge 22 = .ok (.getfield 35, 3) := by decide +kernel
theorem dX9_judge_25 : decode cX9_judge 25 = .ok (.getfield 194, 3) := by decide +kernel
theorem dX9_judge_28 : decode cX9_judge 28 = .ok (.aload_n 0, 1) := by decide +kernel
theorem dX9_judge_29 : decode cX9_judge 29 = .ok (.getfield 54, 3) := by decide +kernel
theorem dX9_judge_32 : decode cX9_judge 32 = .ok (.iload_n 1, 1) := by decide +kernel
theorem dX9_judge_33 : decode cX9_judge 33 = .ok (.iaload, 1) := by decide +kernel
theorem dX9_judge_34 : decode cX9_judge 34 = .ok (.aaload, 1) := by decide +kernel
theorem dX9_judge_35 : decode cX9_judge 35 = .ok (.getfield 198, 3) := by decide +kernel
theorem dX9_judge_38 : decode cX9_judge 38 = .ok (.aload_n 0, 1) := by decide +kernel
theorem dX9_judge_39 : decode cX9_judge 39 = .ok (.getfield 58, 3) := by decide +kernel
theorem dX9_judge_42 : decode cX9_judge 42 = .ok (.iload_n 1, 1) := by decide +kernel
theorem dX9_judge_43 : decode cX9_judge 43 = .ok (.iaload, 1) := by decide +kernel
theorem dX9_judge_44 : decode cX9_judge 44 = .ok (.if_icmp .eq 5, 3) := by decide +kernel
theorem dX9_judge_47 : decode cX9_judge 47 = .ok (.iload_n 1, 1) := by decide +kernel
theorem dX9_judge_48 : decode cX9_judge 48 = .ok (.ireturn, 1) := by decide +kernel
theorem dX9_judge_49 : decode cX9_judge 49 = .ok (.iinc 1 1, 3) := by decide +kernel
theorem dX9_judge_52 : decode cX9_judge 52 = .ok (.goto (-39), 3) := by decide +kernel
theorem dX9_judge_55 : decode cX9_judge 55 = .ok (.iconst (-1), 1) := by decide +kernel
theorem dX9_judge_56 : decode cX9_judge 56 = .ok (.ireturn, 1) := by decide +kernel
theorem dX9_seed_0 : decode cX9_seed 0 = .ok (.iload_n 1, 1) := by decide +kernel
theorem dX9_seed_1 : decode cX9_seed 1 = .ok (.ifCond .ge 6, 3) := by decide +kernel
theorem dX9_seed_4 : decode cX9_seed 4 = .ok (.ldc 73, 2) := by decide +kernel
theorem dX9_seed_6 : decode cX9_seed 6 = .ok (.ireturn, 1) := by decide +kernel
theorem dX9_seed_7 : decode cX9_seed 7 = .ok (.aload_n 0, 1) := by decide +kernel
theorem dX9_seed_8 : decode cX9_seed 8 = .ok (.getfield 65, 3) := by decide +kernel
theorem dX9_seed_11 : decode cX9_seed 11 = .ok (.l2i, 1) := by decide +kernel
theorem dX9_seed_12 : decode cX9_seed 12 = .ok (.istore_n 2, 1) := by decide +kernel
theorem dX9_seed_13 : decode cX9_seed 13 = .ok (.aload_n 0, 1) := by decide +kernel
theorem dX9_seed_14 : decode cX9_seed 14 = .ok (.iload_n 1, 1) := by decide +kernel
theorem dX9_seed_15 : decode cX9_seed 15 = .ok (.i2l, 1) := by decide +kernel
theorem dX9_seed_16 : decode cX9_seed 16 = .ok (.putfield 65, 3) := by decide +kernel
theorem dX9_seed_19 : decode cX9_seed 19 = .ok (.iload_n 2, 1) := by decide +kernel
theorem dX9_seed_20 : decode cX9_seed 20 = .ok (.ireturn, 1) := by decide +kernel
theorem dX9_keep_0 : decode cX9_keep 0 = .ok (.iload_n 1, 1) := by decide +kernel
theorem dX9_keep_1 : decode cX9_keep 1 = .ok (.invokestatic 282, 3) := by decide +kernel
theorem dX9_keep_4 : decode cX9_keep 4 = .ok (.ifCond .eq 6, 3) := by decide +kernel
theorem dX9_keep_7 : decode cX9_keep 7 = .ok (.ldc 136, 2) := by decide +kernel
theorem dX9_keep_9 : decode cX9_keep 9 = .ok (.ireturn, 1) := by decide +kernel
theorem dX9_keep_10 : decode cX9_keep 10 = .ok (.aload_n 0, 1) := by decide +kernel
theorem dX9_keep_11 : decode cX9_keep 11 = .ok (.getfield 50, 3) := by decide +kernel
theorem dX9_keep_14 : decode cX9_keep 14 = .ok (.iload_n 1, 1) := by decide +kernel
theorem dX9_keep_15 : decode cX9_keep 15 = .ok (.aaload, 1) := by decide +kernel
theorem dX9_keep_16 : decode cX9_keep 16 = .ok (.getfield 285, 3) := by decide +kernel
theorem dX9_keep_19 : decode cX9_keep 19 = .ok (.aload_n 0, 1) := by decide +kernel
theorem dX9_keep_20 : decode cX9_keep 20 = .ok (.getfield 26, 3) := by decide +kernel
theorem dX9_keep_23 : decode cX9_keep 23 = .ok (.invokevirtual 94, 3) := by decide +kernel
theorem dX9_keep_26 : decode cX9_keep 26 = .ok (.aload_n 0, 1) := by decide +kernel
theorem dX9_keep_27 : decode cX9_keep 27 = .ok (.getfield 50, 3) := by decide +kernel
theorem dX9_keep_30 : decode cX9_keep 30 = .ok (.iload_n 1, 1) := by decide +kernel
theorem dX9_keep_31 : decode cX9_keep 31 = .ok (.aaload, 1) := by decide +kernel
theorem dX9_keep_32 : decode cX9_keep 32 = .ok (.aload_n 0, 1) := by decide +kernel
theorem dX9_keep_33 : decode cX9_keep 33 = .ok (.getfield 65, 3) := by decide +kernel
theorem dX9_keep_36 : decode cX9_keep 36 = .ok (.putfield 286, 3) := by decide +kernel
theorem dX9_keep_39 : decode cX9_keep 39 = .ok (.aload_n 0, 1) := by decide +kernel
theorem dX9_keep_40 : decode cX9_keep 40 = .ok (.getfield 50, 3) := by decide +kernel
theorem dX9_keep_43 : decode cX9_keep 43 = .ok (.iload_n 1, 1) := by decide +kernel
theorem dX9_keep_44 : decode cX9_keep 44 = .ok (.aaload, 1) := by decide +kernel
theorem dX9_keep_45 : decode cX9_keep 45 = .ok (.iconst 1, 1) := by decide +kernel
theorem dX9_keep_46 : decode cX9_keep 46 = .ok (.putfield 97, 3) := by decide +kernel
theorem dX9_keep_49 : decode cX9_keep 49 = .ok (.iconst 1, 1) := by decide +kernel
theorem dX9_keep_50 : decode cX9_keep 50 = .ok (.ireturn, 1) := by decide +kernel
theorem dX9_goBack_0 : decode cX9_goBack 0 = .ok (.iload_n 1, 1) := by decide +kernel
theorem dX9_goBack_1 : decode cX9_goBack 1 = .ok (.invokestatic 282, 3) := by decide +kernel
theorem dX9_goBack_4 : decode cX9_goBack 4 = .ok (.ifCond .eq 6, 3) := by decide +kernel
theorem dX9_goBack_7 : decode cX9_goBack 7 = .ok (.ldc 136, 2) := by decide +kernel
theorem dX9_goBack_9 : decode cX9_goBack 9 = .ok (.ireturn, 1) := by decide +kernel
theorem dX9_goBack_10 : decode cX9_goBack 10 = .ok (.aload_n 0, 1) := by decide +kernel
theorem dX9_goBack_11 : decode cX9_goBack 11 = .ok (.getfield 50, 3) := by decide +kernel
theorem dX9_goBack_14 : decode cX9_goBack 14 = .ok (.iload_n 1, 1) := by decide +kernel
theorem dX9_goBack_15 : decode cX9_goBack 15 = .ok (.aaload, 1) := by decide +kernel
theorem dX9_goBack_16 : decode cX9_goBack 16 = .ok (.getfield 97, 3) := by decide +kernel
theorem dX9_goBack_19 : decode cX9_goBack 19 = .ok (.ifCond .ne 6, 3) := by decide +kernel
theorem dX9_goBack_22 : decode cX9_goBack 22 = .ok (.ldc 182, 2) := by decide +kernel
theorem dX9_goBack_24 : decode cX9_goBack 24 = .ok (.ireturn, 1) := by decide +kernel
theorem dX9_goBack_25 : decode cX9_goBack 25 = .ok (.aload_n 0, 1) := by decide +kernel
theorem dX9_goBack_26 : decode cX9_goBack 26 = .ok (.getfield 26, 3) := by decide +kernel
theorem dX9_goBack_29 : decode cX9_goBack 29 = .ok (.aload_n 0, 1) := by decide +kernel
theorem dX9_goBack_30 : decode cX9_goBack 30 = .ok (.getfield 50, 3) := by decide +kernel
theorem dX9_goBack_33 : decode cX9_goBack 33 = .ok (.iload_n 1, 1) := by decide +kernel
theorem dX9_goBack_34 : decode cX9_goBack 34 = .ok (.aaload, 1) := by decide +kernel
theorem dX9_goBack_35 : decode cX9_goBack 35 = .ok (.getfield 285, 3) := by decide +kernel
theorem dX9_goBack_38 : decode cX9_goBack 38 = .ok (.invokevirtual 94, 3) := by decide +kernel
theorem dX9_goBack_41 : decode cX9_goBack 41 = .ok (.aload_n 0, 1) := by decide +kernel
theorem dX9_goBack_42 : decode cX9_goBack 42 = .ok (.aload_n 0, 1) := by decide +kernel
theorem dX9_goBack_43 : decode cX9_goBack 43 = .ok (.getfield 50, 3) := by decide +kernel
theorem dX9_goBack_46 : decode cX9_goBack 46 = .ok (.iload_n 1, 1) := by decide +kernel
theorem dX9_goBack_47 : decode cX9_goBack 47 = .ok (.aaload, 1) := by decide +kernel
theorem dX9_goBack_48 : decode cX9_goBack 48 = .ok (.getfield 286, 3) := by decide +kernel
theorem dX9_goBack_51 : decode cX9_goBack 51 = .ok (.putfield 65, 3) := by decide +kernel
theorem dX9_goBack_54 : decode cX9_goBack 54 = .ok (.iconst 1, 1) := by decide +kernel
theorem dX9_goBack_55 : decode cX9_goBack 55 = .ok (.ireturn, 1) := by decide +kernel
theorem dX9_noWaiter_0 : decode cX9_noWaiter 0 = .ok (.iload_n 1, 1) := by decide +kernel
theorem dX9_noWaiter_1 : decode cX9_noWaiter 1 = .ok (.ifCond .lt 14, 3) := by decide +kernel
theorem dX9_noWaiter_4 : decode cX9_noWaiter 4 = .ok (.iload_n 1, 1) := by decide +kernel
theorem dX9_noWaiter_5 : decode cX9_noWaiter 5 = .ok (.aload_n 0, 1) := by decide +kernel
theorem dX9_noWaiter_6 : decode cX9_noWaiter 6 = .ok (.getfield 19, 3) := by decide +kernel
theorem dX9_noWaiter_9 : decode cX9_noWaiter 9 = .ok (.getfield 101, 3) := by decide +kernel
theorem dX9_noWaiter_12 : decode cX9_noWaiter 12 = .ok (.if_icmp .lt 7, 3) := by decide +kernel
theorem dX9_noWaiter_15 : decode cX9_noWaiter 15 = .ok (.iconst 1, 1) := by decide +kernel
theorem dX9_noWaiter_16 : decode cX9_noWaiter 16 = .ok (.goto 4, 3) := by decide +kernel
theorem dX9_noWaiter_19 : decode cX9_noWaiter 19 = .ok (.iconst 0, 1) := by decide +kernel
theorem dX9_noWaiter_20 : decode cX9_noWaiter 20 = .ok (.ireturn, 1) := by decide +kernel
theorem dX9_noLeaf_0 : decode cX9_noLeaf 0 = .ok (.iload_n 0, 1) := by decide +kernel
theorem dX9_noLeaf_1 : decode cX9_noLeaf 1 = .ok (.ifCond .lt 8, 3) := by decide +kernel
theorem dX9_noLeaf_4 : decode cX9_noLeaf 4 = .ok (.iload_n 0, 1) := by decide +kernel
theorem dX9_noLeaf_5 : decode cX9_noLeaf 5 = .ok (.iconst 2, 1) := by decide +kernel
theorem dX9_noLeaf_6 : decode cX9_noLeaf 6 = .ok (.if_icmp .lt 7, 3) := by decide +kernel
theorem dX9_noLeaf_9 : decode cX9_noLeaf 9 = .ok (.iconst 1, 1) := by decide +kernel
theorem dX9_noLeaf_10 : decode cX9_noLeaf 10 = .ok (.goto 4, 3) := by decide +kernel
theorem dX9_noLeaf_13 : decode cX9_noLeaf 13 = .ok (.iconst 0, 1) := by decide +kernel
theorem dX9_noLeaf_14 : decode cX9_noLeaf 14 = .ok (.ireturn, 1) := by decide +kernel
theorem dX9_noSide_0 : decode cX9_noSide 0 = .ok (.iload_n 0, 1) := by decide +kernel
theorem dX9_noSide_1 : decode cX9_noSide 1 = .ok (.ifCond .lt 8, 3) := by decide +kernel
theorem dX9_noSide_4 : decode cX9_noSide 4 = .ok (.iload_n 0, 1) := by decide +kernel
theorem dX9_noSide_5 : decode cX9_noSide 5 = .ok (.iconst 2, 1) := by decide +kernel
theorem dX9_noSide_6 : decode cX9_noSide 6 = .ok (.if_icmp .lt 7, 3) := by decide +kernel
theorem dX9_noSide_9 : decode cX9_noSide 9 = .ok (.iconst 1, 1) := by decide +kernel
theorem dX9_noSide_10 : decode cX9_noSide 10 = .ok (.goto 4, 3) := by decide +kernel
theorem dX9_noSide_13 : decode cX9_noSide 13 = .ok (.iconst 0, 1) := by decide +kernel
theorem dX9_noSide_14 : decode cX9_noSide 14 = .ok (.ireturn, 1) := by decide +kernel
theorem dX9_noRule_0 : decode cX9_noRule 0 = .ok (.iload_n 0, 1) := by decide +kernel
theorem dX9_noRule_1 : decode cX9_noRule 1 = .ok (.ifCond .lt 8, 3) := by decide +kernel
theorem dX9_noRule_4 : decode cX9_noRule 4 = .ok (.iload_n 0, 1) := by decide +kernel
theorem dX9_noRule_5 : decode cX9_noRule 5 = .ok (.iconst 3, 1) := by decide +kernel
theorem dX9_noRule_6 : decode cX9_noRule 6 = .ok (.if_icmp .lt 7, 3) := by decide +kernel
theorem dX9_noRule_9 : decode cX9_noRule 9 = .ok (.iconst 1, 1) := by decide +kernel
theorem dX9_noRule_10 : decode cX9_noRule 10 = .ok (.goto 4, 3) := by decide +kernel
theorem dX9_noRule_13 : decode cX9_noRule 13 = .ok (.iconst 0, 1) := by decide +kernel
theorem dX9_noRule_14 : decode cX9_noRule 14 = .ok (.ireturn, 1) := by decide +kernel
theorem dX9_noImage_0 : decode cX9_noImage 0 = .ok (.iload_n 0, 1) := by decide +kernel
theorem dX9_noImage_1 : decode cX9_noImage 1 = .ok (.ifCond .lt 8, 3) := by decide +kernel
theorem dX9_noImage_4 : decode cX9_noImage 4 = .ok (.iload_n 0, 1) := by decide +kernel
theorem dX9_noImage_5 : decode cX9_noImage 5 = .ok (.iconst 2, 1) := by decide +kernel
theorem dX9_noImage_6 : decode cX9_noImage 6 = .ok (.if_icmp .lt 7, 3) := by decide +kernel
theorem dX9_noImage_9 : decode cX9_noImage 9 = .ok (.iconst 1, 1) := by decide +kernel
theorem dX9_noImage_10 : decode cX9_noImage 10 = .ok (.goto 4, 3) := by decide +kernel
theorem dX9_noImage_13 : decode cX9_noImage 13 = .ok (.iconst 0, 1) := by decide +kernel
theorem dX9_noImage_14 : decode cX9_noImage 14 = .ok (.ireturn, 1) := by decide +kernel
theorem dJ9_max_7cf53_0 : decode cJ9_max_7cf53 0 = .ok (.iload_n 0, 1) := by decide +kernel
theorem dJ9_max_7cf53_1 : decode cJ9_max_7cf53 1 = .ok (.iload_n 1, 1) := by decide +kernel
theorem dJ9_max_7cf53_2 : decode cJ9_max_7cf53 2 = .ok (.if_icmp .lt 7, 3) := by decide +kernel
theorem dJ9_max_7cf53_5 : decode cJ9_max_7cf53 5 = .ok (.iload_n 0, 1) := by decide +kernel
theorem dJ9_max_7cf53_6 : decode cJ9_max_7cf53 6 = .ok (.goto 4, 3) := by decide +kernel
theorem dJ9_max_7cf53_9 : decode cJ9_max_7cf53 9 = .ok (.iload_n 1, 1) := by decide +kernel
theorem dJ9_max_7cf53_10 : decode cJ9_max_7cf53 10 = .ok (.ireturn, 1) := by decide +kernel
theorem dJ9_min_7cf53_0 : decode cJ9_min_7cf53 0 = .ok (.iload_n 0, 1) := by decide +kernel
theorem dJ9_min_7cf53_1 : decode cJ9_min_7cf53 1 = .ok (.iload_n 1, 1) := by decide +kernel
theorem dJ9_min_7cf53_2 : decode cJ9_min_7cf53 2 = .ok (.if_icmp .gt 7, 3) := by decide +kernel
theorem dJ9_min_7cf53_5 : decode cJ9_min_7cf53 5 = .ok (.iload_n 0, 1) := by decide +kernel
theorem dJ9_min_7cf53_6 : decode cJ9_min_7cf53 6 = .ok (.goto 4, 3) := by decide +kernel
theorem dJ9_min_7cf53_9 : decode cJ9_min_7cf53 9 = .ok (.iload_n 1, 1) := by decide +kernel
theorem dJ9_min_7cf53_10 : decode cJ9_min_7cf53 10 = .ok (.ireturn, 1) := by decide +kernel
theorem dJ7_fill_53178_0 : decode cJ7_fill_53178 0 = .ok (.iconst 0, 1) := by decide +kernel
theorem dJ7_fill_53178_1 : decode cJ7_fill_53178 1 = .ok (.istore_n 2, 1) := by decide +kernel
theorem dJ7_fill_53178_2 : decode cJ7_fill_53178 2 = .ok (.aload_n 0, 1) := by decide +kernel
theorem dJ7_fill_53178_3 : decode cJ7_fill_53178 3 = .ok (.arraylength, 1) := by decide +kernel
theorem dJ7_fill_53178_4 : decode cJ7_fill_53178 4 = .ok (.istore_n 3, 1) := by decide +kernel
theorem dJ7_fill_53178_5 : decode cJ7_fill_53178 5 = .ok (.iload_n 2, 1) := by decide +kernel
theorem dJ7_fill_53178_6 : decode cJ7_fill_53178 6 = .ok (.iload_n 3, 1) := by decide +kernel
theorem dJ7_fill_53178_7 : decode cJ7_fill_53178 7 = .ok (.if_icmp .ge 13, 3) := by decide +kernel
theorem dJ7_fill_53178_10 : decode cJ7_fill_53178 10 = .ok (.aload_n 0, 1) := by decide +kernel
theorem dJ7_fill_53178_11 : decode cJ7_fill_53178 11 = .ok (.iload_n 2, 1) := by decide +kernel
theorem dJ7_fill_53178_12 : decode cJ7_fill_53178 12 = .ok (.iload_n 1, 1) := by decide +kernel
theorem dJ7_fill_53178_13 : decode cJ7_fill_53178 13 = .ok (.iastore, 1) := by decide +kernel
theorem dJ7_fill_53178_14 : decode cJ7_fill_53178 14 = .ok (.iinc 2 1, 3) := by decide +kernel
theorem dJ7_fill_53178_17 : decode cJ7_fill_53178 17 = .ok (.goto (-12), 3) := by decide +kernel
theorem dJ7_fill_53178_20 : decode cJ7_fill_53178 20 = .ok (.return_, 1) := by decide +kernel
