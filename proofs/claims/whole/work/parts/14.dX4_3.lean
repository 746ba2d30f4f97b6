theorem dX4_run_34 : decode cX4_run 34 = .ok (.iadd, 1) := by decide +kernel
theorem dX4_run_35 : decode cX4_run 35 = .ok (.putfield 199, 3) := by decide +kernel
theorem dX4_run_38 : decode cX4_run 38 = .ok (.aload_n 0, 1) := by decide +kernel
theorem dX4_run_39 : decode cX4_run 39 = .ok (.iload_n 1, 1) := by decide +kernel
theorem dX4_run_40 : decode cX4_run 40 = .ok (.bipush (-4), 2) := by decide +kernel
theorem dX4_run_42 : decode cX4_run 42 = .ok (.if_icmp .ne 8, 3) := by decide +kernel
theorem dX4_run_45 : decode cX4_run 45 = .ok (.ldc 202, 2) := by decide +kernel
theorem dX4_run_47 : decode cX4_run 47 = .ok (.goto 9, 3) := by decide +kernel
theorem dX4_run_50 : decode cX4_run 50 = .ok (.aload_n 0, 1) := by decide +kernel
theorem dX4_run_51 : decode cX4_run 51 = .ok (.iload_n 1, 1) := by decide +kernel
theorem dX4_run_52 : decode cX4_run 52 = .ok (.iconst 0, 1) := by decide +kernel
theorem dX4_run_53 : decode cX4_run 53 = .ok (.invokevirtual 162, 3) := by decide +kernel
theorem dX4_run_56 : decode cX4_run 56 = .ok (.iload_n 2, 1) := by decide +kernel
theorem dX4_run_57 : decode cX4_run 57 = .ok (.aload_n 0, 1) := by decide +kernel
theorem dX4_run_58 : decode cX4_run 58 = .ok (.getfield 22, 3) := by decide +kernel
theorem dX4_run_61 : decode cX4_run 61 = .ok (.iconst 0, 1) := by decide +kernel
theorem dX4_run_62 : decode cX4_run 62 = .ok (.invokevirtual 203, 3) := by decide +kernel
theorem dX4_run_65 : decode cX4_run 65 = .ok (.istore_n 3, 1) := by decide +kernel
theorem dX4_run_66 : decode cX4_run 66 = .ok (.aload_n 0, 1) := by decide +kernel
theorem dX4_run_67 : decode cX4_run 67 = .ok (.aload_n 0, 1) := by decide +kernel
theorem dX4_run_68 : decode cX4_run 68 = .ok (.getfield 184, 3) := by decide +kernel
theorem dX4_run_71 : decode cX4_run 71 = .ok (.putfield 207, 3) := by decide +kernel
theorem dX4_run_74 : decode cX4_run 74 = .ok (.aload_n 0, 1) := by decide +kernel
theorem dX4_run_75 : decode cX4_run 75 = .ok (.aload_n 0, 1) := by decide +kernel
theorem dX4_run_76 : decode cX4_run 76 = .ok (.getfield 178, 3) := by decide +kernel
theorem dX4_run_79 : decode cX4_run 79 = .ok (.putfield 210, 3) := by decide +kernel
theorem dX4_run_82 : decode cX4_run 82 = .ok (.aload_n 0, 1) := by decide +kernel
theorem dX4_run_83 : decode cX4_run 83 = .ok (.aload_n 0, 1) := by decide +kernel
theorem dX4_run_84 : decode cX4_run 84 = .ok (.getfield 181, 3) := by decide +kernel
theorem dX4_run_87 : decode cX4_run 87 = .ok (.putfield 41, 3) := by decide +kernel
theorem dX4_run_90 : decode cX4_run 90 = .ok (.iconst 0, 1) := by decide +kernel
theorem dX4_run_91 : decode cX4_run 91 = .ok (.istore 4, 2) := by decide +kernel
theorem dX4_run_93 : decode cX4_run 93 = .ok (.iload 4, 2) := by decide +kernel
theorem dX4_run_95 : decode cX4_run 95 = .ok (.aload_n 0, 1) := by decide +kernel
theorem dX4_run_96 : decode cX4_run 96 = .ok (.getfield 184, 3) := by decide +kernel
theorem dX4_run_99 : decode cX4_run 99 = .ok (.if_icmp .ge 23, 3) := by decide +kernel
theorem dX4_run_102 : decode cX4_run 102 = .ok (.aload_n 0, 1) := by decide +kernel
theorem dX4_run_103 : decode cX4_run 103 = .ok (.getfield 38, 3) := by decide +kernel
theorem dX4_run_106 : decode cX4_run 106 = .ok (.iload 4, 2) := by decide +kernel
theorem dX4_run_108 : decode cX4_run 108 = .ok (.aload_n 0, 1) := by decide +kernel
theorem dX4_run_109 : decode cX4_run 109 = .ok (.getfield 75, 3) := by decide +kernel
theorem dX4_run_112 : decode cX4_run 112 = .ok (.iload 4, 2) := by decide +kernel
theorem dX4_run_114 : decode cX4_run 114 = .ok (.iaload, 1) := by decide +kernel
theorem dX4_run_115 : decode cX4_run 115 = .ok (.iastore, 1) := by decide +kernel
theorem dX4_run_116 : decode cX4_run 116 = .ok (.iinc 4 1, 3) := by decide +kernel
theorem dX4_run_119 : decode cX4_run 119 = .ok (.goto (-26), 3) := by decide +kernel
theorem dX4_run_122 : decode cX4_run 122 = .ok (.iconst 0, 1) := by decide +kernel
theorem dX4_run_123 : decode cX4_run 123 = .ok (.istore 4, 2) := by decide +kernel
theorem dX4_run_125 : decode cX4_run 125 = .ok (.iload 4, 2) := by decide +kernel
theorem dX4_run_127 : decode cX4_run 127 = .ok (.bipush 8, 2) := by decide +kernel
theorem dX4_run_129 : decode cX4_run 129 = .ok (.if_icmp .ge 23, 3) := by decide +kernel
theorem dX4_run_132 : decode cX4_run 132 = .ok (.aload_n 0, 1) := by decide +kernel
theorem dX4_run_133 : decode cX4_run 133 = .ok (.getfield 45, 3) := by decide +kernel
theorem dX4_run_136 : decode cX4_run 136 = .ok (.iload 4, 2) := by decide +kernel
theorem dX4_run_138 : decode cX4_run 138 = .ok (.aload_n 0, 1) := by decide +kernel
theorem dX4_run_139 : decode cX4_run 139 = .ok (.getfield 63, 3) := by decide +kernel
theorem dX4_run_142 : decode cX4_run 142 = .ok (.iload 4, 2) := by decide +kernel
theorem dX4_run_144 : decode cX4_run 144 = .ok (.iaload, 1) := by decide +kernel
theorem dX4_run_145 : decode cX4_run 145 = .ok (.iastore, 1) := by decide +kernel
theorem dX4_run_146 : decode cX4_run 146 = .ok (.iinc 4 1, 3) := by decide +kernel
theorem dX4_run_149 : decode cX4_run 149 = .ok (.goto (-24), 3) := by decide +kernel
theorem dX4_run_152 : decode cX4_run 152 = .ok (.iload_n 3, 1) := by decide +kernel
theorem dX4_run_153 : decode cX4_run 153 = .ok (.ireturn, 1) := by decide +kernel
theorem dX4_seen_0 : decode cX4_seen 0 = .ok (.aload_n 0, 1) := by decide +kernel
theorem dX4_seen_1 : decode cX4_seen 1 = .ok (.getfield 207, 3) := by decide +kernel
theorem dX4_seen_4 : decode cX4_seen 4 = .ok (.ireturn, 1) := by decide +kernel
theorem dX4_saw_0 : decode cX4_saw 0 = .ok (.iload_n 1, 1) := by decide +kernel
theorem dX4_saw_1 : decode cX4_saw 1 = .ok (.i2l, 1) := by decide +kernel
theorem dX4_saw_2 : decode cX4_saw 2 = .ok (.lconst 0, 1) := by decide +kernel
theorem dX4_saw_3 : decode cX4_saw 3 = .ok (.aload_n 0, 1) := by decide +kernel
theorem dX4_saw_4 : decode cX4_saw 4 = .ok (.getfield 207, 3) := by decide +kernel
theorem dX4_saw_7 : decode cX4_saw 7 = .ok (.iconst 1, 1) := by decide +kernel
theorem dX4_saw_8 : decode cX4_saw 8 = .ok (.isub, 1) := by decide +kernel
theorem dX4_saw_9 : decode cX4_saw 9 = .ok (.i2l, 1) := by decide +kernel
theorem dX4_saw_10 : decode cX4_saw 10 = .ok (.invokestatic 84, 3) := by decide +kernel
theorem dX4_saw_13 : decode cX4_saw 13 = .ok (.ifCond .eq 12, 3) := by decide +kernel
theorem dX4_saw_16 : decode cX4_saw 16 = .ok (.aload_n 0, 1) := by decide +kernel
theorem dX4_saw_17 : decode cX4_saw 17 = .ok (.getfield 38, 3) := by decide +kernel
theorem dX4_saw_20 : decode cX4_saw 20 = .ok (.iload_n 1, 1) := by decide +kernel
theorem dX4_saw_21 : decode cX4_saw 21 = .ok (.iaload, 1) := by decide +kernel
theorem dX4_saw_22 : decode cX4_saw 22 = .ok (.goto 4, 3) := by decide +kernel
theorem dX4_saw_25 : decode cX4_saw 25 = .ok (.iconst 0, 1) := by decide +kernel
theorem dX4_saw_26 : decode cX4_saw 26 = .ok (.ireturn, 1) := by decide +kernel
theorem dX4_left_0 : decode cX4_left 0 = .ok (.iload_n 1, 1) := by decide +kernel
theorem dX4_left_1 : decode cX4_left 1 = .ok (.ifCond .ne 10, 3) := by decide +kernel
theorem dX4_left_4 : decode cX4_left 4 = .ok (.aload_n 0, 1) := by decide +kernel
theorem dX4_left_5 : decode cX4_left 5 = .ok (.getfield 210, 3) := by decide +kernel
theorem dX4_left_8 : decode cX4_left 8 = .ok (.goto 41, 3) := by decide +kernel
theorem dX4_left_11 : decode cX4_left 11 = .ok (.iload_n 1, 1) := by decide +kernel
theorem dX4_left_12 : decode cX4_left 12 = .ok (.iconst 1, 1) := by decide +kernel
theorem dX4_left_13 : decode cX4_left 13 = .ok (.if_icmp .ne 10, 3) := by decide +kernel
theorem dX4_left_16 : decode cX4_left 16 = .ok (.aload_n 0, 1) := by decide +kernel
theorem dX4_left_17 : decode cX4_left 17 = .ok (.getfield 41, 3) := by decide +kernel
theorem dX4_left_20 : decode cX4_left 20 = .ok (.goto 29, 3) := by decide +kernel
theorem dX4_left_23 : decode cX4_left 23 = .ok (.iload_n 1, 1) := by decide +kernel
theorem dX4_left_24 : decode cX4_left 24 = .ok (.i2l, 1) := by decide +kernel
theorem dX4_left_25 : decode cX4_left 25 = .ok (.ldc2_w 213, 3) := by decide +kernel
theorem dX4_left_28 : decode cX4_left 28 = .ok (.ldc2_w 215, 3) := by decide +kernel
theorem dX4_left_31 : decode cX4_left 31 = .ok (.invokestatic 84, 3) := by decide +kernel
theorem dX4_left_34 : decode cX4_left 34 = .ok (.ifCond .eq 14, 3) := by decide +kernel
theorem dX4_left_37 : decode cX4_left 37 = .ok (.aload_n 0, 1) := by decide +kernel
theorem dX4_left_38 : decode cX4_left 38 = .ok (.getfield 45, 3) := by decide +kernel
theorem dX4_left_41 : decode cX4_left 41 = .ok (.iload_n 1, 1) := by decide +kernel
theorem dX4_left_42 : decode cX4_left 42 = .ok (.iconst 2, 1) := by decide +kernel
theorem dX4_left_43 : decode cX4_left 43 = .ok (.isub, 1) := by decide +kernel
theorem dX4_left_44 : decode cX4_left 44 = .ok (.iaload, 1) := by decide +kernel
theorem dX4_left_45 : decode cX4_left 45 = .ok (.goto 4, 3) := by decide +kernel
theorem dX4_left_48 : decode cX4_left 48 = .ok (.iconst 0, 1) := by decide +kernel
theorem dX4_left_49 : decode cX4_left 49 = .ok (.ireturn, 1) := by decide +kernel
theorem dX4_whole_0 : decode cX4_whole 0 = .ok (.aload_n 0, 1) := by decide +kernel
theorem dX4_whole_1 : decode cX4_whole 1 = .ok (.ldc 202, 2) := by decide +kernel
theorem dX4_whole_3 : decode cX4_whole 3 = .ok (.iload_n 1, 1) := by decide +kernel
theorem dX4_whole_4 : decode cX4_whole 4 = .ok (.aload_n 2, 1) := by decide +kernel
theorem dX4_whole_5 : decode cX4_whole 5 = .ok (.iload_n 3, 1) := by decide +kernel
theorem dX4_whole_6 : decode cX4_whole 6 = .ok (.invokevirtual 203, 3) := by decide +kernel
theorem dX4_whole_9 : decode cX4_whole 9 = .ok (.istore 4, 2) := by decide +kernel
theorem dX4_whole_11 : decode cX4_whole 11 = .ok (.aload_n 0, 1) := by decide +kernel
theorem dX4_whole_12 : decode cX4_whole 12 = .ok (.aload_n 0, 1) := by decide +kernel
theorem dX4_whole_13 : decode cX4_whole 13 = .ok (.getfield 184, 3) := by decide +kernel
theorem dX4_whole_16 : decode cX4_whole 16 = .ok (.putfield 217, 3) := by decide +kernel
theorem dX4_whole_19 : decode cX4_whole 19 = .ok (.iconst 0, 1) := by decide +kernel
theorem dX4_whole_20 : decode cX4_whole 20 = .ok (.istore 5, 2) := by decide +kernel
theorem dX4_whole_22 : decode cX4_whole 22 = .ok (.iload 5, 2) := by decide +kernel
theorem dX4_whole_24 : decode cX4_whole 24 = .ok (.aload_n 0, 1) := by decide +kernel
theorem dX4_whole_25 : decode cX4_whole 25 = .ok (.getfield 184, 3) := by decide +kernel
theorem dX4_whole_28 : decode cX4_whole 28 = .ok (.if_icmp .ge 23, 3) := by decide +kernel
theorem dX4_whole_31 : decode cX4_whole 31 = .ok (.aload_n 0, 1) := by decide +kernel
theorem dX4_whole_32 : decode cX4_whole 32 = .ok (.getfield 78, 3) := by decide +kernel
theorem dX4_whole_35 : decode cX4_whole 35 = .ok (.iload 5, 2) := by decide +kernel
theorem dX4_whole_37 : decode cX4_whole 37 = .ok (.aload_n 0, 1) := by decide +kernel
theorem dX4_whole_38 : decode cX4_whole 38 = .ok (.getfield 75, 3) := by decide +kernel
theorem dX4_whole_41 : decode cX4_whole 41 = .ok (.iload 5, 2) := by decide +kernel
theorem dX4_whole_43 : decode cX4_whole 43 = .ok (.iaload, 1) := by decide +kernel
theorem dX4_whole_44 : decode cX4_whole 44 = .ok (.iastore, 1) := by decide +kernel
theorem dX4_whole_45 : decode cX4_whole 45 = .ok (.iinc 5 1, 3) := by decide +kernel
theorem dX4_whole_48 : decode cX4_whole 48 = .ok (.goto (-26), 3) := by decide +kernel
theorem dX4_whole_51 : decode cX4_whole 51 = .ok (.iload 4, 2) := by decide +kernel
theorem dX4_whole_53 : decode cX4_whole 53 = .ok (.ireturn, 1) := by decide +kernel
theorem dX4_isSame_0 : decode cX4_isSame 0 = .ok (.aload_n 0, 1) := by decide +kernel
theorem dX4_isSame_1 : decode cX4_isSame 1 = .ok (.getfield 184, 3) := by decide +kernel
theorem dX4_isSame_4 : decode cX4_isSame 4 = .ok (.aload_n 0, 1) := by decide +kernel
theorem dX4_isSame_5 : decode cX4_isSame 5 = .ok (.getfield 217, 3) := by decide +kernel
theorem dX4_isSame_8 : decode cX4_isSame 8 = .ok (.if_icmp .ne 7, 3) := by decide +kernel
theorem dX4_isSame_11 : decode cX4_isSame 11 = .ok (.iconst 1, 1) := by decide +kernel
theorem dX4_isSame_12 : decode cX4_isSame 12 = .ok (.goto 4, 3) := by decide +kernel
theorem dX4_isSame_15 : decode cX4_isSame 15 = .ok (.iconst 0, 1) := by decide +kernel
theorem dX4_isSame_16 : decode cX4_isSame 16 = .ok (.istore_n 1, 1) := by decide +kernel
theorem dX4_isSame_17 : decode cX4_isSame 17 = .ok (.iconst 0, 1) := by decide +kernel
theorem dX4_isSame_18 : decode cX4_isSame 18 = .ok (.istore_n 2, 1) := by decide +kernel
theorem dX4_isSame_19 : decode cX4_isSame 19 = .ok (.iload_n 2, 1) := by decide +kernel
theorem dX4_isSame_20 : decode cX4_isSame 20 = .ok (.aload_n 0, 1) := by decide +kernel
theorem dX4_isSame_21 : decode cX4_isSame 21 = .ok (.getfield 184, 3) := by decide +kernel
theorem dX4_isSame_24 : decode cX4_isSame 24 = .ok (.if_icmp .ge 34, 3) := by decide +kernel
theorem dX4_isSame_27 : decode cX4_isSame 27 = .ok (.iload_n 1, 1) := by decide +kernel
theorem dX4_isSame_28 : decode cX4_isSame 28 = .ok (.ifCond .eq 30, 3) := by decide +kernel
theorem dX4_isSame_31 : decode cX4_isSame 31 = .ok (.aload_n 0, 1) := by decide +kernel
theorem dX4_isSame_32 : decode cX4_isSame 32 = .ok (.getfield 75, 3) := by decide +kernel
theorem dX4_isSame_35 : decode cX4_isSame 35 = .ok (.iload_n 2, 1) := by decide +kernel
theorem dX4_isSame_36 : decode cX4_isSame 36 = .ok (.iaload, 1) := by decide +kernel
theorem dX4_isSame_37 : decode cX4_isSame 37 = .ok (.aload_n 0, 1) := by decide +kernel
theorem dX4_isSame_38 : decode cX4_isSame 38 = .ok (.getfield 78, 3) := by decide +kernel
theorem dX4_isSame_41 : decode cX4_isSame 41 = .ok (.iload_n 2, 1) := by decide +kernel
theorem dX4_isSame_42 : decode cX4_isSame 42 = .ok (.iaload, 1) := by decide +kernel
theorem dX4_isSame_43 : decode cX4_isSame 43 = .ok (.if_icmp .ne 7, 3) := by decide +kernel
theorem dX4_isSame_46 : decode cX4_isSame 46 = .ok (.iconst 1, 1) := by decide +kernel
theorem dX4_isSame_47 : decode cX4_isSame 47 = .ok (.goto 4, 3) := by decide +kernel
theorem dX4_isSame_50 : decode cX4_isSame 50 = .ok (.iconst 0, 1) := by decide +kernel
theorem dX4_isSame_51 : decode cX4_isSame 51 = .ok (.istore_n 1, 1) := by decide +kernel
theorem dX4_isSame_52 : decode cX4_isSame 52 = .ok (.iinc 2 1, 3) := by decide +kernel
theorem dX4_isSame_55 : decode cX4_isSame 55 = .ok (.goto (-36), 3) := by decide +kernel
theorem dX4_isSame_58 : decode cX4_isSame 58 = .ok (.iload_n 1, 1) := by decide +kernel
theorem dX4_isSame_59 : decode cX4_isSame 59 = .ok (.ireturn, 1) := by decide +kernel
theorem dX4_same_0 : decode cX4_same 0 = .ok (.aload_n 0, 1) := by decide +kernel
theorem dX4_same_1 : decode cX4_same 1 = .ok (.iload_n 1, 1) := by decide +kernel
theorem dX4_same_2 : decode cX4_same 2 = .ok (.invokevirtual 110, 3) := by decide +kernel
theorem dX4_same_5 : decode cX4_same 5 = .ok (.ifCond .ne 5, 3) := by decide +kernel
theorem dX4_same_8 : decode cX4_same 8 = .ok (.iconst (-1), 1) := by decide +kernel
theorem dX4_same_9 : decode cX4_same 9 = .ok (.ireturn, 1) := by decide +kernel
theorem dX4_same_10 : decode cX4_same 10 = .ok (.aload_n 0, 1) := by decide +kernel
theorem dX4_same_11 : decode cX4_same 11 = .ok (.invokevirtual 165, 3) := by decide +kernel
theorem dX4_same_14 : decode cX4_same 14 = .ok (.aload_n 0, 1) := by decide +kernel
theorem dX4_same_15 : decode cX4_same 15 = .ok (.iload_n 1, 1) := by decide +kernel
theorem dX4_same_16 : decode cX4_same 16 = .ok (.aload_n 0, 1) := by decide +kernel
theorem dX4_same_17 : decode cX4_same 17 = .ok (.getfield 22, 3) := by decide +kernel
theorem dX4_same_20 : decode cX4_same 20 = .ok (.iconst 0, 1) := by decide +kernel
theorem dX4_same_21 : decode cX4_same 21 = .ok (.invokevirtual 220, 3) := by decide +kernel
theorem dX4_same_24 : decode cX4_same 24 = .ok (.iconst 2, 1) := by decide +kernel
theorem dX4_same_25 : decode cX4_same 25 = .ok (.if_icmp .ne 5, 3) := by decide +kernel
theorem dX4_same_28 : decode cX4_same 28 = .ok (.iconst 2, 1) := by decide +kernel
theorem dX4_same_29 : decode cX4_same 29 = .ok (.ireturn, 1) := by decide +kernel
theorem dX4_same_30 : decode cX4_same 30 = .ok (.aload_n 0, 1) := by decide +kernel
theorem dX4_same_31 : decode cX4_same 31 = .ok (.aload_n 0, 1) := by decide +kernel
theorem dX4_same_32 : decode cX4_same 32 = .ok (.iload_n 1, 1) := by decide +kernel
theorem dX4_same_33 : decode cX4_same 33 = .ok (.iconst 0, 1) := by decide +kernel
theorem dX4_same_34 : decode cX4_same 34 = .ok (.invokevirtual 162, 3) := by decide +kernel
theorem dX4_same_37 : decode cX4_same 37 = .ok (.iload_n 1, 1) := by decide +kernel
theorem dX4_same_38 : decode cX4_same 38 = .ok (.aload_n 0, 1) := by decide +kernel
theorem dX4_same_39 : decode cX4_same 39 = .ok (.getfield 22, 3) := by decide +kernel
theorem dX4_same_42 : decode cX4_same 42 = .ok (.iconst 0, 1) := by decide +kernel
theorem dX4_same_43 : decode cX4_same 43 = .ok (.invokevirtual 203, 3) := by decide +kernel
theorem dX4_same_46 : decode cX4_same 46 = .ok (.pop, 1) := by decide +kernel
theorem dX4_same_47 : decode cX4_same 47 = .ok (.aload_n 0, 1) := by decide +kernel
theorem dX4_same_48 : decode cX4_same 48 = .ok (.invokevirtual 224, 3) := by decide +kernel
theorem dX4_same_51 : decode cX4_same 51 = .ok (.ifCond .eq 7, 3) := by decide +kernel
theorem dX4_same_54 : decode cX4_same 54 = .ok (.iconst 1, 1) := by decide +kernel
theorem dX4_same_55 : decode cX4_same 55 = .ok (.goto 4, 3) := by decide +kernel
theorem dX4_same_58 : decode cX4_same 58 = .ok (.iconst 0, 1) := by decide +kernel
theorem dX4_same_59 : decode cX4_same 59 = .ok (.ireturn, 1) := by decide +kernel
theorem dX4_test_0 : decode cX4_test 0 = .ok (.aload_n 0, 1) := by decide +kernel
theorem dX4_test_1 : decode cX4_test 1 = .ok (.getfield 228, 3) := by decide +kernel
theorem dX4_test_4 : decode cX4_test 4 = .ok (.iconst 3, 1) := by decide +kernel
theorem dX4_test_5 : decode cX4_test 5 = .ok (.if_icmp .ne 6, 3) := by decide +kernel
theorem dX4_test_8 : decode cX4_test 8 = .ok (.bipush (-2), 2) := by decide +kernel
theorem dX4_test_10 : decode cX4_test 10 = .ok (.ireturn, 1) := by decide +kernel
theorem dX4_test_11 : decode cX4_test 11 = .ok (.iconst 0, 1) := by decide +kernel
theorem dX4_test_12 : decode cX4_test 12 = .ok (.istore_n 1, 1) := by decide +kernel
theorem dX4_test_13 : decode cX4_test 13 = .ok (.iload_n 1, 1) := by decide +kernel
theorem dX4_test_14 : decode cX4_test 14 = .ok (.iconst 4, 1) := by decide +kernel
theorem dX4_test_15 : decode cX4_test 15 = .ok (.if_icmp .ge 28, 3) := by decide +kernel
theorem dX4_test_18 : decode cX4_test 18 = .ok (.aload_n 0, 1) := by decide +kernel
theorem dX4_test_19 : decode cX4_test 19 = .ok (.getfield 35, 3) := by decide +kernel
theorem dX4_test_22 : decode cX4_test 22 = .ok (.iconst 4, 1) := by decide +kernel
theorem dX4_test_23 : decode cX4_test 23 = .ok (.aload_n 0, 1) := by decide +kernel
theorem dX4_test_24 : decode cX4_test 24 = .ok (.getfield 228, 3) := by decide +kernel
theorem dX4_test_27 : decode cX4_test 27 = .ok (.imul, 1) := by decide +kernel
theorem dX4_test_28 : decode cX4_test 28 = .ok (.iload_n 1, 1) := by decide +kernel
theorem dX4_test_29 : decode cX4_test 29 = .ok (.iadd, 1) := by decide +kernel
theorem dX4_test_30 : decode cX4_test 30 = .ok (.aload_n 0, 1) := by decide +kernel
theorem dX4_test_31 : decode cX4_test 31 = .ok (.getfield 22, 3) := by decide +kernel
theorem dX4_test_34 : decode cX4_test 34 = .ok (.iload_n 1, 1) := by decide +kernel
theorem dX4_test_35 : decode cX4_test 35 = .ok (.iaload, 1) := by decide +kernel
theorem dX4_test_36 : decode cX4_test 36 = .ok (.iastore, 1) := by decide +kernel
theorem dX4_test_37 : decode cX4_test 37 = .ok (.iinc 1 1, 3) := by decide +kernel
theorem dX4_test_40 : decode cX4_test 40 = .ok (.goto (-27), 3) := by decide +kernel
theorem dX4_test_43 : decode cX4_test 43 = .ok (.aload_n 0, 1) := by decide +kernel
theorem dX4_test_44 : decode cX4_test 44 = .ok (.dup, 1) := by decide +kernel
theorem dX4_test_45 : decode cX4_test 45 = .ok (.getfield 228, 3) := by decide +kernel
theorem dX4_test_48 : decode cX4_test 48 = .ok (.iconst 1, 1) := by decide +kernel
theorem dX4_test_49 : decode cX4_test 49 = .ok (.iadd, 1) := by decide +kernel
theorem dX4_test_50 : decode cX4_test 50 = .ok (.putfield 228, 3) := by decide +kernel
theorem dX4_test_53 : decode cX4_test 53 = .ok (.aload_n 0, 1) := by decide +kernel
theorem dX4_test_54 : decode cX4_test 54 = .ok (.getfield 228, 3) := by decide +kernel
theorem dX4_test_57 : decode cX4_test 57 = .ok (.iconst 1, 1) := by decide +kernel
theorem dX4_test_58 : decode cX4_test 58 = .ok (.isub, 1) := by decide +kernel
theorem dX4_test_59 : decode cX4_test 59 = .ok (.ireturn, 1) := by decide +kernel
theorem dX4_untest_0 : decode cX4_untest 0 = .ok (.aload_n 0, 1) := by decide +kernel
theorem dX4_untest_1 : decode cX4_untest 1 = .ok (.getfield 228, 3) := by decide +kernel
theorem dX4_untest_4 : decode cX4_untest 4 = .ok (.istore_n 1, 1) := by decide +kernel
theorem dX4_untest_5 : decode cX4_untest 5 = .ok (.aload_n 0, 1) := by decide +kernel
theorem dX4_untest_6 : decode cX4_untest 6 = .ok (.iconst 0, 1) := by decide +kernel
theorem dX4_untest_7 : decode cX4_untest 7 = .ok (.putfield 228, 3) := by decide +kernel
theorem dX4_untest_10 : decode cX4_untest 10 = .ok (.iload_n 1, 1) := by decide +kernel
theorem dX4_untest_11 : decode cX4_untest 11 = .ok (.ireturn, 1) := by decide +kernel
theorem dX4_agrees_0 : decode cX4_agrees 0 = .ok (.iconst 1, 1) := by decide +kernel
theorem dX4_agrees_1 : decode cX4_agrees 1 = .ok (.istore_n 3, 1) := by decide +kernel
theorem dX4_agrees_2 : decode cX4_agrees 2 = .ok (.iconst 0, 1) := by decide +kernel
theorem dX4_agrees_3 : decode cX4_agrees 3 = .ok (.istore 4, 2) := by decide +kernel
theorem dX4_agrees_5 : decode cX4_agrees 5 = .ok (.iload 4, 2) := by decide +kernel
theorem dX4_agrees_7 : decode cX4_agrees 7 = .ok (.aload_n 0, 1) := by decide +kernel
theorem dX4_agrees_8 : decode cX4_agrees 8 = .ok (.getfield 228, 3) := by decide +kernel
theorem dX4_agrees_11 : decode cX4_agrees 11 = .ok (.if_icmp .ge 62, 3) := by decide +kernel
theorem dX4_agrees_14 : decode cX4_agrees 14 = .ok (.iload_n 3, 1) := by decide +kernel
theorem dX4_agrees_15 : decode cX4_agrees 15 = .ok (.ifCond .eq 58, 3) := by decide +kernel
theorem dX4_agrees_18 : decode cX4_agrees 18 = .ok (.aload_n 0, 1) := by decide +kernel
theorem dX4_agrees_19 : decode cX4_agrees 19 = .ok (.iload_n 2, 1) := by decide +kernel
theorem dX4_agrees_20 : decode cX4_agrees 20 = .ok (.aload_n 0, 1) := by decide +kernel
theorem dX4_agrees_21 : decode cX4_agrees 21 = .ok (.getfield 35, 3) := by decide +kernel
theorem dX4_agrees_24 : decode cX4_agrees 24 = .ok (.iconst 4, 1) := by decide +kernel
theorem dX4_agrees_25 : decode cX4_agrees 25 = .ok (.iload 4, 2) := by decide +kernel
theorem dX4_agrees_27 : decode cX4_agrees 27 = .ok (.imul, 1) := by decide +kernel
theorem dX4_agrees_28 : decode cX4_agrees 28 = .ok (.invokevirtual 220, 3) := by decide +kernel
theorem dX4_agrees_31 : decode cX4_agrees 31 = .ok (.pop, 1) := by decide +kernel
theorem dX4_agrees_32 : decode cX4_agrees 32 = .ok (.aload_n 0, 1) := by decide +kernel
theorem dX4_agrees_33 : decode cX4_agrees 33 = .ok (.iload_n 1, 1) := by decide +kernel
theorem dX4_agrees_34 : decode cX4_agrees 34 = .ok (.iload_n 2, 1) := by decide +kernel
theorem dX4_agrees_35 : decode cX4_agrees 35 = .ok (.aload_n 0, 1) := by decide +kernel
theorem dX4_agrees_36 : decode cX4_agrees 36 = .ok (.getfield 35, 3) := by decide +kernel
theorem dX4_agrees_39 : decode cX4_agrees 39 = .ok (.iconst 4, 1) := by decide +kernel
theorem dX4_agrees_40 : decode cX4_agrees 40 = .ok (.iload 4, 2) := by decide +kernel
theorem dX4_agrees_42 : decode cX4_agrees 42 = .ok (.imul, 1) := by decide +kernel
theorem dX4_agrees_43 : decode cX4_agrees 43 = .ok (.invokevirtual 203, 3) := by decide +kernel
theorem dX4_agrees_46 : decode cX4_agrees 46 = .ok (.istore 5, 2) := by decide +kernel
theorem dX4_agrees_48 : decode cX4_agrees 48 = .ok (.iload 5, 2) := by decide +kernel
theorem dX4_agrees_50 : decode cX4_agrees 50 = .ok (.iconst 2, 1) := by decide +kernel
theorem dX4_agrees_51 : decode cX4_agrees 51 = .ok (.if_icmp .eq 14, 3) := by decide +kernel
theorem dX4_agrees_54 : decode cX4_agrees 54 = .ok (.aload_n 0, 1) := by decide +kernel
theorem dX4_agrees_55 : decode cX4_agrees 55 = .ok (.invokevirtual 224, 3) := by decide +kernel
theorem dX4_agrees_58 : decode cX4_agrees 58 = .ok (.ifCond .eq 7, 3) := by decide +kernel
theorem dX4_agrees_61 : decode cX4_agrees 61 = .ok (.iconst 1, 1) := by decide +kernel
theorem dX4_agrees_62 : decode cX4_agrees 62 = .ok (.goto 4, 3) := by decide +kernel
theorem dX4_agrees_65 : decode cX4_agrees 65 = .ok (.iconst 0, 1) := by decide +kernel
theorem dX4_agrees_66 : decode cX4_agrees 66 = .ok (.istore_n 3, 1) := by decide +kernel
theorem dX4_agrees_67 : decode cX4_agrees 67 = .ok (.iinc 4 1, 3) := by decide +kernel
theorem dX4_agrees_70 : decode cX4_agrees 70 = .ok (.goto (-65), 3) := by decide +kernel
theorem dX4_agrees_73 : decode cX4_agrees 73 = .ok (.iload_n 3, 1) := by decide +kernel
theorem dX4_agrees_74 : decode cX4_agrees 74 = .ok (.ireturn, 1) := by decide +kernel
theorem dX4_least_0 : decode cX4_least 0 = .ok (.aload_n 0, 1) := by decide +kernel
theorem dX4_least_1 : decode cX4_least 1 = .ok (.iload_n 1, 1) := by decide +kernel
theorem dX4_least_2 : decode cX4_least 2 = .ok (.invokevirtual 110, 3) := by decide +kernel
theorem dX4_least_5 : decode cX4_least 5 = .ok (.ifCond .ne 5, 3) := by decide +kernel
theorem dX4_least_8 : decode cX4_least 8 = .ok (.iconst (-1), 1) := by decide +kernel
theorem dX4_least_9 : decode cX4_least 9 = .ok (.ireturn, 1) := by decide +kernel
theorem dX4_least_10 : decode cX4_least 10 = .ok (.aload_n 0, 1) := by decide +kernel
theorem dX4_least_11 : decode cX4_least 11 = .ok (.getfield 228, 3) := by decide +kernel
theorem dX4_least_14 : decode cX4_least 14 = .ok (.ifCond .ne 7, 3) := by decide +kernel
theorem dX4_least_17 : decode cX4_least 17 = .ok (.iconst 1, 1) := by decide +kernel
theorem dX4_least_18 : decode cX4_least 18 = .ok (.goto 4, 3) := by decide +kernel
theorem dX4_least_21 : decode cX4_least 21 = .ok (.iconst 0, 1) := by decide +kernel
theorem dX4_least_22 : decode cX4_least 22 = .ok (.istore_n 2, 1) := by decide +kernel
theorem dX4_least_23 : decode cX4_least 23 = .ok (.iconst 0, 1) := by decide +kernel
theorem dX4_least_24 : decode cX4_least 24 = .ok (.istore_n 3, 1) := by decide +kernel
theorem dX4_least_25 : decode cX4_least 25 = .ok (.iload_n 3, 1) := by decide +kernel
theorem dX4_least_26 : decode cX4_least 26 = .ok (.aload_n 0, 1) := by decide +kernel
theorem dX4_least_27 : decode cX4_least 27 = .ok (.getfield 228, 3) := by decide +kernel
theorem dX4_least_30 : decode cX4_least 30 = .ok (.if_icmp .ge 35, 3) := by decide +kernel
theorem dX4_least_33 : decode cX4_least 33 = .ok (.iload_n 2, 1) := by decide +kernel
theorem dX4_least_34 : decode cX4_least 34 = .ok (.ifCond .ne 19, 3) := by decide +kernel
theorem dX4_least_37 : decode cX4_least 37 = .ok (.aload_n 0, 1) := by decide +kernel
theorem dX4_least_38 : decode cX4_least 38 = .ok (.iload_n 1, 1) := by decide +kernel
theorem dX4_least_39 : decode cX4_least 39 = .ok (.aload_n 0, 1) := by decide +kernel
theorem dX4_least_40 : decode cX4_least 40 = .ok (.getfield 35, 3) := by decide +kernel
theorem dX4_least_43 : decode cX4_least 43 = .ok (.iconst 4, 1) := by decide +kernel
theorem dX4_least_44 : decode cX4_least 44 = .ok (.iload_n 3, 1) := by decide +kernel
theorem dX4_least_45 : decode cX4_least 45 = .ok (.imul, 1) := by decide +kernel
theorem dX4_least_46 : decode cX4_least 46 = .ok (.invokevirtual 220, 3) := by decide +kernel
theorem dX4_least_49 : decode cX4_least 49 = .ok (.iconst 2, 1) := by decide +kernel
theorem dX4_least_50 : decode cX4_least 50 = .ok (.if_icmp .ne 7, 3) := by decide +kernel
theorem dX4_least_53 : decode cX4_least 53 = .ok (.iconst 1, 1) := by decide +kernel
theorem dX4_least_54 : decode cX4_least 54 = .ok (.goto 4, 3) := by decide +kernel
theorem dX4_least_57 : decode cX4_least 57 = .ok (.iconst 0, 1) := by decide +kernel
theorem dX4_least_58 : decode cX4_least 58 = .ok (.istore_n 2, 1) := by decide +kernel
theorem dX4_least_59 : decode cX4_least 59 = .ok (.iinc 3 1, 3) := by decide +kernel
theorem dX4_least_62 : decode cX4_least 62 = .ok (.goto (-37), 3) := by decide +kernel
theorem dX4_least_65 : decode cX4_least 65 = .ok (.iload_n 2, 1) := by decide +kernel
theorem dX4_least_66 : decode cX4_least 66 = .ok (.ifCond .eq 6, 3) := by decide +kernel
theorem dX4_least_69 : decode cX4_least 69 = .ok (.bipush (-3), 2) := by decide +kernel
theorem dX4_least_71 : decode cX4_least 71 = .ok (.ireturn, 1) := by decide +kernel
theorem dX4_least_72 : decode cX4_least 72 = .ok (.aload_n 0, 1) := by decide +kernel
theorem dX4_least_73 : decode cX4_least 73 = .ok (.invokevirtual 165, 3) := by decide +kernel
theorem dX4_least_76 : decode cX4_least 76 = .ok (.aload_n 0, 1) := by decide +kernel
theorem dX4_least_77 : decode cX4_least 77 = .ok (.iload_n 1, 1) := by decide +kernel
theorem dX4_least_78 : decode cX4_least 78 = .ok (.iconst 0, 1) := by decide +kernel
theorem dX4_least_79 : decode cX4_least 79 = .ok (.invokevirtual 162, 3) := by decide +kernel
theorem dX4_least_82 : decode cX4_least 82 = .ok (.istore_n 3, 1) := by decide +kernel
theorem dX4_least_83 : decode cX4_least 83 = .ok (.iconst 1, 1) := by decide +kernel
theorem dX4_least_84 : decode cX4_least 84 = .ok (.istore 4, 2) := by decide +kernel
theorem dX4_least_86 : decode cX4_least 86 = .ok (.iload 4, 2) := by decide +kernel
theorem dX4_least_88 : decode cX4_least 88 = .ok (.ifCond .eq 72, 3) := by decide +kernel
theorem dX4_least_91 : decode cX4_least 91 = .ok (.iconst 0, 1) := by decide +kernel
theorem dX4_least_92 : decode cX4_least 92 = .ok (.istore 4, 2) := by decide +kernel
theorem dX4_least_94 : decode cX4_least 94 = .ok (.aload_n 0, 1) := by decide +kernel
theorem dX4_least_95 : decode cX4_least 95 = .ok (.getfield 81, 3) := by decide +kernel
theorem dX4_least_98 : decode cX4_least 98 = .ok (.iconst 1, 1) := by decide +kernel
theorem dX4_least_99 : decode cX4_least 99 = .ok (.isub, 1) := by decide +kernel
theorem dX4_least_100 : decode cX4_least 100 = .ok (.istore 5, 2) := by decide +kernel
theorem dX4_least_102 : decode cX4_least 102 = .ok (.iload 5, 2) := by decide +kernel
theorem dX4_least_104 : decode cX4_least 104 = .ok (.ifCond .lt 53, 3) := by decide +kernel
theorem dX4_least_107 : decode cX4_least 107 = .ok (.iload 5, 2) := by decide +kernel
theorem dX4_least_109 : decode cX4_least 109 = .ok (.iload_n 1, 1) := by decide +kernel
theorem dX4_least_110 : decode cX4_least 110 = .ok (.if_icmp .eq 41, 3) := by decide +kernel
theorem dX4_least_113 : decode cX4_least 113 = .ok (.iload_n 3, 1) := by decide +kernel
theorem dX4_least_114 : decode cX4_least 114 = .ok (.iload 5, 2) := by decide +kernel
theorem dX4_least_116 : decode cX4_least 116 = .ok (.ishr, 1) := by decide +kernel
theorem dX4_least_117 : decode cX4_least 117 = .ok (.iconst 1, 1) := by decide +kernel
theorem dX4_least_118 : decode cX4_least 118 = .ok (.iand, 1) := by decide +kernel
theorem dX4_least_119 : decode cX4_least 119 = .ok (.iconst 1, 1) := by decide +kernel
theorem dX4_least_120 : decode cX4_least 120 = .ok (.if_icmp .ne 31, 3) := by decide +kernel
theorem dX4_least_123 : decode cX4_least 123 = .ok (.aload_n 0, 1) := by decide +kernel
theorem dX4_least_124 : decode cX4_least 124 = .ok (.iload_n 3, 1) := by decide +kernel
theorem dX4_least_125 : decode cX4_least 125 = .ok (.iconst 1, 1) := by decide +kernel
theorem dX4_least_126 : decode cX4_least 126 = .ok (.iload 5, 2) := by decide +kernel
theorem dX4_least_128 : decode cX4_least 128 = .ok (.ishl, 1) := by decide +kernel
theorem dX4_least_129 : decode cX4_least 129 = .ok (.iconst (-1), 1) := by decide +kernel
theorem dX4_least_130 : decode cX4_least 130 = .ok (.ixor, 1) := by decide +kernel
theorem dX4_least_131 : decode cX4_least 131 = .ok (.iand, 1) := by decide +kernel
theorem dX4_least_132 : decode cX4_least 132 = .ok (.iload_n 1, 1) := by decide +kernel
theorem dX4_least_133 : decode cX4_least 133 = .ok (.invokevirtual 231, 3) := by decide +kernel
theorem dX4_least_136 : decode cX4_least 136 = .ok (.ifCond .eq 15, 3) := by decide +kernel
theorem dX4_least_139 : decode cX4_least 139 = .ok (.iload_n 3, 1) := by decide +kernel
theorem dX4_least_140 : decode cX4_least 140 = .ok (.iconst 1, 1) := by decide +kernel
theorem dX4_least_141 : decode cX4_least 141 = .ok (.iload 5, 2) := by decide +kernel
theorem dX4_least_143 : decode cX4_least 143 = .ok (.ishl, 1) := by decide +kernel
theorem dX4_least_144 : decode cX4_least 144 = .ok (.iconst (-1), 1) := by decide +kernel
theorem dX4_least_145 : decode cX4_least 145 = .ok (.ixor, 1) := by decide +kernel
theorem dX4_least_146 : decode cX4_least 146 = .ok (.iand, 1) := by decide +kernel
theorem dX4_least_147 : decode cX4_least 147 = .ok (.istore_n 3, 1) := by decide +kernel
theorem dX4_least_148 : decode cX4_least 148 = .ok (.iconst 1, 1) := by decide +kernel
theorem dX4_least_149 : decode cX4_least 149 = .ok (.istore 4, 2) := by decide +kernel
theorem dX4_least_151 : decode cX4_least 151 = .ok (.iinc 5 (-1), 3) := by decide +kernel
theorem dX4_least_154 : decode cX4_least 154 = .ok (.goto (-52), 3) := by decide +kernel
theorem dX4_least_157 : decode cX4_least 157 = .ok (.goto (-71), 3) := by decide +kernel
theorem dX4_least_160 : decode cX4_least 160 = .ok (.iload_n 3, 1) := by decide +kernel
theorem dX4_least_161 : decode cX4_least 161 = .ok (.ireturn, 1) := by decide +kernel
theorem dX4_count_0 : decode cX4_count 0 = .ok (.iload_n 1, 1) := by decide +kernel
theorem dX4_count_1 : decode cX4_count 1 = .ok (.ifCond .ne 10, 3) := by decide +kernel
theorem dX4_count_4 : decode cX4_count 4 = .ok (.aload_n 0, 1) := by decide +kernel
theorem dX4_count_5 : decode cX4_count 5 = .ok (.getfield 81, 3) := by decide +kernel
theorem dX4_count_8 : decode cX4_count 8 = .ok (.goto 28, 3) := by decide +kernel
theorem dX4_count_11 : decode cX4_count 11 = .ok (.iload_n 1, 1) := by decide +kernel
theorem dX4_count_12 : decode cX4_count 12 = .ok (.iconst 1, 1) := by decide +kernel
theorem dX4_count_13 : decode cX4_count 13 = .ok (.if_icmp .ne 10, 3) := by decide +kernel
theorem dX4_count_16 : decode cX4_count 16 = .ok (.aload_n 0, 1) := by decide +kernel
theorem dX4_count_17 : decode cX4_count 17 = .ok (.getfield 228, 3) := by decide +kernel
theorem dX4_count_20 : decode cX4_count 20 = .ok (.goto 16, 3) := by decide +kernel
theorem dX4_count_23 : decode cX4_count 23 = .ok (.iload_n 1, 1) := by decide +kernel
theorem dX4_count_24 : decode cX4_count 24 = .ok (.iconst 2, 1) := by decide +kernel
theorem dX4_count_25 : decode cX4_count 25 = .ok (.if_icmp .ne 10, 3) := by decide +kernel
theorem dX4_count_28 : decode cX4_count 28 = .ok (.aload_n 0, 1) := by decide +kernel
theorem dX4_count_29 : decode cX4_count 29 = .ok (.getfield 199, 3) := by decide +kernel
theorem dX4_count_32 : decode cX4_count 32 = .ok (.goto 4, 3) := by decide +kernel
theorem dX4_count_35 : decode cX4_count 35 = .ok (.iconst (-1), 1) := by decide +kernel
theorem dX4_count_36 : decode cX4_count 36 = .ok (.ireturn, 1) := by decide +kernel
