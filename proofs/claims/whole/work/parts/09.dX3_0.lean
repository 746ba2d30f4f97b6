theorem dX3_init_0 : decode cX3_init 0 = .ok (.aload_n 0, 1) := by decide +kernel
theorem dX3_init_1 : decode cX3_init 1 = .ok (.invokespecial 3, 3) := by decide +kernel
theorem dX3_init_4 : decode cX3_init 4 = .ok (.aload_n 0, 1) := by decide +kernel
theorem dX3_init_5 : decode cX3_init 5 = .ok (.new 9, 3) := by decide +kernel
theorem dX3_init_8 : decode cX3_init 8 = .ok (.dup, 1) := by decide +kernel
theorem dX3_init_9 : decode cX3_init 9 = .ok (.invokespecial 11, 3) := by decide +kernel
theorem dX3_init_12 : decode cX3_init 12 = .ok (.putfield 12, 3) := by decide +kernel
theorem dX3_init_15 : decode cX3_init 15 = .ok (.aload_n 0, 1) := by decide +kernel
theorem dX3_init_16 : decode cX3_init 16 = .ok (.new 16, 3) := by decide +kernel
theorem dX3_init_19 : decode cX3_init 19 = .ok (.dup, 1) := by decide +kernel
theorem dX3_init_20 : decode cX3_init 20 = .ok (.invokespecial 18, 3) := by decide +kernel
theorem dX3_init_23 : decode cX3_init 23 = .ok (.putfield 19, 3) := by decide +kernel
theorem dX3_init_26 : decode cX3_init 26 = .ok (.aload_n 0, 1) := by decide +kernel
theorem dX3_init_27 : decode cX3_init 27 = .ok (.iconst 1, 1) := by decide +kernel
theorem dX3_init_28 : decode cX3_init 28 = .ok (.putfield 23, 3) := by decide +kernel
theorem dX3_init_31 : decode cX3_init 31 = .ok (.aload_n 0, 1) := by decide +kernel
theorem dX3_init_32 : decode cX3_init 32 = .ok (.iconst 4, 1) := by decide +kernel
theorem dX3_init_33 : decode cX3_init 33 = .ok (.newarray .int, 2) := by decide +kernel
theorem dX3_init_35 : decode cX3_init 35 = .ok (.putfield 27, 3) := by decide +kernel
theorem dX3_init_38 : decode cX3_init 38 = .ok (.aload_n 0, 1) := by decide +kernel
theorem dX3_init_39 : decode cX3_init 39 = .ok (.iconst 3, 1) := by decide +kernel
theorem dX3_init_40 : decode cX3_init 40 = .ok (.iconst 4, 1) := by decide +kernel
theorem dX3_init_41 : decode cX3_init 41 = .ok (.multianewarray 31 2, 4) := by decide +kernel
theorem dX3_init_45 : decode cX3_init 45 = .ok (.putfield 33, 3) := by decide +kernel
theorem dX3_init_48 : decode cX3_init 48 = .ok (.aload_n 0, 1) := by decide +kernel
theorem dX3_init_49 : decode cX3_init 49 = .ok (.new 36, 3) := by decide +kernel
theorem dX3_init_52 : decode cX3_init 52 = .ok (.dup, 1) := by decide +kernel
theorem dX3_init_53 : decode cX3_init 53 = .ok (.invokespecial 38, 3) := by decide +kernel
theorem dX3_init_56 : decode cX3_init 56 = .ok (.putfield 39, 3) := by decide +kernel
theorem dX3_init_59 : decode cX3_init 59 = .ok (.aload_n 0, 1) := by decide +kernel
theorem dX3_init_60 : decode cX3_init 60 = .ok (.iconst 3, 1) := by decide +kernel
theorem dX3_init_61 : decode cX3_init 61 = .ok (.anewarray 36, 3) := by decide +kernel
theorem dX3_init_64 : decode cX3_init 64 = .ok (.putfield 43, 3) := by decide +kernel
theorem dX3_init_67 : decode cX3_init 67 = .ok (.aload_n 0, 1) := by decide +kernel
theorem dX3_init_68 : decode cX3_init 68 = .ok (.new 36, 3) := by decide +kernel
theorem dX3_init_71 : decode cX3_init 71 = .ok (.dup, 1) := by decide +kernel
theorem dX3_init_72 : decode cX3_init 72 = .ok (.invokespecial 38, 3) := by decide +kernel
theorem dX3_init_75 : decode cX3_init 75 = .ok (.putfield 47, 3) := by decide +kernel
theorem dX3_init_78 : decode cX3_init 78 = .ok (.aload_n 0, 1) := by decide +kernel
theorem dX3_init_79 : decode cX3_init 79 = .ok (.bipush 24, 2) := by decide +kernel
theorem dX3_init_81 : decode cX3_init 81 = .ok (.newarray .int, 2) := by decide +kernel
theorem dX3_init_83 : decode cX3_init 83 = .ok (.putfield 50, 3) := by decide +kernel
theorem dX3_init_86 : decode cX3_init 86 = .ok (.iconst 0, 1) := by decide +kernel
theorem dX3_init_87 : decode cX3_init 87 = .ok (.istore_n 1, 1) := by decide +kernel
theorem dX3_init_88 : decode cX3_init 88 = .ok (.iload_n 1, 1) := by decide +kernel
theorem dX3_init_89 : decode cX3_init 89 = .ok (.iconst 3, 1) := by decide +kernel
theorem dX3_init_90 : decode cX3_init 90 = .ok (.if_icmp .ge 22, 3) := by decide +kernel
theorem dX3_init_93 : decode cX3_init 93 = .ok (.aload_n 0, 1) := by decide +kernel
theorem dX3_init_94 : decode cX3_init 94 = .ok (.getfield 43, 3) := by decide +kernel
theorem dX3_init_97 : decode cX3_init 97 = .ok (.iload_n 1, 1) := by decide +kernel
theorem dX3_init_98 : decode cX3_init 98 = .ok (.new 36, 3) := by decide +kernel
theorem dX3_init_101 : decode cX3_init 101 = .ok (.dup, 1) := by decide +kernel
theorem dX3_init_102 : decode cX3_init 102 = .ok (.invokespecial 38, 3) := by decide +kernel
theorem dX3_init_105 : decode cX3_init 105 = .ok (.aastore, 1) := by decide +kernel
theorem dX3_init_106 : decode cX3_init 106 = .ok (.iinc 1 1, 3) := by decide +kernel
theorem dX3_init_109 : decode cX3_init 109 = .ok (.goto (-21), 3) := by decide +kernel
theorem dX3_init_112 : decode cX3_init 112 = .ok (.return_, 1) := by decide +kernel
theorem dX3_line_0 : decode cX3_line 0 = .ok (.iload_n 1, 1) := by decide +kernel
theorem dX3_line_1 : decode cX3_line 1 = .ok (.iload_n 2, 1) := by decide +kernel
theorem dX3_line_2 : decode cX3_line 2 = .ok (.iload_n 3, 1) := by decide +kernel
theorem dX3_line_3 : decode cX3_line 3 = .ok (.iload 4, 2) := by decide +kernel
theorem dX3_line_5 : decode cX3_line 5 = .ok (.invokestatic 53, 3) := by decide +kernel
theorem dX3_line_8 : decode cX3_line 8 = .ok (.ifCond .ne 5, 3) := by decide +kernel
theorem dX3_line_11 : decode cX3_line 11 = .ok (.iconst (-1), 1) := by decide +kernel
theorem dX3_line_12 : decode cX3_line 12 = .ok (.ireturn, 1) := by decide +kernel
theorem dX3_line_13 : decode cX3_line 13 = .ok (.aload_n 0, 1) := by decide +kernel
theorem dX3_line_14 : decode cX3_line 14 = .ok (.getfield 12, 3) := by decide +kernel
theorem dX3_line_17 : decode cX3_line 17 = .ok (.getfield 57, 3) := by decide +kernel
theorem dX3_line_20 : decode cX3_line 20 = .ok (.bipush 24, 2) := by decide +kernel
theorem dX3_line_22 : decode cX3_line 22 = .ok (.if_icmp .lt 6, 3) := by decide +kernel
theorem dX3_line_25 : decode cX3_line 25 = .ok (.bipush (-2), 2) := by decide +kernel
theorem dX3_line_27 : decode cX3_line 27 = .ok (.ireturn, 1) := by decide +kernel
theorem dX3_line_28 : decode cX3_line 28 = .ok (.aload_n 0, 1) := by decide +kernel
theorem dX3_line_29 : decode cX3_line 29 = .ok (.getfield 12, 3) := by decide +kernel
theorem dX3_line_32 : decode cX3_line 32 = .ok (.getfield 57, 3) := by decide +kernel
theorem dX3_line_35 : decode cX3_line 35 = .ok (.istore 5, 2) := by decide +kernel
theorem dX3_line_37 : decode cX3_line 37 = .ok (.aload_n 0, 1) := by decide +kernel
theorem dX3_line_38 : decode cX3_line 38 = .ok (.getfield 12, 3) := by decide +kernel
theorem dX3_line_41 : decode cX3_line 41 = .ok (.dup, 1) := by decide +kernel
theorem dX3_line_42 : decode cX3_line 42 = .ok (.getfield 57, 3) := by decide +kernel
theorem dX3_line_45 : decode cX3_line 45 = .ok (.iconst 1, 1) := by decide +kernel
theorem dX3_line_46 : decode cX3_line 46 = .ok (.iadd, 1) := by decide +kernel
theorem dX3_line_47 : decode cX3_line 47 = .ok (.putfield 57, 3) := by decide +kernel
theorem dX3_line_50 : decode cX3_line 50 = .ok (.aload_n 0, 1) := by decide +kernel
theorem dX3_line_51 : decode cX3_line 51 = .ok (.getfield 12, 3) := by decide +kernel
theorem dX3_line_54 : decode cX3_line 54 = .ok (.iload 5, 2) := by decide +kernel
theorem dX3_line_56 : decode cX3_line 56 = .ok (.iload_n 1, 1) := by decide +kernel
theorem dX3_line_57 : decode cX3_line 57 = .ok (.iload_n 2, 1) := by decide +kernel
theorem dX3_line_58 : decode cX3_line 58 = .ok (.iload_n 3, 1) := by decide +kernel
theorem dX3_line_59 : decode cX3_line 59 = .ok (.iload 4, 2) := by decide +kernel
theorem dX3_line_61 : decode cX3_line 61 = .ok (.invokevirtual 61, 3) := by decide +kernel
theorem dX3_line_64 : decode cX3_line 64 = .ok (.aload_n 0, 1) := by decide +kernel
theorem dX3_line_65 : decode cX3_line 65 = .ok (.iconst 1, 1) := by decide +kernel
theorem dX3_line_66 : decode cX3_line 66 = .ok (.putfield 23, 3) := by decide +kernel
theorem dX3_line_69 : decode cX3_line 69 = .ok (.iload 5, 2) := by decide +kernel
theorem dX3_line_71 : decode cX3_line 71 = .ok (.ireturn, 1) := by decide +kernel
theorem dX3_change_0 : decode cX3_change 0 = .ok (.aload_n 0, 1) := by decide +kernel
theorem dX3_change_1 : decode cX3_change 1 = .ok (.getfield 12, 3) := by decide +kernel
theorem dX3_change_4 : decode cX3_change 4 = .ok (.iload_n 1, 1) := by decide +kernel
theorem dX3_change_5 : decode cX3_change 5 = .ok (.invokevirtual 65, 3) := by decide +kernel
theorem dX3_change_8 : decode cX3_change 8 = .ok (.ifCond .eq 15, 3) := by decide +kernel
theorem dX3_change_11 : decode cX3_change 11 = .ok (.iload_n 2, 1) := by decide +kernel
theorem dX3_change_12 : decode cX3_change 12 = .ok (.iload_n 3, 1) := by decide +kernel
theorem dX3_change_13 : decode cX3_change 13 = .ok (.iload 4, 2) := by decide +kernel
theorem dX3_change_15 : decode cX3_change 15 = .ok (.iload 5, 2) := by decide +kernel
theorem dX3_change_17 : decode cX3_change 17 = .ok (.invokestatic 53, 3) := by decide +kernel
theorem dX3_change_20 : decode cX3_change 20 = .ok (.ifCond .ne 5, 3) := by decide +kernel
theorem dX3_change_23 : decode cX3_change 23 = .ok (.iconst (-1), 1) := by decide +kernel
theorem dX3_change_24 : decode cX3_change 24 = .ok (.ireturn, 1) := by decide +kernel
theorem dX3_change_25 : decode cX3_change 25 = .ok (.aload_n 0, 1) := by decide +kernel
theorem dX3_change_26 : decode cX3_change 26 = .ok (.getfield 12, 3) := by decide +kernel
theorem dX3_change_29 : decode cX3_change 29 = .ok (.getfield 69, 3) := by decide +kernel
theorem dX3_change_32 : decode cX3_change 32 = .ok (.iload_n 1, 1) := by decide +kernel
theorem dX3_change_33 : decode cX3_change 33 = .ok (.iaload, 1) := by decide +kernel
theorem dX3_change_34 : decode cX3_change 34 = .ok (.istore 6, 2) := by decide +kernel
theorem dX3_change_36 : decode cX3_change 36 = .ok (.aload_n 0, 1) := by decide +kernel
theorem dX3_change_37 : decode cX3_change 37 = .ok (.getfield 12, 3) := by decide +kernel
theorem dX3_change_40 : decode cX3_change 40 = .ok (.iload_n 1, 1) := by decide +kernel
theorem dX3_change_41 : decode cX3_change 41 = .ok (.iload_n 2, 1) := by decide +kernel
theorem dX3_change_42 : decode cX3_change 42 = .ok (.iload_n 3, 1) := by decide +kernel
theorem dX3_change_43 : decode cX3_change 43 = .ok (.iload 4, 2) := by decide +kernel
theorem dX3_change_45 : decode cX3_change 45 = .ok (.iload 5, 2) := by decide +kernel
theorem dX3_change_47 : decode cX3_change 47 = .ok (.invokevirtual 61, 3) := by decide +kernel
theorem dX3_change_50 : decode cX3_change 50 = .ok (.aload_n 0, 1) := by decide +kernel
theorem dX3_change_51 : decode cX3_change 51 = .ok (.iconst 1, 1) := by decide +kernel
theorem dX3_change_52 : decode cX3_change 52 = .ok (.putfield 23, 3) := by decide +kernel
theorem dX3_change_55 : decode cX3_change 55 = .ok (.iload 6, 2) := by decide +kernel
theorem dX3_change_57 : decode cX3_change 57 = .ok (.ireturn, 1) := by decide +kernel
theorem dX3_drop_0 : decode cX3_drop 0 = .ok (.aload_n 0, 1) := by decide +kernel
theorem dX3_drop_1 : decode cX3_drop 1 = .ok (.getfield 12, 3) := by decide +kernel
theorem dX3_drop_4 : decode cX3_drop 4 = .ok (.getfield 57, 3) := by decide +kernel
theorem dX3_drop_7 : decode cX3_drop 7 = .ok (.ifCond .ne 6, 3) := by decide +kernel
theorem dX3_drop_10 : decode cX3_drop 10 = .ok (.bipush (-3), 2) := by decide +kernel
theorem dX3_drop_12 : decode cX3_drop 12 = .ok (.ireturn, 1) := by decide +kernel
theorem dX3_drop_13 : decode cX3_drop 13 = .ok (.aload_n 0, 1) := by decide +kernel
theorem dX3_drop_14 : decode cX3_drop 14 = .ok (.getfield 12, 3) := by decide +kernel
theorem dX3_drop_17 : decode cX3_drop 17 = .ok (.dup, 1) := by decide +kernel
theorem dX3_drop_18 : decode cX3_drop 18 = .ok (.getfield 57, 3) := by decide +kernel
theorem dX3_drop_21 : decode cX3_drop 21 = .ok (.iconst 1, 1) := by decide +kernel
theorem dX3_drop_22 : decode cX3_drop 22 = .ok (.isub, 1) := by decide +kernel
theorem dX3_drop_23 : decode cX3_drop 23 = .ok (.putfield 57, 3) := by decide +kernel
theorem dX3_drop_26 : decode cX3_drop 26 = .ok (.aload_n 0, 1) := by decide +kernel
theorem dX3_drop_27 : decode cX3_drop 27 = .ok (.iconst 1, 1) := by decide +kernel
theorem dX3_drop_28 : decode cX3_drop 28 = .ok (.putfield 23, 3) := by decide +kernel
theorem dX3_drop_31 : decode cX3_drop 31 = .ok (.aload_n 0, 1) := by decide +kernel
theorem dX3_drop_32 : decode cX3_drop 32 = .ok (.getfield 12, 3) := by decide +kernel
theorem dX3_drop_35 : decode cX3_drop 35 = .ok (.getfield 57, 3) := by decide +kernel
theorem dX3_drop_38 : decode cX3_drop 38 = .ok (.ireturn, 1) := by decide +kernel
theorem dX3_start_0 : decode cX3_start 0 = .ok (.iload_n 1, 1) := by decide +kernel
theorem dX3_start_1 : decode cX3_start 1 = .ok (.ifCond .lt 8, 3) := by decide +kernel
theorem dX3_start_4 : decode cX3_start 4 = .ok (.iload_n 1, 1) := by decide +kernel
theorem dX3_start_5 : decode cX3_start 5 = .ok (.iconst 4, 1) := by decide +kernel
theorem dX3_start_6 : decode cX3_start 6 = .ok (.if_icmp .lt 5, 3) := by decide +kernel
theorem dX3_start_9 : decode cX3_start 9 = .ok (.iconst (-1), 1) := by decide +kernel
theorem dX3_start_10 : decode cX3_start 10 = .ok (.ireturn, 1) := by decide +kernel
theorem dX3_start_11 : decode cX3_start 11 = .ok (.aload_n 0, 1) := by decide +kernel
theorem dX3_start_12 : decode cX3_start 12 = .ok (.getfield 12, 3) := by decide +kernel
theorem dX3_start_15 : decode cX3_start 15 = .ok (.getfield 72, 3) := by decide +kernel
theorem dX3_start_18 : decode cX3_start 18 = .ok (.iload_n 1, 1) := by decide +kernel
theorem dX3_start_19 : decode cX3_start 19 = .ok (.iload_n 2, 1) := by decide +kernel
theorem dX3_start_20 : decode cX3_start 20 = .ok (.iastore, 1) := by decide +kernel
theorem dX3_start_21 : decode cX3_start 21 = .ok (.aload_n 0, 1) := by decide +kernel
theorem dX3_start_22 : decode cX3_start 22 = .ok (.getfield 12, 3) := by decide +kernel
theorem dX3_start_25 : decode cX3_start 25 = .ok (.getfield 75, 3) := by decide +kernel
theorem dX3_start_28 : decode cX3_start 28 = .ok (.iload_n 1, 1) := by decide +kernel
theorem dX3_start_29 : decode cX3_start 29 = .ok (.iload_n 3, 1) := by decide +kernel
theorem dX3_start_30 : decode cX3_start 30 = .ok (.bastore, 1) := by decide +kernel
theorem dX3_start_31 : decode cX3_start 31 = .ok (.aload_n 0, 1) := by decide +kernel
theorem dX3_start_32 : decode cX3_start 32 = .ok (.iconst 1, 1) := by decide +kernel
theorem dX3_start_33 : decode cX3_start 33 = .ok (.putfield 23, 3) := by decide +kernel
theorem dX3_start_36 : decode cX3_start 36 = .ok (.iconst 1, 1) := by decide +kernel
theorem dX3_start_37 : decode cX3_start 37 = .ok (.ireturn, 1) := by decide +kernel
theorem dX3_points_0 : decode cX3_points 0 = .ok (.iload_n 1, 1) := by decide +kernel
theorem dX3_points_1 : decode cX3_points 1 = .ok (.ifCond .lt 19, 3) := by decide +kernel
theorem dX3_points_4 : decode cX3_points 4 = .ok (.iload_n 1, 1) := by decide +kernel
theorem dX3_points_5 : decode cX3_points 5 = .ok (.iconst 4, 1) := by decide +kernel
theorem dX3_points_6 : decode cX3_points 6 = .ok (.if_icmp .ge 14, 3) := by decide +kernel
theorem dX3_points_9 : decode cX3_points 9 = .ok (.iload_n 2, 1) := by decide +kernel
theorem dX3_points_10 : decode cX3_points 10 = .ok (.iconst 1, 1) := by decide +kernel
theorem dX3_points_11 : decode cX3_points 11 = .ok (.if_icmp .lt 9, 3) := by decide +kernel
theorem dX3_points_14 : decode cX3_points 14 = .ok (.iload_n 2, 1) := by decide +kernel
theorem dX3_points_15 : decode cX3_points 15 = .ok (.bipush 15, 2) := by decide +kernel
theorem dX3_points_17 : decode cX3_points 17 = .ok (.if_icmp .le 5, 3) := by decide +kernel
theorem dX3_points_20 : decode cX3_points 20 = .ok (.iconst (-1), 1) := by decide +kernel
theorem dX3_points_21 : decode cX3_points 21 = .ok (.ireturn, 1) := by decide +kernel
theorem dX3_points_22 : decode cX3_points 22 = .ok (.aload_n 0, 1) := by decide +kernel
theorem dX3_points_23 : decode cX3_points 23 = .ok (.getfield 12, 3) := by decide +kernel
theorem dX3_points_26 : decode cX3_points 26 = .ok (.getfield 79, 3) := by decide +kernel
theorem dX3_points_29 : decode cX3_points 29 = .ok (.iload_n 1, 1) := by decide +kernel
theorem dX3_points_30 : decode cX3_points 30 = .ok (.iaload, 1) := by decide +kernel
theorem dX3_points_31 : decode cX3_points 31 = .ok (.istore_n 3, 1) := by decide +kernel
theorem dX3_points_32 : decode cX3_points 32 = .ok (.aload_n 0, 1) := by decide +kernel
theorem dX3_points_33 : decode cX3_points 33 = .ok (.getfield 12, 3) := by decide +kernel
theorem dX3_points_36 : decode cX3_points 36 = .ok (.getfield 79, 3) := by decide +kernel
theorem dX3_points_39 : decode cX3_points 39 = .ok (.iload_n 1, 1) := by decide +kernel
theorem dX3_points_40 : decode cX3_points 40 = .ok (.iload_n 2, 1) := by decide +kernel
theorem dX3_points_41 : decode cX3_points 41 = .ok (.iastore, 1) := by decide +kernel
theorem dX3_points_42 : decode cX3_points 42 = .ok (.aload_n 0, 1) := by decide +kernel
theorem dX3_points_43 : decode cX3_points 43 = .ok (.iconst 1, 1) := by decide +kernel
theorem dX3_points_44 : decode cX3_points 44 = .ok (.putfield 23, 3) := by decide +kernel
theorem dX3_points_47 : decode cX3_points 47 = .ok (.iload_n 3, 1) := by decide +kernel
theorem dX3_points_48 : decode cX3_points 48 = .ok (.ireturn, 1) := by decide +kernel
theorem dX3_input_0 : decode cX3_input 0 = .ok (.iload_n 1, 1) := by decide +kernel
theorem dX3_input_1 : decode cX3_input 1 = .ok (.ifCond .lt 8, 3) := by decide +kernel
theorem dX3_input_4 : decode cX3_input 4 = .ok (.iload_n 1, 1) := by decide +kernel
theorem dX3_input_5 : decode cX3_input 5 = .ok (.iconst 4, 1) := by decide +kernel
theorem dX3_input_6 : decode cX3_input 6 = .ok (.if_icmp .lt 5, 3) := by decide +kernel
theorem dX3_input_9 : decode cX3_input 9 = .ok (.iconst (-1), 1) := by decide +kernel
theorem dX3_input_10 : decode cX3_input 10 = .ok (.ireturn, 1) := by decide +kernel
theorem dX3_input_11 : decode cX3_input 11 = .ok (.aload_n 0, 1) := by decide +kernel
theorem dX3_input_12 : decode cX3_input 12 = .ok (.getfield 27, 3) := by decide +kernel
theorem dX3_input_15 : decode cX3_input 15 = .ok (.iload_n 1, 1) := by decide +kernel
theorem dX3_input_16 : decode cX3_input 16 = .ok (.iload_n 2, 1) := by decide +kernel
theorem dX3_input_17 : decode cX3_input 17 = .ok (.iastore, 1) := by decide +kernel
theorem dX3_input_18 : decode cX3_input 18 = .ok (.iconst 1, 1) := by decide +kernel
theorem dX3_input_19 : decode cX3_input 19 = .ok (.ireturn, 1) := by decide +kernel
theorem dX3_run_0 : decode cX3_run 0 = .ok (.aload_n 0, 1) := by decide +kernel
theorem dX3_run_1 : decode cX3_run 1 = .ok (.getfield 12, 3) := by decide +kernel
theorem dX3_run_4 : decode cX3_run 4 = .ok (.iload_n 2, 1) := by decide +kernel
theorem dX3_run_5 : decode cX3_run 5 = .ok (.invokevirtual 65, 3) := by decide +kernel
theorem dX3_run_8 : decode cX3_run 8 = .ok (.ifCond .eq 20, 3) := by decide +kernel
theorem dX3_run_11 : decode cX3_run 11 = .ok (.iload_n 1, 1) := by decide +kernel
theorem dX3_run_12 : decode cX3_run 12 = .ok (.bipush (-4), 2) := by decide +kernel
theorem dX3_run_14 : decode cX3_run 14 = .ok (.if_icmp .eq 16, 3) := by decide +kernel
theorem dX3_run_17 : decode cX3_run 17 = .ok (.aload_n 0, 1) := by decide +kernel
theorem dX3_run_18 : decode cX3_run 18 = .ok (.getfield 12, 3) := by decide +kernel
theorem dX3_run_21 : decode cX3_run 21 = .ok (.iload_n 1, 1) := by decide +kernel
theorem dX3_run_22 : decode cX3_run 22 = .ok (.invokevirtual 65, 3) := by decide +kernel
theorem dX3_run_25 : decode cX3_run 25 = .ok (.ifCond .ne 5, 3) := by decide +kernel
theorem dX3_run_28 : decode cX3_run 28 = .ok (.iconst (-1), 1) := by decide +kernel
theorem dX3_run_29 : decode cX3_run 29 = .ok (.ireturn, 1) := by decide +kernel
theorem dX3_run_30 : decode cX3_run 30 = .ok (.aload_n 0, 1) := by decide +kernel
theorem dX3_run_31 : decode cX3_run 31 = .ok (.dup, 1) := by decide +kernel
theorem dX3_run_32 : decode cX3_run 32 = .ok (.getfield 82, 3) := by decide +kernel
theorem dX3_run_35 : decode cX3_run 35 = .ok (.iconst 1, 1) := by decide +kernel
theorem dX3_run_36 : decode cX3_run 36 = .ok (.iadd, 1) := by decide +kernel
theorem dX3_run_37 : decode cX3_run 37 = .ok (.putfield 82, 3) := by decide +kernel
theorem dX3_run_40 : decode cX3_run 40 = .ok (.iload_n 1, 1) := by decide +kernel
theorem dX3_run_41 : decode cX3_run 41 = .ok (.bipush (-4), 2) := by decide +kernel
theorem dX3_run_43 : decode cX3_run 43 = .ok (.if_icmp .ne 13, 3) := by decide +kernel
theorem dX3_run_46 : decode cX3_run 46 = .ok (.aload_n 0, 1) := by decide +kernel
theorem dX3_run_47 : decode cX3_run 47 = .ok (.getfield 12, 3) := by decide +kernel
theorem dX3_run_50 : decode cX3_run 50 = .ok (.invokevirtual 85, 3) := by decide +kernel
theorem dX3_run_53 : decode cX3_run 53 = .ok (.goto 11, 3) := by decide +kernel
theorem dX3_run_56 : decode cX3_run 56 = .ok (.aload_n 0, 1) := by decide +kernel
theorem dX3_run_57 : decode cX3_run 57 = .ok (.invokevirtual 89, 3) := by decide +kernel
theorem dX3_run_60 : decode cX3_run 60 = .ok (.iload_n 1, 1) := by decide +kernel
theorem dX3_run_61 : decode cX3_run 61 = .ok (.invokevirtual 93, 3) := by decide +kernel
theorem dX3_run_64 : decode cX3_run 64 = .ok (.istore_n 3, 1) := by decide +kernel
theorem dX3_run_65 : decode cX3_run 65 = .ok (.aload_n 0, 1) := by decide +kernel
theorem dX3_run_66 : decode cX3_run 66 = .ok (.getfield 39, 3) := by decide +kernel
theorem dX3_run_69 : decode cX3_run 69 = .ok (.aload_n 0, 1) := by decide +kernel
theorem dX3_run_70 : decode cX3_run 70 = .ok (.getfield 12, 3) := by decide +kernel
theorem dX3_run_73 : decode cX3_run 73 = .ok (.aload_n 0, 1) := by decide +kernel
theorem dX3_run_74 : decode cX3_run 74 = .ok (.getfield 27, 3) := by decide +kernel
theorem dX3_run_77 : decode cX3_run 77 = .ok (.iload_n 3, 1) := by decide +kernel
theorem dX3_run_78 : decode cX3_run 78 = .ok (.iload_n 2, 1) := by decide +kernel
theorem dX3_run_79 : decode cX3_run 79 = .ok (.invokevirtual 97, 3) := by decide +kernel
theorem dX3_run_82 : decode cX3_run 82 = .ok (.ireturn, 1) := by decide +kernel
theorem dX3_seen_0 : decode cX3_seen 0 = .ok (.aload_n 0, 1) := by decide +kernel
theorem dX3_seen_1 : decode cX3_seen 1 = .ok (.getfield 39, 3) := by decide +kernel
theorem dX3_seen_4 : decode cX3_seen 4 = .ok (.getfield 101, 3) := by decide +kernel
theorem dX3_seen_7 : decode cX3_seen 7 = .ok (.ireturn, 1) := by decide +kernel
theorem dX3_saw_0 : decode cX3_saw 0 = .ok (.iload_n 1, 1) := by decide +kernel
theorem dX3_saw_1 : decode cX3_saw 1 = .ok (.ifCond .lt 26, 3) := by decide +kernel
theorem dX3_saw_4 : decode cX3_saw 4 = .ok (.iload_n 1, 1) := by decide +kernel
theorem dX3_saw_5 : decode cX3_saw 5 = .ok (.aload_n 0, 1) := by decide +kernel
theorem dX3_saw_6 : decode cX3_saw 6 = .ok (.getfield 39, 3) := by decide +kernel
theorem dX3_saw_9 : decode cX3_saw 9 = .ok (.getfield 101, 3) := by decide +kernel
theorem dX3_saw_12 : decode cX3_saw 12 = .ok (.if_icmp .ge 15, 3) := by decide +kernel
theorem dX3_saw_15 : decode cX3_saw 15 = .ok (.aload_n 0, 1) := by decide +kernel
theorem dX3_saw_16 : decode cX3_saw 16 = .ok (.getfield 39, 3) := by decide +kernel
theorem dX3_saw_19 : decode cX3_saw 19 = .ok (.getfield 104, 3) := by decide +kernel
theorem dX3_saw_22 : decode cX3_saw 22 = .ok (.iload_n 1, 1) := by decide +kernel
theorem dX3_saw_23 : decode cX3_saw 23 = .ok (.iaload, 1) := by decide +kernel
theorem dX3_saw_24 : decode cX3_saw 24 = .ok (.goto 4, 3) := by decide +kernel
theorem dX3_saw_27 : decode cX3_saw 27 = .ok (.iconst 0, 1) := by decide +kernel
theorem dX3_saw_28 : decode cX3_saw 28 = .ok (.ireturn, 1) := by decide +kernel
theorem dX3_left_0 : decode cX3_left 0 = .ok (.iload_n 1, 1) := by decide +kernel
theorem dX3_left_1 : decode cX3_left 1 = .ok (.ifCond .ne 11, 3) := by decide +kernel
theorem dX3_left_4 : decode cX3_left 4 = .ok (.aload_n 0, 1) := by decide +kernel
theorem dX3_left_5 : decode cX3_left 5 = .ok (.getfield 39, 3) := by decide +kernel
theorem dX3_left_8 : decode cX3_left 8 = .ok (.getfield 107, 3) := by decide +kernel
theorem dX3_left_11 : decode cX3_left 11 = .ok (.ireturn, 1) := by decide +kernel
theorem dX3_left_12 : decode cX3_left 12 = .ok (.iload_n 1, 1) := by decide +kernel
theorem dX3_left_13 : decode cX3_left 13 = .ok (.iconst 1, 1) := by decide +kernel
theorem dX3_left_14 : decode cX3_left 14 = .ok (.if_icmp .ne 11, 3) := by decide +kernel
theorem dX3_left_17 : decode cX3_left 17 = .ok (.aload_n 0, 1) := by decide +kernel
theorem dX3_left_18 : decode cX3_left 18 = .ok (.getfield 39, 3) := by decide +kernel
theorem dX3_left_21 : decode cX3_left 21 = .ok (.getfield 110, 3) := by decide +kernel
theorem dX3_left_24 : decode cX3_left 24 = .ok (.ireturn, 1) := by decide +kernel
theorem dX3_left_25 : decode cX3_left 25 = .ok (.iload_n 1, 1) := by decide +kernel
theorem dX3_left_26 : decode cX3_left 26 = .ok (.iconst 2, 1) := by decide +kernel
theorem dX3_left_27 : decode cX3_left 27 = .ok (.if_icmp .lt 23, 3) := by decide +kernel
theorem dX3_left_30 : decode cX3_left 30 = .ok (.iload_n 1, 1) := by decide +kernel
theorem dX3_left_31 : decode cX3_left 31 = .ok (.bipush 10, 2) := by decide +kernel
theorem dX3_left_33 : decode cX3_left 33 = .ok (.if_icmp .ge 17, 3) := by decide +kernel
theorem dX3_left_36 : decode cX3_left 36 = .ok (.aload_n 0, 1) := by decide +kernel
theorem dX3_left_37 : decode cX3_left 37 = .ok (.getfield 39, 3) := by decide +kernel
theorem dX3_left_40 : decode cX3_left 40 = .ok (.getfield 113, 3) := by decide +kernel
theorem dX3_left_43 : decode cX3_left 43 = .ok (.iload_n 1, 1) := by decide +kernel
theorem dX3_left_44 : decode cX3_left 44 = .ok (.iconst 2, 1) := by decide +kernel
theorem dX3_left_45 : decode cX3_left 45 = .ok (.isub, 1) := by decide +kernel
theorem dX3_left_46 : decode cX3_left 46 = .ok (.iaload, 1) := by decide +kernel
theorem dX3_left_47 : decode cX3_left 47 = .ok (.goto 4, 3) := by decide +kernel
theorem dX3_left_50 : decode cX3_left 50 = .ok (.iconst 0, 1) := by decide +kernel
theorem dX3_left_51 : decode cX3_left 51 = .ok (.ireturn, 1) := by decide +kernel
theorem dX3_slice_0 : decode cX3_slice 0 = .ok (.aload_n 0, 1) := by decide +kernel
theorem dX3_slice_1 : decode cX3_slice 1 = .ok (.getfield 12, 3) := by decide +kernel
theorem dX3_slice_4 : decode cX3_slice 4 = .ok (.iload_n 1, 1) := by decide +kernel
theorem dX3_slice_5 : decode cX3_slice 5 = .ok (.invokevirtual 65, 3) := by decide +kernel
theorem dX3_slice_8 : decode cX3_slice 8 = .ok (.ifCond .ne 5, 3) := by decide +kernel
theorem dX3_slice_11 : decode cX3_slice 11 = .ok (.iconst (-1), 1) := by decide +kernel
theorem dX3_slice_12 : decode cX3_slice 12 = .ok (.ireturn, 1) := by decide +kernel
theorem dX3_slice_13 : decode cX3_slice 13 = .ok (.iload_n 2, 1) := by decide +kernel
theorem dX3_slice_14 : decode cX3_slice 14 = .ok (.tableswitch 66 0 3 #[30, 39, 48, 57], 30) := by decide +kernel
theorem dX3_slice_44 : decode cX3_slice 44 = .ok (.aload_n 0, 1) := by decide +kernel
theorem dX3_slice_45 : decode cX3_slice 45 = .ok (.invokevirtual 89, 3) := by decide +kernel
theorem dX3_slice_48 : decode cX3_slice 48 = .ok (.iload_n 1, 1) := by decide +kernel
theorem dX3_slice_49 : decode cX3_slice 49 = .ok (.invokevirtual 93, 3) := by decide +kernel
theorem dX3_slice_52 : decode cX3_slice 52 = .ok (.ireturn, 1) := by decide +kernel
theorem dX3_slice_53 : decode cX3_slice 53 = .ok (.aload_n 0, 1) := by decide +kernel
theorem dX3_slice_54 : decode cX3_slice 54 = .ok (.invokevirtual 89, 3) := by decide +kernel
theorem dX3_slice_57 : decode cX3_slice 57 = .ok (.iload_n 1, 1) := by decide +kernel
theorem dX3_slice_58 : decode cX3_slice 58 = .ok (.invokevirtual 116, 3) := by decide +kernel
theorem dX3_slice_61 : decode cX3_slice 61 = .ok (.ireturn, 1) := by decide +kernel
theorem dX3_slice_62 : decode cX3_slice 62 = .ok (.aload_n 0, 1) := by decide +kernel
theorem dX3_slice_63 : decode cX3_slice 63 = .ok (.invokevirtual 89, 3) := by decide +kernel
theorem dX3_slice_66 : decode cX3_slice 66 = .ok (.iload_n 1, 1) := by decide +kernel
theorem dX3_slice_67 : decode cX3_slice 67 = .ok (.invokevirtual 119, 3) := by decide +kernel
theorem dX3_slice_70 : decode cX3_slice 70 = .ok (.ireturn, 1) := by decide +kernel
theorem dX3_slice_71 : decode cX3_slice 71 = .ok (.aload_n 0, 1) := by decide +kernel
theorem dX3_slice_72 : decode cX3_slice 72 = .ok (.invokevirtual 89, 3) := by decide +kernel
theorem dX3_slice_75 : decode cX3_slice 75 = .ok (.iload_n 1, 1) := by decide +kernel
theorem dX3_slice_76 : decode cX3_slice 76 = .ok (.invokevirtual 122, 3) := by decide +kernel
theorem dX3_slice_79 : decode cX3_slice 79 = .ok (.ireturn, 1) := by decide +kernel
theorem dX3_slice_80 : decode cX3_slice 80 = .ok (.iconst (-1), 1) := by decide +kernel
theorem dX3_slice_81 : decode cX3_slice 81 = .ok (.ireturn, 1) := by decide +kernel
theorem dX3_follows_0 : decode cX3_follows 0 = .ok (.aload_n 0, 1) := by decide +kernel
theorem dX3_follows_1 : decode cX3_follows 1 = .ok (.getfield 12, 3) := by decide +kernel
theorem dX3_follows_4 : decode cX3_follows 4 = .ok (.iload_n 1, 1) := by decide +kernel
theorem dX3_follows_5 : decode cX3_follows 5 = .ok (.invokevirtual 65, 3) := by decide +kernel
theorem dX3_follows_8 : decode cX3_follows 8 = .ok (.ifCond .eq 14, 3) := by decide +kernel
theorem dX3_follows_11 : decode cX3_follows 11 = .ok (.aload_n 0, 1) := by decide +kernel
theorem dX3_follows_12 : decode cX3_follows 12 = .ok (.invokevirtual 89, 3) := by decide +kernel
theorem dX3_follows_15 : decode cX3_follows 15 = .ok (.iload_n 1, 1) := by decide +kernel
theorem dX3_follows_16 : decode cX3_follows 16 = .ok (.invokevirtual 125, 3) := by decide +kernel
theorem dX3_follows_19 : decode cX3_follows 19 = .ok (.goto 4, 3) := by decide +kernel
theorem dX3_follows_22 : decode cX3_follows 22 = .ok (.iconst (-1), 1) := by decide +kernel
theorem dX3_follows_23 : decode cX3_follows 23 = .ok (.ireturn, 1) := by decide +kernel
theorem dX3_causes_0 : decode cX3_causes 0 = .ok (.aload_n 0, 1) := by decide +kernel
theorem dX3_causes_1 : decode cX3_causes 1 = .ok (.getfield 12, 3) := by decide +kernel
theorem dX3_causes_4 : decode cX3_causes 4 = .ok (.iload_n 1, 1) := by decide +kernel
theorem dX3_causes_5 : decode cX3_causes 5 = .ok (.invokevirtual 65, 3) := by decide +kernel
theorem dX3_causes_8 : decode cX3_causes 8 = .ok (.ifCond .eq 14, 3) := by decide +kernel
theorem dX3_causes_11 : decode cX3_causes 11 = .ok (.aload_n 0, 1) := by decide +kernel
theorem dX3_causes_12 : decode cX3_causes 12 = .ok (.invokevirtual 89, 3) := by decide +kernel
theorem dX3_causes_15 : decode cX3_causes 15 = .ok (.iload_n 1, 1) := by decide +kernel
theorem dX3_causes_16 : decode cX3_causes 16 = .ok (.invokevirtual 128, 3) := by decide +kernel
theorem dX3_causes_19 : decode cX3_causes 19 = .ok (.goto 4, 3) := by decide +kernel
theorem dX3_causes_22 : decode cX3_causes 22 = .ok (.iconst (-1), 1) := by decide +kernel
theorem dX3_causes_23 : decode cX3_causes 23 = .ok (.ireturn, 1) := by decide +kernel
theorem dX3_cause_0 : decode cX3_cause 0 = .ok (.aload_n 0, 1) := by decide +kernel
theorem dX3_cause_1 : decode cX3_cause 1 = .ok (.getfield 12, 3) := by decide +kernel
theorem dX3_cause_4 : decode cX3_cause 4 = .ok (.iload_n 1, 1) := by decide +kernel
theorem dX3_cause_5 : decode cX3_cause 5 = .ok (.invokevirtual 65, 3) := by decide +kernel
theorem dX3_cause_8 : decode cX3_cause 8 = .ok (.ifCond .eq 16, 3) := by decide +kernel
theorem dX3_cause_11 : decode cX3_cause 11 = .ok (.iload_n 2, 1) := by decide +kernel
theorem dX3_cause_12 : decode cX3_cause 12 = .ok (.ifCond .lt 12, 3) := by decide +kernel
theorem dX3_cause_15 : decode cX3_cause 15 = .ok (.iload_n 3, 1) := by decide +kernel
theorem dX3_cause_16 : decode cX3_cause 16 = .ok (.ifCond .lt 8, 3) := by decide +kernel
theorem dX3_cause_19 : decode cX3_cause 19 = .ok (.iload_n 3, 1) := by decide +kernel
theorem dX3_cause_20 : decode cX3_cause 20 = .ok (.iconst 1, 1) := by decide +kernel
theorem dX3_cause_21 : decode cX3_cause 21 = .ok (.if_icmp .le 5, 3) := by decide +kernel
theorem dX3_cause_24 : decode cX3_cause 24 = .ok (.iconst (-1), 1) := by decide +kernel
theorem dX3_cause_25 : decode cX3_cause 25 = .ok (.ireturn, 1) := by decide +kernel
theorem dX3_cause_26 : decode cX3_cause 26 = .ok (.aload_n 0, 1) := by decide +kernel
theorem dX3_cause_27 : decode cX3_cause 27 = .ok (.invokevirtual 89, 3) := by decide +kernel
theorem dX3_cause_30 : decode cX3_cause 30 = .ok (.iload_n 1, 1) := by decide +kernel
theorem dX3_cause_31 : decode cX3_cause 31 = .ok (.iload_n 2, 1) := by decide +kernel
theorem dX3_cause_32 : decode cX3_cause 32 = .ok (.iload_n 3, 1) := by decide +kernel
theorem dX3_cause_33 : decode cX3_cause 33 = .ok (.iconst 1, 1) := by decide +kernel
theorem dX3_cause_34 : decode cX3_cause 34 = .ok (.if_icmp .ne 7, 3) := by decide +kernel
theorem dX3_cause_37 : decode cX3_cause 37 = .ok (.iconst 1, 1) := by decide +kernel
theorem dX3_cause_38 : decode cX3_cause 38 = .ok (.goto 4, 3) := by decide +kernel
theorem dX3_cause_41 : decode cX3_cause 41 = .ok (.iconst 0, 1) := by decide +kernel
theorem dX3_cause_42 : decode cX3_cause 42 = .ok (.invokevirtual 131, 3) := by decide +kernel
theorem dX3_cause_45 : decode cX3_cause 45 = .ok (.ireturn, 1) := by decide +kernel
theorem dX3_chop_0 : decode cX3_chop 0 = .ok (.aload_n 0, 1) := by decide +kernel
theorem dX3_chop_1 : decode cX3_chop 1 = .ok (.getfield 12, 3) := by decide +kernel
theorem dX3_chop_4 : decode cX3_chop 4 = .ok (.iload_n 1, 1) := by decide +kernel
theorem dX3_chop_5 : decode cX3_chop 5 = .ok (.invokevirtual 65, 3) := by decide +kernel
theorem dX3_chop_8 : decode cX3_chop 8 = .ok (.ifCond .eq 14, 3) := by decide +kernel
theorem dX3_chop_11 : decode cX3_chop 11 = .ok (.aload_n 0, 1) := by decide +kernel
theorem dX3_chop_12 : decode cX3_chop 12 = .ok (.getfield 12, 3) := by decide +kernel
theorem dX3_chop_15 : decode cX3_chop 15 = .ok (.iload_n 2, 1) := by decide +kernel
theorem dX3_chop_16 : decode cX3_chop 16 = .ok (.invokevirtual 65, 3) := by decide +kernel
theorem dX3_chop_19 : decode cX3_chop 19 = .ok (.ifCond .ne 5, 3) := by decide +kernel
theorem dX3_chop_22 : decode cX3_chop 22 = .ok (.iconst (-1), 1) := by decide +kernel
theorem dX3_chop_23 : decode cX3_chop 23 = .ok (.ireturn, 1) := by decide +kernel
theorem dX3_chop_24 : decode cX3_chop 24 = .ok (.aload_n 0, 1) := by decide +kernel
theorem dX3_chop_25 : decode cX3_chop 25 = .ok (.invokevirtual 89, 3) := by decide +kernel
theorem dX3_chop_28 : decode cX3_chop 28 = .ok (.iload_n 1, 1) := by decide +kernel
theorem dX3_chop_29 : decode cX3_chop 29 = .ok (.invokevirtual 119, 3) := by decide +kernel
theorem dX3_chop_32 : decode cX3_chop 32 = .ok (.aload_n 0, 1) := by decide +kernel
theorem dX3_chop_33 : decode cX3_chop 33 = .ok (.invokevirtual 89, 3) := by decide +kernel
theorem dX3_chop_36 : decode cX3_chop 36 = .ok (.iload_n 2, 1) := by decide +kernel
theorem dX3_chop_37 : decode cX3_chop 37 = .ok (.invokevirtual 93, 3) := by decide +kernel
theorem dX3_chop_40 : decode cX3_chop 40 = .ok (.iand, 1) := by decide +kernel
theorem dX3_chop_41 : decode cX3_chop 41 = .ok (.ireturn, 1) := by decide +kernel
theorem dX3_way_0 : decode cX3_way 0 = .ok (.aload_n 0, 1) := by decide +kernel
theorem dX3_way_1 : decode cX3_way 1 = .ok (.getfield 12, 3) := by decide +kernel
theorem dX3_way_4 : decode cX3_way 4 = .ok (.iload_n 1, 1) := by decide +kernel
theorem dX3_way_5 : decode cX3_way 5 = .ok (.invokevirtual 65, 3) := by decide +kernel
theorem dX3_way_8 : decode cX3_way 8 = .ok (.ifCond .eq 14, 3) := by decide +kernel
theorem dX3_way_11 : decode cX3_way 11 = .ok (.aload_n 0, 1) := by decide +kernel
theorem dX3_way_12 : decode cX3_way 12 = .ok (.getfield 12, 3) := by decide +kernel
theorem dX3_way_15 : decode cX3_way 15 = .ok (.iload_n 2, 1) := by decide +kernel
theorem dX3_way_16 : decode cX3_way 16 = .ok (.invokevirtual 65, 3) := by decide +kernel
theorem dX3_way_19 : decode cX3_way 19 = .ok (.ifCond .ne 5, 3) := by decide +kernel
theorem dX3_way_22 : decode cX3_way 22 = .ok (.iconst (-1), 1) := by decide +kernel
theorem dX3_way_23 : decode cX3_way 23 = .ok (.ireturn, 1) := by decide +kernel
theorem dX3_way_24 : decode cX3_way 24 = .ok (.aload_n 0, 1) := by decide +kernel
theorem dX3_way_25 : decode cX3_way 25 = .ok (.invokevirtual 89, 3) := by decide +kernel
theorem dX3_way_28 : decode cX3_way 28 = .ok (.iload_n 1, 1) := by decide +kernel
theorem dX3_way_29 : decode cX3_way 29 = .ok (.invokevirtual 93, 3) := by decide +kernel
theorem dX3_way_32 : decode cX3_way 32 = .ok (.iload_n 2, 1) := by decide +kernel
theorem dX3_way_33 : decode cX3_way 33 = .ok (.invokestatic 135, 3) := by decide +kernel
theorem dX3_way_36 : decode cX3_way 36 = .ok (.ifCond .ne 6, 3) := by decide +kernel
theorem dX3_way_39 : decode cX3_way 39 = .ok (.bipush (-4), 2) := by decide +kernel
theorem dX3_way_41 : decode cX3_way 41 = .ok (.ireturn, 1) := by decide +kernel
theorem dX3_way_42 : decode cX3_way 42 = .ok (.aload_n 0, 1) := by decide +kernel
theorem dX3_way_43 : decode cX3_way 43 = .ok (.aload_n 0, 1) := by decide +kernel
theorem dX3_way_44 : decode cX3_way 44 = .ok (.invokevirtual 89, 3) := by decide +kernel
theorem dX3_way_47 : decode cX3_way 47 = .ok (.iload_n 1, 1) := by decide +kernel
theorem dX3_way_48 : decode cX3_way 48 = .ok (.iload_n 2, 1) := by decide +kernel
theorem dX3_way_49 : decode cX3_way 49 = .ok (.aload_n 0, 1) := by decide +kernel
theorem dX3_way_50 : decode cX3_way 50 = .ok (.getfield 50, 3) := by decide +kernel
theorem dX3_way_53 : decode cX3_way 53 = .ok (.invokevirtual 139, 3) := by decide +kernel
theorem dX3_way_56 : decode cX3_way 56 = .ok (.putfield 143, 3) := by decide +kernel
theorem dX3_way_59 : decode cX3_way 59 = .ok (.aload_n 0, 1) := by decide +kernel
theorem dX3_way_60 : decode cX3_way 60 = .ok (.getfield 143, 3) := by decide +kernel
theorem dX3_way_63 : decode cX3_way 63 = .ok (.ireturn, 1) := by decide +kernel
theorem dX3_on_0 : decode cX3_on 0 = .ok (.iload_n 1, 1) := by decide +kernel
theorem dX3_on_1 : decode cX3_on 1 = .ok (.ifCond .lt 20, 3) := by decide +kernel
theorem dX3_on_4 : decode cX3_on 4 = .ok (.iload_n 1, 1) := by decide +kernel
theorem dX3_on_5 : decode cX3_on 5 = .ok (.aload_n 0, 1) := by decide +kernel
theorem dX3_on_6 : decode cX3_on 6 = .ok (.getfield 143, 3) := by decide +kernel
theorem dX3_on_9 : decode cX3_on 9 = .ok (.if_icmp .ge 12, 3) := by decide +kernel
theorem dX3_on_12 : decode cX3_on 12 = .ok (.aload_n 0, 1) := by decide +kernel
theorem dX3_on_13 : decode cX3_on 13 = .ok (.getfield 50, 3) := by decide +kernel
theorem dX3_on_16 : decode cX3_on 16 = .ok (.iload_n 1, 1) := by decide +kernel
theorem dX3_on_17 : decode cX3_on 17 = .ok (.iaload, 1) := by decide +kernel
theorem dX3_on_18 : decode cX3_on 18 = .ok (.goto 5, 3) := by decide +kernel
theorem dX3_on_21 : decode cX3_on 21 = .ok (.bipush (-4), 2) := by decide +kernel
theorem dX3_on_23 : decode cX3_on 23 = .ok (.ireturn, 1) := by decide +kernel
theorem dX3_same_0 : decode cX3_same 0 = .ok (.aload_n 0, 1) := by decide +kernel
theorem dX3_same_1 : decode cX3_same 1 = .ok (.getfield 12, 3) := by decide +kernel
theorem dX3_same_4 : decode cX3_same 4 = .ok (.iload_n 1, 1) := by decide +kernel
theorem dX3_same_5 : decode cX3_same 5 = .ok (.invokevirtual 65, 3) := by decide +kernel
theorem dX3_same_8 : decode cX3_same 8 = .ok (.ifCond .ne 5, 3) := by decide +kernel
theorem dX3_same_11 : decode cX3_same 11 = .ok (.iconst (-1), 1) := by decide +kernel
theorem dX3_same_12 : decode cX3_same 12 = .ok (.ireturn, 1) := by decide +kernel
theorem dX3_same_13 : decode cX3_same 13 = .ok (.aload_n 0, 1) := by decide +kernel
theorem dX3_same_14 : decode cX3_same 14 = .ok (.getfield 43, 3) := by decide +kernel
theorem dX3_same_17 : decode cX3_same 17 = .ok (.iconst 0, 1) := by decide +kernel
theorem dX3_same_18 : decode cX3_same 18 = .ok (.aaload, 1) := by decide +kernel
theorem dX3_same_19 : decode cX3_same 19 = .ok (.aload_n 0, 1) := by decide +kernel
theorem dX3_same_20 : decode cX3_same 20 = .ok (.getfield 12, 3) := by decide +kernel
theorem dX3_same_23 : decode cX3_same 23 = .ok (.aload_n 0, 1) := by decide +kernel
theorem dX3_same_24 : decode cX3_same 24 = .ok (.getfield 27, 3) := by decide +kernel
theorem dX3_same_27 : decode cX3_same 27 = .ok (.aload_n 0, 1) := by decide +kernel
theorem dX3_same_28 : decode cX3_same 28 = .ok (.getfield 12, 3) := by decide +kernel
theorem dX3_same_31 : decode cX3_same 31 = .ok (.invokevirtual 85, 3) := by decide +kernel
theorem dX3_same_34 : decode cX3_same 34 = .ok (.iload_n 1, 1) := by decide +kernel
theorem dX3_same_35 : decode cX3_same 35 = .ok (.invokevirtual 97, 3) := by decide +kernel
theorem dX3_same_38 : decode cX3_same 38 = .ok (.iconst 2, 1) := by decide +kernel
theorem dX3_same_39 : decode cX3_same 39 = .ok (.if_icmp .ne 5, 3) := by decide +kernel
theorem dX3_same_42 : decode cX3_same 42 = .ok (.iconst 2, 1) := by decide +kernel
theorem dX3_same_43 : decode cX3_same 43 = .ok (.ireturn, 1) := by decide +kernel
theorem dX3_same_44 : decode cX3_same 44 = .ok (.aload_n 0, 1) := by decide +kernel
theorem dX3_same_45 : decode cX3_same 45 = .ok (.getfield 47, 3) := by decide +kernel
theorem dX3_same_48 : decode cX3_same 48 = .ok (.aload_n 0, 1) := by decide +kernel
theorem dX3_same_49 : decode cX3_same 49 = .ok (.getfield 12, 3) := by decide +kernel
theorem dX3_same_52 : decode cX3_same 52 = .ok (.aload_n 0, 1) := by decide +kernel
theorem dX3_same_53 : decode cX3_same 53 = .ok (.getfield 27, 3) := by decide +kernel
theorem dX3_same_56 : decode cX3_same 56 = .ok (.aload_n 0, 1) := by decide +kernel
theorem dX3_same_57 : decode cX3_same 57 = .ok (.invokevirtual 89, 3) := by decide +kernel
theorem dX3_same_60 : decode cX3_same 60 = .ok (.iload_n 1, 1) := by decide +kernel
theorem dX3_same_61 : decode cX3_same 61 = .ok (.invokevirtual 93, 3) := by decide +kernel
theorem dX3_same_64 : decode cX3_same 64 = .ok (.iload_n 1, 1) := by decide +kernel
theorem dX3_same_65 : decode cX3_same 65 = .ok (.invokevirtual 97, 3) := by decide +kernel
theorem dX3_same_68 : decode cX3_same 68 = .ok (.pop, 1) := by decide +kernel
theorem dX3_same_69 : decode cX3_same 69 = .ok (.aload_n 0, 1) := by decide +kernel
theorem dX3_same_70 : decode cX3_same 70 = .ok (.getfield 47, 3) := by decide +kernel
theorem dX3_same_73 : decode cX3_same 73 = .ok (.aload_n 0, 1) := by decide +kernel
theorem dX3_same_74 : decode cX3_same 74 = .ok (.getfield 43, 3) := by decide +kernel
theorem dX3_same_77 : decode cX3_same 77 = .ok (.iconst 0, 1) := by decide +kernel
theorem dX3_same_78 : decode cX3_same 78 = .ok (.aaload, 1) := by decide +kernel
theorem dX3_same_79 : decode cX3_same 79 = .ok (.invokevirtual 146, 3) := by decide +kernel
theorem dX3_same_82 : decode cX3_same 82 = .ok (.ifCond .eq 7, 3) := by decide +kernel
theorem dX3_same_85 : decode cX3_same 85 = .ok (.iconst 1, 1) := by decide +kernel
theorem dX3_same_86 : decode cX3_same 86 = .ok (.goto 4, 3) := by decide +kernel
theorem dX3_same_89 : decode cX3_same 89 = .ok (.iconst 0, 1) := by decide +kernel
theorem dX3_same_90 : decode cX3_same 90 = .ok (.ireturn, 1) := by decide +kernel
theorem dX3_test_0 : decode cX3_test 0 = .ok (.aload_n 0, 1) := by decide +kernel
theorem dX3_test_1 : decode cX3_test 1 = .ok (.getfield 150, 3) := by decide +kernel
theorem dX3_test_4 : decode cX3_test 4 = .ok (.iconst 3, 1) := by decide +kernel
theorem dX3_test_5 : decode cX3_test 5 = .ok (.if_icmp .lt 6, 3) := by decide +kernel
theorem dX3_test_8 : decode cX3_test 8 = .ok (.bipush (-2), 2) := by decide +kernel
theorem dX3_test_10 : decode cX3_test 10 = .ok (.ireturn, 1) := by decide +kernel
theorem dX3_test_11 : decode cX3_test 11 = .ok (.aload_n 0, 1) := by decide +kernel
theorem dX3_test_12 : decode cX3_test 12 = .ok (.getfield 27, 3) := by decide +kernel
theorem dX3_test_15 : decode cX3_test 15 = .ok (.iconst 0, 1) := by decide +kernel
theorem dX3_test_16 : decode cX3_test 16 = .ok (.aload_n 0, 1) := by decide +kernel
theorem dX3_test_17 : decode cX3_test 17 = .ok (.getfield 33, 3) := by decide +kernel
theorem dX3_test_20 : decode cX3_test 20 = .ok (.aload_n 0, 1) := by decide +kernel
theorem dX3_test_21 : decode cX3_test 21 = .ok (.getfield 150, 3) := by decide +kernel
theorem dX3_test_24 : decode cX3_test 24 = .ok (.aaload, 1) := by decide +kernel
theorem dX3_test_25 : decode cX3_test 25 = .ok (.iconst 0, 1) := by decide +kernel
theorem dX3_test_26 : decode cX3_test 26 = .ok (.iconst 4, 1) := by decide +kernel
theorem dX3_test_27 : decode cX3_test 27 = .ok (.invokestatic 153, 3) := by decide +kernel
theorem dX3_test_30 : decode cX3_test 30 = .ok (.aload_n 0, 1) := by decide +kernel
theorem dX3_test_31 : decode cX3_test 31 = .ok (.dup, 1) := by decide +kernel
theorem dX3_test_32 : decode cX3_test 32 = .ok (.getfield 150, 3) := by decide +kernel
theorem dX3_test_35 : decode cX3_test 35 = .ok (.iconst 1, 1) := by decide +kernel
theorem dX3_test_36 : decode cX3_test 36 = .ok (.iadd, 1) := by decide +kernel
theorem dX3_test_37 : decode cX3_test 37 = .ok (.putfield 150, 3) := by decide +kernel
theorem dX3_test_40 : decode cX3_test 40 = .ok (.aload_n 0, 1) := by decide +kernel
theorem dX3_test_41 : decode cX3_test 41 = .ok (.getfield 150, 3) := by decide +kernel
theorem dX3_test_44 : decode cX3_test 44 = .ok (.iconst 1, 1) := by decide +kernel
theorem dX3_test_45 : decode cX3_test 45 = .ok (.isub, 1) := by decide +kernel
theorem dX3_test_46 : decode cX3_test 46 = .ok (.ireturn, 1) := by decide +kernel
theorem dX3_untest_0 : decode cX3_untest 0 = .ok (.aload_n 0, 1) := by decide +kernel
theorem dX3_untest_1 : decode cX3_untest 1 = .ok (.getfield 150, 3) := by decide +kernel
theorem dX3_untest_4 : decode cX3_untest 4 = .ok (.istore_n 1, 1) := by decide +kernel
theorem dX3_untest_5 : decode cX3_untest 5 = .ok (.aload_n 0, 1) := by decide +kernel
theorem dX3_untest_6 : decode cX3_untest 6 = .ok (.iconst 0, 1) := by decide +kernel
theorem dX3_untest_7 : decode cX3_untest 7 = .ok (.putfield 150, 3) := by decide +kernel
theorem dX3_untest_10 : decode cX3_untest 10 = .ok (.iload_n 1, 1) := by decide +kernel
theorem dX3_untest_11 : decode cX3_untest 11 = .ok (.ireturn, 1) := by decide +kernel
theorem dX3_least_0 : decode cX3_least 0 = .ok (.aload_n 0, 1) := by decide +kernel
theorem dX3_least_1 : decode cX3_least 1 = .ok (.getfield 12, 3) := by decide +kernel
theorem dX3_least_4 : decode cX3_least 4 = .ok (.iload_n 1, 1) := by decide +kernel
theorem dX3_least_5 : decode cX3_least 5 = .ok (.invokevirtual 65, 3) := by decide +kernel
theorem dX3_least_8 : decode cX3_least 8 = .ok (.ifCond .ne 5, 3) := by decide +kernel
theorem dX3_least_11 : decode cX3_least 11 = .ok (.iconst (-1), 1) := by decide +kernel
theorem dX3_least_12 : decode cX3_least 12 = .ok (.ireturn, 1) := by decide +kernel
theorem dX3_least_13 : decode cX3_least 13 = .ok (.aload_n 0, 1) := by decide +kernel
theorem dX3_least_14 : decode cX3_least 14 = .ok (.getfield 150, 3) := by decide +kernel
theorem dX3_least_17 : decode cX3_least 17 = .ok (.ifCond .eq 11, 3) := by decide +kernel
theorem dX3_least_20 : decode cX3_least 20 = .ok (.aload_n 0, 1) := by decide +kernel
theorem dX3_least_21 : decode cX3_least 21 = .ok (.iload_n 1, 1) := by decide +kernel
theorem dX3_least_22 : decode cX3_least 22 = .ok (.invokevirtual 159, 3) := by decide +kernel
theorem dX3_least_25 : decode cX3_least 25 = .ok (.ifCond .eq 6, 3) := by decide +kernel
theorem dX3_least_28 : decode cX3_least 28 = .ok (.bipush (-3), 2) := by decide +kernel
theorem dX3_least_30 : decode cX3_least 30 = .ok (.ireturn, 1) := by decide +kernel
theorem dX3_least_31 : decode cX3_least 31 = .ok (.aload_n 0, 1) := by decide +kernel
theorem dX3_least_32 : decode cX3_least 32 = .ok (.invokevirtual 89, 3) := by decide +kernel
theorem dX3_least_35 : decode cX3_least 35 = .ok (.iload_n 1, 1) := by decide +kernel
theorem dX3_least_36 : decode cX3_least 36 = .ok (.invokevirtual 93, 3) := by decide +kernel
theorem dX3_least_39 : decode cX3_least 39 = .ok (.istore_n 2, 1) := by decide +kernel
theorem dX3_least_40 : decode cX3_least 40 = .ok (.iconst 1, 1) := by decide +kernel
theorem dX3_least_41 : decode cX3_least 41 = .ok (.istore_n 3, 1) := by decide +kernel
theorem dX3_least_42 : decode cX3_least 42 = .ok (.iconst 0, 1) := by decide +kernel
theorem dX3_least_43 : decode cX3_least 43 = .ok (.istore 4, 2) := by decide +kernel
theorem dX3_least_45 : decode cX3_least 45 = .ok (.iload_n 3, 1) := by decide +kernel
theorem dX3_least_46 : decode cX3_least 46 = .ok (.ifCond .eq 39, 3) := by decide +kernel
theorem dX3_least_49 : decode cX3_least 49 = .ok (.iload 4, 2) := by decide +kernel
theorem dX3_least_51 : decode cX3_least 51 = .ok (.bipush 24, 2) := by decide +kernel
theorem dX3_least_53 : decode cX3_least 53 = .ok (.if_icmp .ge 32, 3) := by decide +kernel
theorem dX3_least_56 : decode cX3_least 56 = .ok (.aload_n 0, 1) := by decide +kernel
theorem dX3_least_57 : decode cX3_least 57 = .ok (.iload_n 2, 1) := by decide +kernel
theorem dX3_least_58 : decode cX3_least 58 = .ok (.iload_n 1, 1) := by decide +kernel
theorem dX3_least_59 : decode cX3_least 59 = .ok (.invokevirtual 162, 3) := by decide +kernel
theorem dX3_least_62 : decode cX3_least 62 = .ok (.istore 5, 2) := by decide +kernel
theorem dX3_least_64 : decode cX3_least 64 = .ok (.iload 5, 2) := by decide +kernel
theorem dX3_least_66 : decode cX3_least 66 = .ok (.iload_n 2, 1) := by decide +kernel
theorem dX3_least_67 : decode cX3_least 67 = .ok (.if_icmp .eq 7, 3) := by decide +kernel
theorem dX3_least_70 : decode cX3_least 70 = .ok (.iconst 1, 1) := by decide +kernel
theorem dX3_least_71 : decode cX3_least 71 = .ok (.goto 4, 3) := by decide +kernel
theorem dX3_least_74 : decode cX3_least 74 = .ok (.iconst 0, 1) := by decide +kernel
theorem dX3_least_75 : decode cX3_least 75 = .ok (.istore_n 3, 1) := by decide +kernel
theorem dX3_least_76 : decode cX3_least 76 = .ok (.iload 5, 2) := by decide +kernel
theorem dX3_least_78 : decode cX3_least 78 = .ok (.istore_n 2, 1) := by decide +kernel
theorem dX3_least_79 : decode cX3_least 79 = .ok (.iinc 4 1, 3) := by decide +kernel
theorem dX3_least_82 : decode cX3_least 82 = .ok (.goto (-37), 3) := by decide +kernel
theorem dX3_least_85 : decode cX3_least 85 = .ok (.iload_n 2, 1) := by decide +kernel
theorem dX3_least_86 : decode cX3_least 86 = .ok (.ireturn, 1) := by decide +kernel
theorem dX3_count_0 : decode cX3_count 0 = .ok (.iload_n 1, 1) := by decide +kernel
theorem dX3_count_1 : decode cX3_count 1 = .ok (.tableswitch 45 0 2 #[27, 35, 40], 27) := by decide +kernel
theorem dX3_count_28 : decode cX3_count 28 = .ok (.aload_n 0, 1) := by decide +kernel
theorem dX3_count_29 : decode cX3_count 29 = .ok (.getfield 12, 3) := by decide +kernel
theorem dX3_count_32 : decode cX3_count 32 = .ok (.getfield 57, 3) := by decide +kernel
theorem dX3_count_35 : decode cX3_count 35 = .ok (.ireturn, 1) := by decide +kernel
theorem dX3_count_36 : decode cX3_count 36 = .ok (.aload_n 0, 1) := by decide +kernel
theorem dX3_count_37 : decode cX3_count 37 = .ok (.getfield 150, 3) := by decide +kernel
theorem dX3_count_40 : decode cX3_count 40 = .ok (.ireturn, 1) := by decide +kernel
theorem dX3_count_41 : decode cX3_count 41 = .ok (.aload_n 0, 1) := by decide +kernel
theorem dX3_count_42 : decode cX3_count 42 = .ok (.getfield 82, 3) := by decide +kernel
theorem dX3_count_45 : decode cX3_count 45 = .ok (.ireturn, 1) := by decide +kernel
theorem dX3_count_46 : decode cX3_count 46 = .ok (.iconst (-1), 1) := by decide +kernel
theorem dX3_count_47 : decode cX3_count 47 = .ok (.ireturn, 1) := by decide +kernel
theorem dX3_reasonsNow_0 : decode cX3_reasonsNow 0 = .ok (.aload_n 0, 1) := by decide +kernel
theorem dX3_reasonsNow_1 : decode cX3_reasonsNow 1 = .ok (.getfield 23, 3) := by decide +kernel
theorem dX3_reasonsNow_4 : decode cX3_reasonsNow 4 = .ok (.ifCond .eq 19, 3) := by decide +kernel
theorem dX3_reasonsNow_7 : decode cX3_reasonsNow 7 = .ok (.aload_n 0, 1) := by decide +kernel
theorem dX3_reasonsNow_8 : decode cX3_reasonsNow 8 = .ok (.getfield 19, 3) := by decide +kernel
theorem dX3_reasonsNow_11 : decode cX3_reasonsNow 11 = .ok (.aload_n 0, 1) := by decide +kernel
theorem dX3_reasonsNow_12 : decode cX3_reasonsNow 12 = .ok (.getfield 12, 3) := by decide +kernel
theorem dX3_reasonsNow_15 : decode cX3_reasonsNow 15 = .ok (.invokevirtual 166, 3) := by decide +kernel
theorem dX3_reasonsNow_18 : decode cX3_reasonsNow 18 = .ok (.aload_n 0, 1) := by decide +kernel
theorem dX3_reasonsNow_19 : decode cX3_reasonsNow 19 = .ok (.iconst 0, 1) := by decide +kernel
theorem dX3_reasonsNow_20 : decode cX3_reasonsNow 20 = .ok (.putfield 23, 3) := by decide +kernel
theorem dX3_reasonsNow_23 : decode cX3_reasonsNow 23 = .ok (.aload_n 0, 1) := by decide +kernel
theorem dX3_reasonsNow_24 : decode cX3_reasonsNow 24 = .ok (.getfield 19, 3) := by decide +kernel
theorem dX3_reasonsNow_27 : decode cX3_reasonsNow 27 = .ok (.areturn, 1) := by decide +kernel
theorem dX3_wholeIsSpentInATest_0 : decode cX3_wholeIsSpentInATest 0 = .ok (.iconst 0, 1) := by decide +kernel
theorem dX3_wholeIsSpentInATest_1 : decode cX3_wholeIsSpentInATest 1 = .ok (.istore_n 2, 1) := by decide +kernel
theorem dX3_wholeIsSpentInATest_2 : decode cX3_wholeIsSpentInATest 2 = .ok (.iconst 0, 1) := by decide +kernel
theorem dX3_wholeIsSpentInATest_3 : decode cX3_wholeIsSpentInATest 3 = .ok (.istore_n 3, 1) := by decide +kernel
theorem dX3_wholeIsSpentInATest_4 : decode cX3_wholeIsSpentInATest 4 = .ok (.iload_n 3, 1) := by decide +kernel
theorem dX3_wholeIsSpentInATest_5 : decode cX3_wholeIsSpentInATest 5 = .ok (.aload_n 0, 1) := by decide +kernel
theorem dX3_wholeIsSpentInATest_6 : decode cX3_wholeIsSpentInATest 6 = .ok (.getfield 150, 3) := by decide +kernel
theorem dX3_wholeIsSpentInATest_9 : decode cX3_wholeIsSpentInATest 9 = .ok (.if_icmp .ge 48, 3) := by decide +kernel
theorem dX3_wholeIsSpentInATest_12 : decode cX3_wholeIsSpentInATest 12 = .ok (.iload_n 2, 1) := by decide +kernel
theorem dX3_wholeIsSpentInATest_13 : decode cX3_wholeIsSpentInATest 13 = .ok (.aload_n 0, 1) := by decide +kernel
theorem dX3_wholeIsSpentInATest_14 : decode cX3_wholeIsSpentInATest 14 = .ok (.getfield 43, 3) := by decide +kernel
theorem dX3_wholeIsSpentInATest_17 : decode cX3_wholeIsSpentInATest 17 = .ok (.iload_n 3, 1) := by decide +kernel
theorem dX3_wholeIsSpentInATest_18 : decode cX3_wholeIsSpentInATest 18 = .ok (.aaload, 1) := by decide +kernel
theorem dX3_wholeIsSpentInATest_19 : decode cX3_wholeIsSpentInATest 19 = .ok (.aload_n 0, 1) := by decide +kernel
theorem dX3_wholeIsSpentInATest_20 : decode cX3_wholeIsSpentInATest 20 = .ok (.getfield 12, 3) := by decide +kernel
theorem dX3_wholeIsSpentInATest_23 : decode cX3_wholeIsSpentInATest 23 = .ok (.aload_n 0, 1) := by decide +kernel
theorem dX3_wholeIsSpentInATest_24 : decode cX3_wholeIsSpentInATest 24 = .ok (.getfield 33, 3) := by decide +kernel
theorem dX3_wholeIsSpentInATest_27 : decode cX3_wholeIsSpentInATest 27 = .ok (.iload_n 3, 1) := by decide +kernel
theorem dX3_wholeIsSpentInATest_28 : decode cX3_wholeIsSpentInATest 28 = .ok (.aaload, 1) := by decide +kernel
theorem dX3_wholeIsSpentInATest_29 : decode cX3_wholeIsSpentInATest 29 = .ok (.aload_n 0, 1) := by decide +kernel
theorem dX3_wholeIsSpentInATest_30 : decode cX3_wholeIsSpentInATest 30 = .ok (.getfield 12, 3) := by decide +kernel
theorem dX3_wholeIsSpentInATest_33 : decode cX3_wholeIsSpentInATest 33 = .ok (.invokevirtual 85, 3) := by decide +kernel
theorem dX3_wholeIsSpentInATest_36 : decode cX3_wholeIsSpentInATest 36 = .ok (.iload_n 1, 1) := by decide +kernel
theorem dX3_wholeIsSpentInATest_37 : decode cX3_wholeIsSpentInATest 37 = .ok (.invokevirtual 97, 3) := by decide +kernel
theorem dX3_wholeIsSpentInATest_40 : decode cX3_wholeIsSpentInATest 40 = .ok (.iconst 2, 1) := by decide +kernel
theorem dX3_wholeIsSpentInATest_41 : decode cX3_wholeIsSpentInATest 41 = .ok (.if_icmp .ne 7, 3) := by decide +kernel
theorem dX3_wholeIsSpentInATest_44 : decode cX3_wholeIsSpentInATest 44 = .ok (.iconst 1, 1) := by decide +kernel
theorem dX3_wholeIsSpentInATest_45 : decode cX3_wholeIsSpentInATest 45 = .ok (.goto 4, 3) := by decide +kernel
theorem dX3_wholeIsSpentInATest_48 : decode cX3_wholeIsSpentInATest 48 = .ok (.iconst 0, 1) := by decide +kernel
theorem dX3_wholeIsSpentInATest_49 : decode cX3_wholeIsSpentInATest 49 = .ok (.ior, 1) := by decide +kernel
theorem dX3_wholeIsSpentInATest_50 : decode cX3_wholeIsSpentInATest 50 = .ok (.istore_n 2, 1) := by decide +kernel
theorem dX3_wholeIsSpentInATest_51 : decode cX3_wholeIsSpentInATest 51 = .ok (.iinc 3 1, 3) := by decide +kernel
theorem dX3_wholeIsSpentInATest_54 : decode cX3_wholeIsSpentInATest 54 = .ok (.goto (-50), 3) := by decide +kernel
