theorem dX0_init_0 : decode cX0_init 0 = .ok (.aload_n 0, 1) := by decide +kernel
theorem dX0_init_1 : decode cX0_init 1 = .ok (.invokespecial 3, 3) := by decide +kernel
theorem dX0_init_4 : decode cX0_init 4 = .ok (.aload_n 0, 1) := by decide +kernel
theorem dX0_init_5 : decode cX0_init 5 = .ok (.bipush 8, 2) := by decide +kernel
theorem dX0_init_7 : decode cX0_init 7 = .ok (.newarray .int, 2) := by decide +kernel
theorem dX0_init_9 : decode cX0_init 9 = .ok (.putfield 9, 3) := by decide +kernel
theorem dX0_init_12 : decode cX0_init 12 = .ok (.aload_n 0, 1) := by decide +kernel
theorem dX0_init_13 : decode cX0_init 13 = .ok (.bipush 32, 2) := by decide +kernel
theorem dX0_init_15 : decode cX0_init 15 = .ok (.newarray .int, 2) := by decide +kernel
theorem dX0_init_17 : decode cX0_init 17 = .ok (.putfield 15, 3) := by decide +kernel
theorem dX0_init_20 : decode cX0_init 20 = .ok (.aload_n 0, 1) := by decide +kernel
theorem dX0_init_21 : decode cX0_init 21 = .ok (.iconst 4, 1) := by decide +kernel
theorem dX0_init_22 : decode cX0_init 22 = .ok (.newarray .int, 2) := by decide +kernel
theorem dX0_init_24 : decode cX0_init 24 = .ok (.putfield 18, 3) := by decide +kernel
theorem dX0_init_27 : decode cX0_init 27 = .ok (.aload_n 0, 1) := by decide +kernel
theorem dX0_init_28 : decode cX0_init 28 = .ok (.iconst 4, 1) := by decide +kernel
theorem dX0_init_29 : decode cX0_init 29 = .ok (.newarray .int, 2) := by decide +kernel
theorem dX0_init_31 : decode cX0_init 31 = .ok (.putfield 21, 3) := by decide +kernel
theorem dX0_init_34 : decode cX0_init 34 = .ok (.aload_n 0, 1) := by decide +kernel
theorem dX0_init_35 : decode cX0_init 35 = .ok (.bipush 100, 2) := by decide +kernel
theorem dX0_init_37 : decode cX0_init 37 = .ok (.newarray .int, 2) := by decide +kernel
theorem dX0_init_39 : decode cX0_init 39 = .ok (.putfield 24, 3) := by decide +kernel
theorem dX0_init_42 : decode cX0_init 42 = .ok (.aload_n 0, 1) := by decide +kernel
theorem dX0_init_43 : decode cX0_init 43 = .ok (.bipush (-4), 2) := by decide +kernel
theorem dX0_init_45 : decode cX0_init 45 = .ok (.putfield 27, 3) := by decide +kernel
theorem dX0_init_48 : decode cX0_init 48 = .ok (.return_, 1) := by decide +kernel
theorem dX0_perform_0 : decode cX0_perform 0 = .ok (.aload_n 0, 1) := by decide +kernel
theorem dX0_perform_1 : decode cX0_perform 1 = .ok (.aload_n 1, 1) := by decide +kernel
theorem dX0_perform_2 : decode cX0_perform 2 = .ok (.aload_n 2, 1) := by decide +kernel
theorem dX0_perform_3 : decode cX0_perform 3 = .ok (.invokevirtual 31, 3) := by decide +kernel
theorem dX0_perform_6 : decode cX0_perform 6 = .ok (.iconst 0, 1) := by decide +kernel
theorem dX0_perform_7 : decode cX0_perform 7 = .ok (.iload_n 3, 1) := by decide +kernel
theorem dX0_perform_8 : decode cX0_perform 8 = .ok (.aload_n 1, 1) := by decide +kernel
theorem dX0_perform_9 : decode cX0_perform 9 = .ok (.getfield 35, 3) := by decide +kernel
theorem dX0_perform_12 : decode cX0_perform 12 = .ok (.invokestatic 40, 3) := by decide +kernel
theorem dX0_perform_15 : decode cX0_perform 15 = .ok (.istore 5, 2) := by decide +kernel
theorem dX0_perform_17 : decode cX0_perform 17 = .ok (.iload 5, 2) := by decide +kernel
theorem dX0_perform_19 : decode cX0_perform 19 = .ok (.aload_n 1, 1) := by decide +kernel
theorem dX0_perform_20 : decode cX0_perform 20 = .ok (.getfield 35, 3) := by decide +kernel
theorem dX0_perform_23 : decode cX0_perform 23 = .ok (.if_icmp .ge 97, 3) := by decide +kernel
theorem dX0_perform_26 : decode cX0_perform 26 = .ok (.aload_n 0, 1) := by decide +kernel
theorem dX0_perform_27 : decode cX0_perform 27 = .ok (.getfield 44, 3) := by decide +kernel
theorem dX0_perform_30 : decode cX0_perform 30 = .ok (.bipush 100, 2) := by decide +kernel
theorem dX0_perform_32 : decode cX0_perform 32 = .ok (.if_icmp .ge 88, 3) := by decide +kernel
theorem dX0_perform_35 : decode cX0_perform 35 = .ok (.aload_n 0, 1) := by decide +kernel
theorem dX0_perform_36 : decode cX0_perform 36 = .ok (.dup, 1) := by decide +kernel
theorem dX0_perform_37 : decode cX0_perform 37 = .ok (.getfield 44, 3) := by decide +kernel
theorem dX0_perform_40 : decode cX0_perform 40 = .ok (.iconst 1, 1) := by decide +kernel
theorem dX0_perform_41 : decode cX0_perform 41 = .ok (.iadd, 1) := by decide +kernel
theorem dX0_perform_42 : decode cX0_perform 42 = .ok (.putfield 44, 3) := by decide +kernel
theorem dX0_perform_45 : decode cX0_perform 45 = .ok (.aload_n 0, 1) := by decide +kernel
theorem dX0_perform_46 : decode cX0_perform 46 = .ok (.aload_n 1, 1) := by decide +kernel
theorem dX0_perform_47 : decode cX0_perform 47 = .ok (.aload_n 2, 1) := by decide +kernel
theorem dX0_perform_48 : decode cX0_perform 48 = .ok (.iload 5, 2) := by decide +kernel
theorem dX0_perform_50 : decode cX0_perform 50 = .ok (.invokevirtual 47, 3) := by decide +kernel
theorem dX0_perform_53 : decode cX0_perform 53 = .ok (.istore 6, 2) := by decide +kernel
theorem dX0_perform_55 : decode cX0_perform 55 = .ok (.iload 5, 2) := by decide +kernel
theorem dX0_perform_57 : decode cX0_perform 57 = .ok (.iload 4, 2) := by decide +kernel
theorem dX0_perform_59 : decode cX0_perform 59 = .ok (.if_icmp .ne 35, 3) := by decide +kernel
theorem dX0_perform_62 : decode cX0_perform 62 = .ok (.aload_n 0, 1) := by decide +kernel
theorem dX0_perform_63 : decode cX0_perform 63 = .ok (.getfield 51, 3) := by decide +kernel
theorem dX0_perform_66 : decode cX0_perform 66 = .ok (.bipush 100, 2) := by decide +kernel
theorem dX0_perform_68 : decode cX0_perform 68 = .ok (.if_icmp .ge 26, 3) := by decide +kernel
theorem dX0_perform_71 : decode cX0_perform 71 = .ok (.aload_n 0, 1) := by decide +kernel
theorem dX0_perform_72 : decode cX0_perform 72 = .ok (.getfield 24, 3) := by decide +kernel
theorem dX0_perform_75 : decode cX0_perform 75 = .ok (.aload_n 0, 1) := by decide +kernel
theorem dX0_perform_76 : decode cX0_perform 76 = .ok (.getfield 51, 3) := by decide +kernel
theorem dX0_perform_79 : decode cX0_perform 79 = .ok (.aload_n 0, 1) := by decide +kernel
theorem dX0_perform_80 : decode cX0_perform 80 = .ok (.getfield 54, 3) := by decide +kernel
theorem dX0_perform_83 : decode cX0_perform 83 = .ok (.iastore, 1) := by decide +kernel
theorem dX0_perform_84 : decode cX0_perform 84 = .ok (.aload_n 0, 1) := by decide +kernel
theorem dX0_perform_85 : decode cX0_perform 85 = .ok (.dup, 1) := by decide +kernel
theorem dX0_perform_86 : decode cX0_perform 86 = .ok (.getfield 51, 3) := by decide +kernel
theorem dX0_perform_89 : decode cX0_perform 89 = .ok (.iconst 1, 1) := by decide +kernel
theorem dX0_perform_90 : decode cX0_perform 90 = .ok (.iadd, 1) := by decide +kernel
theorem dX0_perform_91 : decode cX0_perform 91 = .ok (.putfield 51, 3) := by decide +kernel
theorem dX0_perform_94 : decode cX0_perform 94 = .ok (.aload_n 0, 1) := by decide +kernel
theorem dX0_perform_95 : decode cX0_perform 95 = .ok (.getfield 27, 3) := by decide +kernel
theorem dX0_perform_98 : decode cX0_perform 98 = .ok (.bipush (-4), 2) := by decide +kernel
theorem dX0_perform_100 : decode cX0_perform 100 = .ok (.if_icmp .eq 5, 3) := by decide +kernel
theorem dX0_perform_103 : decode cX0_perform 103 = .ok (.iconst 1, 1) := by decide +kernel
theorem dX0_perform_104 : decode cX0_perform 104 = .ok (.ireturn, 1) := by decide +kernel
theorem dX0_perform_105 : decode cX0_perform 105 = .ok (.iload 6, 2) := by decide +kernel
theorem dX0_perform_107 : decode cX0_perform 107 = .ok (.iload_n 3, 1) := by decide +kernel
theorem dX0_perform_108 : decode cX0_perform 108 = .ok (.aload_n 1, 1) := by decide +kernel
theorem dX0_perform_109 : decode cX0_perform 109 = .ok (.getfield 35, 3) := by decide +kernel
theorem dX0_perform_112 : decode cX0_perform 112 = .ok (.invokestatic 40, 3) := by decide +kernel
theorem dX0_perform_115 : decode cX0_perform 115 = .ok (.istore 5, 2) := by decide +kernel
theorem dX0_perform_117 : decode cX0_perform 117 = .ok (.goto (-100), 3) := by decide +kernel
theorem dX0_perform_120 : decode cX0_perform 120 = .ok (.iload 5, 2) := by decide +kernel
theorem dX0_perform_122 : decode cX0_perform 122 = .ok (.aload_n 1, 1) := by decide +kernel
theorem dX0_perform_123 : decode cX0_perform 123 = .ok (.getfield 35, 3) := by decide +kernel
theorem dX0_perform_126 : decode cX0_perform 126 = .ok (.if_icmp .ge 7, 3) := by decide +kernel
theorem dX0_perform_129 : decode cX0_perform 129 = .ok (.iconst 2, 1) := by decide +kernel
theorem dX0_perform_130 : decode cX0_perform 130 = .ok (.goto 4, 3) := by decide +kernel
theorem dX0_perform_133 : decode cX0_perform 133 = .ok (.iconst 0, 1) := by decide +kernel
theorem dX0_perform_134 : decode cX0_perform 134 = .ok (.ireturn, 1) := by decide +kernel
theorem dX0_begin_0 : decode cX0_begin 0 = .ok (.iconst 0, 1) := by decide +kernel
theorem dX0_begin_1 : decode cX0_begin 1 = .ok (.istore_n 3, 1) := by decide +kernel
theorem dX0_begin_2 : decode cX0_begin 2 = .ok (.iload_n 3, 1) := by decide +kernel
theorem dX0_begin_3 : decode cX0_begin 3 = .ok (.bipush 8, 2) := by decide +kernel
theorem dX0_begin_5 : decode cX0_begin 5 = .ok (.if_icmp .ge 16, 3) := by decide +kernel
theorem dX0_begin_8 : decode cX0_begin 8 = .ok (.aload_n 0, 1) := by decide +kernel
theorem dX0_begin_9 : decode cX0_begin 9 = .ok (.getfield 9, 3) := by decide +kernel
theorem dX0_begin_12 : decode cX0_begin 12 = .ok (.iload_n 3, 1) := by decide +kernel
theorem dX0_begin_13 : decode cX0_begin 13 = .ok (.iconst 0, 1) := by decide +kernel
theorem dX0_begin_14 : decode cX0_begin 14 = .ok (.iastore, 1) := by decide +kernel
theorem dX0_begin_15 : decode cX0_begin 15 = .ok (.iinc 3 1, 3) := by decide +kernel
theorem dX0_begin_18 : decode cX0_begin 18 = .ok (.goto (-16), 3) := by decide +kernel
theorem dX0_begin_21 : decode cX0_begin 21 = .ok (.iconst 0, 1) := by decide +kernel
theorem dX0_begin_22 : decode cX0_begin 22 = .ok (.istore_n 3, 1) := by decide +kernel
theorem dX0_begin_23 : decode cX0_begin 23 = .ok (.iload_n 3, 1) := by decide +kernel
theorem dX0_begin_24 : decode cX0_begin 24 = .ok (.bipush 32, 2) := by decide +kernel
theorem dX0_begin_26 : decode cX0_begin 26 = .ok (.if_icmp .ge 16, 3) := by decide +kernel
theorem dX0_begin_29 : decode cX0_begin 29 = .ok (.aload_n 0, 1) := by decide +kernel
theorem dX0_begin_30 : decode cX0_begin 30 = .ok (.getfield 15, 3) := by decide +kernel
theorem dX0_begin_33 : decode cX0_begin 33 = .ok (.iload_n 3, 1) := by decide +kernel
theorem dX0_begin_34 : decode cX0_begin 34 = .ok (.iconst 0, 1) := by decide +kernel
theorem dX0_begin_35 : decode cX0_begin 35 = .ok (.iastore, 1) := by decide +kernel
theorem dX0_begin_36 : decode cX0_begin 36 = .ok (.iinc 3 1, 3) := by decide +kernel
theorem dX0_begin_39 : decode cX0_begin 39 = .ok (.goto (-16), 3) := by decide +kernel
theorem dX0_begin_42 : decode cX0_begin 42 = .ok (.iconst 0, 1) := by decide +kernel
theorem dX0_begin_43 : decode cX0_begin 43 = .ok (.istore_n 3, 1) := by decide +kernel
theorem dX0_begin_44 : decode cX0_begin 44 = .ok (.iload_n 3, 1) := by decide +kernel
theorem dX0_begin_45 : decode cX0_begin 45 = .ok (.iconst 4, 1) := by decide +kernel
theorem dX0_begin_46 : decode cX0_begin 46 = .ok (.if_icmp .ge 21, 3) := by decide +kernel
theorem dX0_begin_49 : decode cX0_begin 49 = .ok (.aload_n 0, 1) := by decide +kernel
theorem dX0_begin_50 : decode cX0_begin 50 = .ok (.getfield 18, 3) := by decide +kernel
theorem dX0_begin_53 : decode cX0_begin 53 = .ok (.iload_n 3, 1) := by decide +kernel
theorem dX0_begin_54 : decode cX0_begin 54 = .ok (.aload_n 1, 1) := by decide +kernel
theorem dX0_begin_55 : decode cX0_begin 55 = .ok (.getfield 57, 3) := by decide +kernel
theorem dX0_begin_58 : decode cX0_begin 58 = .ok (.iload_n 3, 1) := by decide +kernel
theorem dX0_begin_59 : decode cX0_begin 59 = .ok (.iaload, 1) := by decide +kernel
theorem dX0_begin_60 : decode cX0_begin 60 = .ok (.iastore, 1) := by decide +kernel
theorem dX0_begin_61 : decode cX0_begin 61 = .ok (.iinc 3 1, 3) := by decide +kernel
theorem dX0_begin_64 : decode cX0_begin 64 = .ok (.goto (-20), 3) := by decide +kernel
theorem dX0_begin_67 : decode cX0_begin 67 = .ok (.iconst 0, 1) := by decide +kernel
theorem dX0_begin_68 : decode cX0_begin 68 = .ok (.istore_n 3, 1) := by decide +kernel
theorem dX0_begin_69 : decode cX0_begin 69 = .ok (.iload_n 3, 1) := by decide +kernel
theorem dX0_begin_70 : decode cX0_begin 70 = .ok (.iconst 4, 1) := by decide +kernel
theorem dX0_begin_71 : decode cX0_begin 71 = .ok (.if_icmp .ge 30, 3) := by decide +kernel
theorem dX0_begin_74 : decode cX0_begin 74 = .ok (.aload_n 0, 1) := by decide +kernel
theorem dX0_begin_75 : decode cX0_begin 75 = .ok (.getfield 21, 3) := by decide +kernel
theorem dX0_begin_78 : decode cX0_begin 78 = .ok (.iload_n 3, 1) := by decide +kernel
theorem dX0_begin_79 : decode cX0_begin 79 = .ok (.aload_n 1, 1) := by decide +kernel
theorem dX0_begin_80 : decode cX0_begin 80 = .ok (.getfield 60, 3) := by decide +kernel
theorem dX0_begin_83 : decode cX0_begin 83 = .ok (.iload_n 3, 1) := by decide +kernel
theorem dX0_begin_84 : decode cX0_begin 84 = .ok (.iaload, 1) := by decide +kernel
theorem dX0_begin_85 : decode cX0_begin 85 = .ok (.aload_n 2, 1) := by decide +kernel
theorem dX0_begin_86 : decode cX0_begin 86 = .ok (.iconst 3, 1) := by decide +kernel
theorem dX0_begin_87 : decode cX0_begin 87 = .ok (.iaload, 1) := by decide +kernel
theorem dX0_begin_88 : decode cX0_begin 88 = .ok (.ldc 63, 2) := by decide +kernel
theorem dX0_begin_90 : decode cX0_begin 90 = .ok (.iand, 1) := by decide +kernel
theorem dX0_begin_91 : decode cX0_begin 91 = .ok (.invokestatic 64, 3) := by decide +kernel
theorem dX0_begin_94 : decode cX0_begin 94 = .ok (.iastore, 1) := by decide +kernel
theorem dX0_begin_95 : decode cX0_begin 95 = .ok (.iinc 3 1, 3) := by decide +kernel
theorem dX0_begin_98 : decode cX0_begin 98 = .ok (.goto (-29), 3) := by decide +kernel
theorem dX0_begin_101 : decode cX0_begin 101 = .ok (.aload_n 0, 1) := by decide +kernel
theorem dX0_begin_102 : decode cX0_begin 102 = .ok (.iconst 0, 1) := by decide +kernel
theorem dX0_begin_103 : decode cX0_begin 103 = .ok (.putfield 51, 3) := by decide +kernel
theorem dX0_begin_106 : decode cX0_begin 106 = .ok (.aload_n 0, 1) := by decide +kernel
theorem dX0_begin_107 : decode cX0_begin 107 = .ok (.iconst 0, 1) := by decide +kernel
theorem dX0_begin_108 : decode cX0_begin 108 = .ok (.putfield 44, 3) := by decide +kernel
theorem dX0_begin_111 : decode cX0_begin 111 = .ok (.aload_n 0, 1) := by decide +kernel
theorem dX0_begin_112 : decode cX0_begin 112 = .ok (.bipush (-4), 2) := by decide +kernel
theorem dX0_begin_114 : decode cX0_begin 114 = .ok (.putfield 27, 3) := by decide +kernel
theorem dX0_begin_117 : decode cX0_begin 117 = .ok (.return_, 1) := by decide +kernel
theorem dX0_chosenRow_0 : decode cX0_chosenRow 0 = .ok (.iload_n 0, 1) := by decide +kernel
theorem dX0_chosenRow_1 : decode cX0_chosenRow 1 = .ok (.invokestatic 68, 3) := by decide +kernel
theorem dX0_chosenRow_4 : decode cX0_chosenRow 4 = .ok (.istore_n 2, 1) := by decide +kernel
theorem dX0_chosenRow_5 : decode cX0_chosenRow 5 = .ok (.iload_n 2, 1) := by decide +kernel
theorem dX0_chosenRow_6 : decode cX0_chosenRow 6 = .ok (.ifCond .ne 7, 3) := by decide +kernel
theorem dX0_chosenRow_9 : decode cX0_chosenRow 9 = .ok (.iconst 0, 1) := by decide +kernel
theorem dX0_chosenRow_10 : decode cX0_chosenRow 10 = .ok (.goto 6, 3) := by decide +kernel
theorem dX0_chosenRow_13 : decode cX0_chosenRow 13 = .ok (.iload_n 1, 1) := by decide +kernel
theorem dX0_chosenRow_14 : decode cX0_chosenRow 14 = .ok (.iload_n 2, 1) := by decide +kernel
theorem dX0_chosenRow_15 : decode cX0_chosenRow 15 = .ok (.irem, 1) := by decide +kernel
theorem dX0_chosenRow_16 : decode cX0_chosenRow 16 = .ok (.istore_n 3, 1) := by decide +kernel
theorem dX0_chosenRow_17 : decode cX0_chosenRow 17 = .ok (.iconst 0, 1) := by decide +kernel
theorem dX0_chosenRow_18 : decode cX0_chosenRow 18 = .ok (.istore 4, 2) := by decide +kernel
theorem dX0_chosenRow_20 : decode cX0_chosenRow 20 = .ok (.iload 4, 2) := by decide +kernel
theorem dX0_chosenRow_22 : decode cX0_chosenRow 22 = .ok (.iconst 4, 1) := by decide +kernel
theorem dX0_chosenRow_23 : decode cX0_chosenRow 23 = .ok (.if_icmp .ge 28, 3) := by decide +kernel
theorem dX0_chosenRow_26 : decode cX0_chosenRow 26 = .ok (.iload_n 0, 1) := by decide +kernel
theorem dX0_chosenRow_27 : decode cX0_chosenRow 27 = .ok (.iload 4, 2) := by decide +kernel
theorem dX0_chosenRow_29 : decode cX0_chosenRow 29 = .ok (.invokestatic 74, 3) := by decide +kernel
theorem dX0_chosenRow_32 : decode cX0_chosenRow 32 = .ok (.ifCond .eq 13, 3) := by decide +kernel
theorem dX0_chosenRow_35 : decode cX0_chosenRow 35 = .ok (.iload_n 3, 1) := by decide +kernel
theorem dX0_chosenRow_36 : decode cX0_chosenRow 36 = .ok (.ifCond .ne 6, 3) := by decide +kernel
theorem dX0_chosenRow_39 : decode cX0_chosenRow 39 = .ok (.iload 4, 2) := by decide +kernel
theorem dX0_chosenRow_41 : decode cX0_chosenRow 41 = .ok (.ireturn, 1) := by decide +kernel
theorem dX0_chosenRow_42 : decode cX0_chosenRow 42 = .ok (.iinc 3 (-1), 3) := by decide +kernel
theorem dX0_chosenRow_45 : decode cX0_chosenRow 45 = .ok (.iinc 4 1, 3) := by decide +kernel
theorem dX0_chosenRow_48 : decode cX0_chosenRow 48 = .ok (.goto (-28), 3) := by decide +kernel
theorem dX0_chosenRow_51 : decode cX0_chosenRow 51 = .ok (.iconst 0, 1) := by decide +kernel
theorem dX0_chosenRow_52 : decode cX0_chosenRow 52 = .ok (.ireturn, 1) := by decide +kernel
theorem dX0_firstFrom_0 : decode cX0_firstFrom 0 = .ok (.iload_n 0, 1) := by decide +kernel
theorem dX0_firstFrom_1 : decode cX0_firstFrom 1 = .ok (.istore_n 3, 1) := by decide +kernel
theorem dX0_firstFrom_2 : decode cX0_firstFrom 2 = .ok (.iload_n 3, 1) := by decide +kernel
theorem dX0_firstFrom_3 : decode cX0_firstFrom 3 = .ok (.iload_n 2, 1) := by decide +kernel
theorem dX0_firstFrom_4 : decode cX0_firstFrom 4 = .ok (.if_icmp .ge 17, 3) := by decide +kernel
theorem dX0_firstFrom_7 : decode cX0_firstFrom 7 = .ok (.iload_n 1, 1) := by decide +kernel
theorem dX0_firstFrom_8 : decode cX0_firstFrom 8 = .ok (.iload_n 3, 1) := by decide +kernel
theorem dX0_firstFrom_9 : decode cX0_firstFrom 9 = .ok (.invokestatic 74, 3) := by decide +kernel
theorem dX0_firstFrom_12 : decode cX0_firstFrom 12 = .ok (.ifCond .ne 9, 3) := by decide +kernel
theorem dX0_firstFrom_15 : decode cX0_firstFrom 15 = .ok (.iinc 3 1, 3) := by decide +kernel
theorem dX0_firstFrom_18 : decode cX0_firstFrom 18 = .ok (.goto (-16), 3) := by decide +kernel
theorem dX0_firstFrom_21 : decode cX0_firstFrom 21 = .ok (.iload_n 3, 1) := by decide +kernel
theorem dX0_firstFrom_22 : decode cX0_firstFrom 22 = .ok (.ireturn, 1) := by decide +kernel
theorem dX0_step_0 : decode cX0_step 0 = .ok (.aload_n 1, 1) := by decide +kernel
theorem dX0_step_1 : decode cX0_step 1 = .ok (.getfield 78, 3) := by decide +kernel
theorem dX0_step_4 : decode cX0_step 4 = .ok (.iload_n 3, 1) := by decide +kernel
theorem dX0_step_5 : decode cX0_step 5 = .ok (.iaload, 1) := by decide +kernel
theorem dX0_step_6 : decode cX0_step 6 = .ok (.istore 4, 2) := by decide +kernel
theorem dX0_step_8 : decode cX0_step 8 = .ok (.aload_n 1, 1) := by decide +kernel
theorem dX0_step_9 : decode cX0_step 9 = .ok (.getfield 81, 3) := by decide +kernel
theorem dX0_step_12 : decode cX0_step 12 = .ok (.iload_n 3, 1) := by decide +kernel
theorem dX0_step_13 : decode cX0_step 13 = .ok (.iaload, 1) := by decide +kernel
theorem dX0_step_14 : decode cX0_step 14 = .ok (.istore 5, 2) := by decide +kernel
theorem dX0_step_16 : decode cX0_step 16 = .ok (.aload_n 0, 1) := by decide +kernel
theorem dX0_step_17 : decode cX0_step 17 = .ok (.aload_n 1, 1) := by decide +kernel
theorem dX0_step_18 : decode cX0_step 18 = .ok (.iload_n 3, 1) := by decide +kernel
theorem dX0_step_19 : decode cX0_step 19 = .ok (.invokevirtual 84, 3) := by decide +kernel
theorem dX0_step_22 : decode cX0_step 22 = .ok (.ifCond .eq 17, 3) := by decide +kernel
theorem dX0_step_25 : decode cX0_step 25 = .ok (.aload_n 0, 1) := by decide +kernel
theorem dX0_step_26 : decode cX0_step 26 = .ok (.iload_n 3, 1) := by decide +kernel
theorem dX0_step_27 : decode cX0_step 27 = .ok (.putfield 27, 3) := by decide +kernel
theorem dX0_step_30 : decode cX0_step 30 = .ok (.aload_n 0, 1) := by decide +kernel
theorem dX0_step_31 : decode cX0_step 31 = .ok (.ldc 88, 2) := by decide +kernel
theorem dX0_step_33 : decode cX0_step 33 = .ok (.putfield 54, 3) := by decide +kernel
theorem dX0_step_36 : decode cX0_step 36 = .ok (.bipush 24, 2) := by decide +kernel
theorem dX0_step_38 : decode cX0_step 38 = .ok (.ireturn, 1) := by decide +kernel
theorem dX0_step_39 : decode cX0_step 39 = .ok (.aload_n 0, 1) := by decide +kernel
theorem dX0_step_40 : decode cX0_step 40 = .ok (.iconst 0, 1) := by decide +kernel
theorem dX0_step_41 : decode cX0_step 41 = .ok (.putfield 54, 3) := by decide +kernel
theorem dX0_step_44 : decode cX0_step 44 = .ok (.aload_n 1, 1) := by decide +kernel
theorem dX0_step_45 : decode cX0_step 45 = .ok (.getfield 89, 3) := by decide +kernel
theorem dX0_step_48 : decode cX0_step 48 = .ok (.iload_n 3, 1) := by decide +kernel
theorem dX0_step_49 : decode cX0_step 49 = .ok (.iaload, 1) := by decide +kernel
theorem dX0_step_50 : decode cX0_step 50 = .ok (.tableswitch 178 0 13 #[70, 178, 178, 178, 178, 178, 178, 74, 178, 178, 110, 136, 172, 175], 70) := by decide +kernel
theorem dX0_step_120 : decode cX0_step 120 = .ok (.iload_n 3, 1) := by decide +kernel
theorem dX0_step_121 : decode cX0_step 121 = .ok (.iconst 1, 1) := by decide +kernel
theorem dX0_step_122 : decode cX0_step 122 = .ok (.iadd, 1) := by decide +kernel
theorem dX0_step_123 : decode cX0_step 123 = .ok (.ireturn, 1) := by decide +kernel
theorem dX0_step_124 : decode cX0_step 124 = .ok (.aload_n 0, 1) := by decide +kernel
theorem dX0_step_125 : decode cX0_step 125 = .ok (.aload_n 0, 1) := by decide +kernel
theorem dX0_step_126 : decode cX0_step 126 = .ok (.getfield 9, 3) := by decide +kernel
theorem dX0_step_129 : decode cX0_step 129 = .ok (.iload 4, 2) := by decide +kernel
theorem dX0_step_131 : decode cX0_step 131 = .ok (.iaload, 1) := by decide +kernel
theorem dX0_step_132 : decode cX0_step 132 = .ok (.putfield 54, 3) := by decide +kernel
theorem dX0_step_135 : decode cX0_step 135 = .ok (.aload_n 0, 1) := by decide +kernel
theorem dX0_step_136 : decode cX0_step 136 = .ok (.getfield 15, 3) := by decide +kernel
theorem dX0_step_139 : decode cX0_step 139 = .ok (.aload_n 0, 1) := by decide +kernel
theorem dX0_step_140 : decode cX0_step 140 = .ok (.iload 5, 2) := by decide +kernel
theorem dX0_step_142 : decode cX0_step 142 = .ok (.aload_n 1, 1) := by decide +kernel
theorem dX0_step_143 : decode cX0_step 143 = .ok (.getfield 92, 3) := by decide +kernel
theorem dX0_step_146 : decode cX0_step 146 = .ok (.iload_n 3, 1) := by decide +kernel
theorem dX0_step_147 : decode cX0_step 147 = .ok (.iaload, 1) := by decide +kernel
theorem dX0_step_148 : decode cX0_step 148 = .ok (.invokevirtual 95, 3) := by decide +kernel
theorem dX0_step_151 : decode cX0_step 151 = .ok (.aload_n 0, 1) := by decide +kernel
theorem dX0_step_152 : decode cX0_step 152 = .ok (.getfield 54, 3) := by decide +kernel
theorem dX0_step_155 : decode cX0_step 155 = .ok (.iastore, 1) := by decide +kernel
theorem dX0_step_156 : decode cX0_step 156 = .ok (.iload_n 3, 1) := by decide +kernel
theorem dX0_step_157 : decode cX0_step 157 = .ok (.iconst 1, 1) := by decide +kernel
theorem dX0_step_158 : decode cX0_step 158 = .ok (.iadd, 1) := by decide +kernel
theorem dX0_step_159 : decode cX0_step 159 = .ok (.ireturn, 1) := by decide +kernel
theorem dX0_step_160 : decode cX0_step 160 = .ok (.aload_n 0, 1) := by decide +kernel
theorem dX0_step_161 : decode cX0_step 161 = .ok (.aload_n 0, 1) := by decide +kernel
theorem dX0_step_162 : decode cX0_step 162 = .ok (.getfield 9, 3) := by decide +kernel
theorem dX0_step_165 : decode cX0_step 165 = .ok (.iload 4, 2) := by decide +kernel
theorem dX0_step_167 : decode cX0_step 167 = .ok (.iaload, 1) := by decide +kernel
theorem dX0_step_168 : decode cX0_step 168 = .ok (.putfield 54, 3) := by decide +kernel
theorem dX0_step_171 : decode cX0_step 171 = .ok (.aload_n 0, 1) := by decide +kernel
theorem dX0_step_172 : decode cX0_step 172 = .ok (.getfield 18, 3) := by decide +kernel
theorem dX0_step_175 : decode cX0_step 175 = .ok (.iload 5, 2) := by decide +kernel
theorem dX0_step_177 : decode cX0_step 177 = .ok (.aload_n 0, 1) := by decide +kernel
theorem dX0_step_178 : decode cX0_step 178 = .ok (.getfield 54, 3) := by decide +kernel
theorem dX0_step_181 : decode cX0_step 181 = .ok (.iastore, 1) := by decide +kernel
theorem dX0_step_182 : decode cX0_step 182 = .ok (.iload_n 3, 1) := by decide +kernel
theorem dX0_step_183 : decode cX0_step 183 = .ok (.iconst 1, 1) := by decide +kernel
theorem dX0_step_184 : decode cX0_step 184 = .ok (.iadd, 1) := by decide +kernel
theorem dX0_step_185 : decode cX0_step 185 = .ok (.ireturn, 1) := by decide +kernel
theorem dX0_step_186 : decode cX0_step 186 = .ok (.aload_n 0, 1) := by decide +kernel
theorem dX0_step_187 : decode cX0_step 187 = .ok (.aload_n 0, 1) := by decide +kernel
theorem dX0_step_188 : decode cX0_step 188 = .ok (.getfield 9, 3) := by decide +kernel
theorem dX0_step_191 : decode cX0_step 191 = .ok (.iload 4, 2) := by decide +kernel
theorem dX0_step_193 : decode cX0_step 193 = .ok (.iaload, 1) := by decide +kernel
theorem dX0_step_194 : decode cX0_step 194 = .ok (.ifCond .ne 7, 3) := by decide +kernel
theorem dX0_step_197 : decode cX0_step 197 = .ok (.iconst 1, 1) := by decide +kernel
theorem dX0_step_198 : decode cX0_step 198 = .ok (.goto 4, 3) := by decide +kernel
theorem dX0_step_201 : decode cX0_step 201 = .ok (.iconst 0, 1) := by decide +kernel
theorem dX0_step_202 : decode cX0_step 202 = .ok (.putfield 54, 3) := by decide +kernel
theorem dX0_step_205 : decode cX0_step 205 = .ok (.aload_n 0, 1) := by decide +kernel
theorem dX0_step_206 : decode cX0_step 206 = .ok (.getfield 54, 3) := by decide +kernel
theorem dX0_step_209 : decode cX0_step 209 = .ok (.iconst 1, 1) := by decide +kernel
theorem dX0_step_210 : decode cX0_step 210 = .ok (.if_icmp .ne 8, 3) := by decide +kernel
theorem dX0_step_213 : decode cX0_step 213 = .ok (.iload 5, 2) := by decide +kernel
theorem dX0_step_215 : decode cX0_step 215 = .ok (.goto 6, 3) := by decide +kernel
theorem dX0_step_218 : decode cX0_step 218 = .ok (.iload_n 3, 1) := by decide +kernel
theorem dX0_step_219 : decode cX0_step 219 = .ok (.iconst 1, 1) := by decide +kernel
theorem dX0_step_220 : decode cX0_step 220 = .ok (.iadd, 1) := by decide +kernel
theorem dX0_step_221 : decode cX0_step 221 = .ok (.ireturn, 1) := by decide +kernel
theorem dX0_step_222 : decode cX0_step 222 = .ok (.iload 5, 2) := by decide +kernel
theorem dX0_step_224 : decode cX0_step 224 = .ok (.ireturn, 1) := by decide +kernel
theorem dX0_step_225 : decode cX0_step 225 = .ok (.bipush 24, 2) := by decide +kernel
theorem dX0_step_227 : decode cX0_step 227 = .ok (.ireturn, 1) := by decide +kernel
theorem dX0_step_228 : decode cX0_step 228 = .ok (.aload_n 0, 1) := by decide +kernel
theorem dX0_step_229 : decode cX0_step 229 = .ok (.aload_n 0, 1) := by decide +kernel
theorem dX0_step_230 : decode cX0_step 230 = .ok (.aload_n 1, 1) := by decide +kernel
theorem dX0_step_231 : decode cX0_step 231 = .ok (.getfield 89, 3) := by decide +kernel
theorem dX0_step_234 : decode cX0_step 234 = .ok (.iload_n 3, 1) := by decide +kernel
theorem dX0_step_235 : decode cX0_step 235 = .ok (.iaload, 1) := by decide +kernel
theorem dX0_step_236 : decode cX0_step 236 = .ok (.iload 5, 2) := by decide +kernel
theorem dX0_step_238 : decode cX0_step 238 = .ok (.aload_n 1, 1) := by decide +kernel
theorem dX0_step_239 : decode cX0_step 239 = .ok (.getfield 92, 3) := by decide +kernel
theorem dX0_step_242 : decode cX0_step 242 = .ok (.iload_n 3, 1) := by decide +kernel
theorem dX0_step_243 : decode cX0_step 243 = .ok (.iaload, 1) := by decide +kernel
theorem dX0_step_244 : decode cX0_step 244 = .ok (.aload_n 2, 1) := by decide +kernel
theorem dX0_step_245 : decode cX0_step 245 = .ok (.invokevirtual 98, 3) := by decide +kernel
theorem dX0_step_248 : decode cX0_step 248 = .ok (.putfield 54, 3) := by decide +kernel
theorem dX0_step_251 : decode cX0_step 251 = .ok (.aload_n 0, 1) := by decide +kernel
theorem dX0_step_252 : decode cX0_step 252 = .ok (.getfield 9, 3) := by decide +kernel
theorem dX0_step_255 : decode cX0_step 255 = .ok (.iload 4, 2) := by decide +kernel
theorem dX0_step_257 : decode cX0_step 257 = .ok (.aload_n 0, 1) := by decide +kernel
theorem dX0_step_258 : decode cX0_step 258 = .ok (.getfield 54, 3) := by decide +kernel
theorem dX0_step_261 : decode cX0_step 261 = .ok (.iastore, 1) := by decide +kernel
theorem dX0_step_262 : decode cX0_step 262 = .ok (.iload_n 3, 1) := by decide +kernel
theorem dX0_step_263 : decode cX0_step 263 = .ok (.iconst 1, 1) := by decide +kernel
theorem dX0_step_264 : decode cX0_step 264 = .ok (.iadd, 1) := by decide +kernel
theorem dX0_step_265 : decode cX0_step 265 = .ok (.ireturn, 1) := by decide +kernel
theorem dX0_failsAt_0 : decode cX0_failsAt 0 = .ok (.aload_n 1, 1) := by decide +kernel
theorem dX0_failsAt_1 : decode cX0_failsAt 1 = .ok (.getfield 89, 3) := by decide +kernel
theorem dX0_failsAt_4 : decode cX0_failsAt 4 = .ok (.iload_n 2, 1) := by decide +kernel
theorem dX0_failsAt_5 : decode cX0_failsAt 5 = .ok (.iaload, 1) := by decide +kernel
theorem dX0_failsAt_6 : decode cX0_failsAt 6 = .ok (.bipush 6, 2) := by decide +kernel
theorem dX0_failsAt_8 : decode cX0_failsAt 8 = .ok (.if_icmp .ne 17, 3) := by decide +kernel
theorem dX0_failsAt_11 : decode cX0_failsAt 11 = .ok (.aload_n 0, 1) := by decide +kernel
theorem dX0_failsAt_12 : decode cX0_failsAt 12 = .ok (.getfield 9, 3) := by decide +kernel
theorem dX0_failsAt_15 : decode cX0_failsAt 15 = .ok (.aload_n 1, 1) := by decide +kernel
theorem dX0_failsAt_16 : decode cX0_failsAt 16 = .ok (.getfield 92, 3) := by decide +kernel
theorem dX0_failsAt_19 : decode cX0_failsAt 19 = .ok (.iload_n 2, 1) := by decide +kernel
theorem dX0_failsAt_20 : decode cX0_failsAt 20 = .ok (.iaload, 1) := by decide +kernel
theorem dX0_failsAt_21 : decode cX0_failsAt 21 = .ok (.iaload, 1) := by decide +kernel
theorem dX0_failsAt_22 : decode cX0_failsAt 22 = .ok (.ifCond .eq 11, 3) := by decide +kernel
theorem dX0_failsAt_25 : decode cX0_failsAt 25 = .ok (.aload_n 1, 1) := by decide +kernel
theorem dX0_failsAt_26 : decode cX0_failsAt 26 = .ok (.iload_n 2, 1) := by decide +kernel
theorem dX0_failsAt_27 : decode cX0_failsAt 27 = .ok (.invokevirtual 102, 3) := by decide +kernel
theorem dX0_failsAt_30 : decode cX0_failsAt 30 = .ok (.ifCond .eq 7, 3) := by decide +kernel
theorem dX0_failsAt_33 : decode cX0_failsAt 33 = .ok (.iconst 1, 1) := by decide +kernel
theorem dX0_failsAt_34 : decode cX0_failsAt 34 = .ok (.goto 4, 3) := by decide +kernel
theorem dX0_failsAt_37 : decode cX0_failsAt 37 = .ok (.iconst 0, 1) := by decide +kernel
theorem dX0_failsAt_38 : decode cX0_failsAt 38 = .ok (.ireturn, 1) := by decide +kernel
theorem dX0_itemOf_0 : decode cX0_itemOf 0 = .ok (.aload_n 0, 1) := by decide +kernel
theorem dX0_itemOf_1 : decode cX0_itemOf 1 = .ok (.getfield 21, 3) := by decide +kernel
theorem dX0_itemOf_4 : decode cX0_itemOf 4 = .ok (.iload_n 2, 1) := by decide +kernel
theorem dX0_itemOf_5 : decode cX0_itemOf 5 = .ok (.iaload, 1) := by decide +kernel
theorem dX0_itemOf_6 : decode cX0_itemOf 6 = .ok (.bipush 8, 2) := by decide +kernel
theorem dX0_itemOf_8 : decode cX0_itemOf 8 = .ok (.imul, 1) := by decide +kernel
theorem dX0_itemOf_9 : decode cX0_itemOf 9 = .ok (.aload_n 0, 1) := by decide +kernel
theorem dX0_itemOf_10 : decode cX0_itemOf 10 = .ok (.getfield 9, 3) := by decide +kernel
theorem dX0_itemOf_13 : decode cX0_itemOf 13 = .ok (.iload_n 1, 1) := by decide +kernel
theorem dX0_itemOf_14 : decode cX0_itemOf 14 = .ok (.iaload, 1) := by decide +kernel
theorem dX0_itemOf_15 : decode cX0_itemOf 15 = .ok (.bipush 7, 2) := by decide +kernel
theorem dX0_itemOf_17 : decode cX0_itemOf 17 = .ok (.iand, 1) := by decide +kernel
theorem dX0_itemOf_18 : decode cX0_itemOf 18 = .ok (.iadd, 1) := by decide +kernel
theorem dX0_itemOf_19 : decode cX0_itemOf 19 = .ok (.ireturn, 1) := by decide +kernel
theorem dX0_valueOf_0 : decode cX0_valueOf 0 = .ok (.iload_n 1, 1) := by decide +kernel
theorem dX0_valueOf_1 : decode cX0_valueOf 1 = .ok (.tableswitch 153 1 9 #[51, 53, 58, 72, 93, 107, 153, 134, 146], 51) := by decide +kernel
theorem dX0_valueOf_52 : decode cX0_valueOf 52 = .ok (.iload_n 2, 1) := by decide +kernel
theorem dX0_valueOf_53 : decode cX0_valueOf 53 = .ok (.ireturn, 1) := by decide +kernel
theorem dX0_valueOf_54 : decode cX0_valueOf 54 = .ok (.aload 4, 2) := by decide +kernel
theorem dX0_valueOf_56 : decode cX0_valueOf 56 = .ok (.iload_n 2, 1) := by decide +kernel
theorem dX0_valueOf_57 : decode cX0_valueOf 57 = .ok (.iaload, 1) := by decide +kernel
theorem dX0_valueOf_58 : decode cX0_valueOf 58 = .ok (.ireturn, 1) := by decide +kernel
theorem dX0_valueOf_59 : decode cX0_valueOf 59 = .ok (.aload_n 0, 1) := by decide +kernel
theorem dX0_valueOf_60 : decode cX0_valueOf 60 = .ok (.getfield 9, 3) := by decide +kernel
theorem dX0_valueOf_63 : decode cX0_valueOf 63 = .ok (.iload_n 2, 1) := by decide +kernel
theorem dX0_valueOf_64 : decode cX0_valueOf 64 = .ok (.iaload, 1) := by decide +kernel
theorem dX0_valueOf_65 : decode cX0_valueOf 65 = .ok (.aload_n 0, 1) := by decide +kernel
theorem dX0_valueOf_66 : decode cX0_valueOf 66 = .ok (.getfield 9, 3) := by decide +kernel
theorem dX0_valueOf_69 : decode cX0_valueOf 69 = .ok (.iload_n 3, 1) := by decide +kernel
theorem dX0_valueOf_70 : decode cX0_valueOf 70 = .ok (.iaload, 1) := by decide +kernel
theorem dX0_valueOf_71 : decode cX0_valueOf 71 = .ok (.iadd, 1) := by decide +kernel
theorem dX0_valueOf_72 : decode cX0_valueOf 72 = .ok (.ireturn, 1) := by decide +kernel
theorem dX0_valueOf_73 : decode cX0_valueOf 73 = .ok (.aload_n 0, 1) := by decide +kernel
theorem dX0_valueOf_74 : decode cX0_valueOf 74 = .ok (.getfield 9, 3) := by decide +kernel
theorem dX0_valueOf_77 : decode cX0_valueOf 77 = .ok (.iload_n 2, 1) := by decide +kernel
theorem dX0_valueOf_78 : decode cX0_valueOf 78 = .ok (.iaload, 1) := by decide +kernel
theorem dX0_valueOf_79 : decode cX0_valueOf 79 = .ok (.aload_n 0, 1) := by decide +kernel
theorem dX0_valueOf_80 : decode cX0_valueOf 80 = .ok (.getfield 9, 3) := by decide +kernel
theorem dX0_valueOf_83 : decode cX0_valueOf 83 = .ok (.iload_n 3, 1) := by decide +kernel
theorem dX0_valueOf_84 : decode cX0_valueOf 84 = .ok (.iaload, 1) := by decide +kernel
theorem dX0_valueOf_85 : decode cX0_valueOf 85 = .ok (.if_icmp .ge 7, 3) := by decide +kernel
theorem dX0_valueOf_88 : decode cX0_valueOf 88 = .ok (.iconst 1, 1) := by decide +kernel
theorem dX0_valueOf_89 : decode cX0_valueOf 89 = .ok (.goto 4, 3) := by decide +kernel
theorem dX0_valueOf_92 : decode cX0_valueOf 92 = .ok (.iconst 0, 1) := by decide +kernel
theorem dX0_valueOf_93 : decode cX0_valueOf 93 = .ok (.ireturn, 1) := by decide +kernel
theorem dX0_valueOf_94 : decode cX0_valueOf 94 = .ok (.aload_n 0, 1) := by decide +kernel
theorem dX0_valueOf_95 : decode cX0_valueOf 95 = .ok (.getfield 9, 3) := by decide +kernel
theorem dX0_valueOf_98 : decode cX0_valueOf 98 = .ok (.iload_n 2, 1) := by decide +kernel
theorem dX0_valueOf_99 : decode cX0_valueOf 99 = .ok (.iaload, 1) := by decide +kernel
theorem dX0_valueOf_100 : decode cX0_valueOf 100 = .ok (.aload_n 0, 1) := by decide +kernel
theorem dX0_valueOf_101 : decode cX0_valueOf 101 = .ok (.getfield 9, 3) := by decide +kernel
theorem dX0_valueOf_104 : decode cX0_valueOf 104 = .ok (.iload_n 3, 1) := by decide +kernel
theorem dX0_valueOf_105 : decode cX0_valueOf 105 = .ok (.iaload, 1) := by decide +kernel
theorem dX0_valueOf_106 : decode cX0_valueOf 106 = .ok (.imul, 1) := by decide +kernel
theorem dX0_valueOf_107 : decode cX0_valueOf 107 = .ok (.ireturn, 1) := by decide +kernel
theorem dX0_valueOf_108 : decode cX0_valueOf 108 = .ok (.aload_n 0, 1) := by decide +kernel
theorem dX0_valueOf_109 : decode cX0_valueOf 109 = .ok (.getfield 9, 3) := by decide +kernel
theorem dX0_valueOf_112 : decode cX0_valueOf 112 = .ok (.iload_n 3, 1) := by decide +kernel
theorem dX0_valueOf_113 : decode cX0_valueOf 113 = .ok (.iaload, 1) := by decide +kernel
theorem dX0_valueOf_114 : decode cX0_valueOf 114 = .ok (.istore 5, 2) := by decide +kernel
theorem dX0_valueOf_116 : decode cX0_valueOf 116 = .ok (.iload 5, 2) := by decide +kernel
theorem dX0_valueOf_118 : decode cX0_valueOf 118 = .ok (.ifCond .ne 7, 3) := by decide +kernel
theorem dX0_valueOf_121 : decode cX0_valueOf 121 = .ok (.iconst 0, 1) := by decide +kernel
theorem dX0_valueOf_122 : decode cX0_valueOf 122 = .ok (.goto 12, 3) := by decide +kernel
theorem dX0_valueOf_125 : decode cX0_valueOf 125 = .ok (.aload_n 0, 1) := by decide +kernel
theorem dX0_valueOf_126 : decode cX0_valueOf 126 = .ok (.getfield 9, 3) := by decide +kernel
theorem dX0_valueOf_129 : decode cX0_valueOf 129 = .ok (.iload_n 2, 1) := by decide +kernel
theorem dX0_valueOf_130 : decode cX0_valueOf 130 = .ok (.iaload, 1) := by decide +kernel
theorem dX0_valueOf_131 : decode cX0_valueOf 131 = .ok (.iload 5, 2) := by decide +kernel
theorem dX0_valueOf_133 : decode cX0_valueOf 133 = .ok (.idiv, 1) := by decide +kernel
theorem dX0_valueOf_134 : decode cX0_valueOf 134 = .ok (.ireturn, 1) := by decide +kernel
theorem dX0_valueOf_135 : decode cX0_valueOf 135 = .ok (.aload_n 0, 1) := by decide +kernel
theorem dX0_valueOf_136 : decode cX0_valueOf 136 = .ok (.getfield 15, 3) := by decide +kernel
theorem dX0_valueOf_139 : decode cX0_valueOf 139 = .ok (.aload_n 0, 1) := by decide +kernel
theorem dX0_valueOf_140 : decode cX0_valueOf 140 = .ok (.iload_n 2, 1) := by decide +kernel
theorem dX0_valueOf_141 : decode cX0_valueOf 141 = .ok (.iload_n 3, 1) := by decide +kernel
theorem dX0_valueOf_142 : decode cX0_valueOf 142 = .ok (.invokevirtual 95, 3) := by decide +kernel
theorem dX0_valueOf_145 : decode cX0_valueOf 145 = .ok (.iaload, 1) := by decide +kernel
theorem dX0_valueOf_146 : decode cX0_valueOf 146 = .ok (.ireturn, 1) := by decide +kernel
theorem dX0_valueOf_147 : decode cX0_valueOf 147 = .ok (.aload_n 0, 1) := by decide +kernel
theorem dX0_valueOf_148 : decode cX0_valueOf 148 = .ok (.getfield 18, 3) := by decide +kernel
theorem dX0_valueOf_151 : decode cX0_valueOf 151 = .ok (.iload_n 2, 1) := by decide +kernel
theorem dX0_valueOf_152 : decode cX0_valueOf 152 = .ok (.iaload, 1) := by decide +kernel
theorem dX0_valueOf_153 : decode cX0_valueOf 153 = .ok (.ireturn, 1) := by decide +kernel
theorem dX0_valueOf_154 : decode cX0_valueOf 154 = .ok (.iconst 0, 1) := by decide +kernel
theorem dX0_valueOf_155 : decode cX0_valueOf 155 = .ok (.ireturn, 1) := by decide +kernel
theorem dX0_toldLike_0 : decode cX0_toldLike 0 = .ok (.aload_n 0, 1) := by decide +kernel
theorem dX0_toldLike_1 : decode cX0_toldLike 1 = .ok (.getfield 51, 3) := by decide +kernel
theorem dX0_toldLike_4 : decode cX0_toldLike 4 = .ok (.aload_n 1, 1) := by decide +kernel
theorem dX0_toldLike_5 : decode cX0_toldLike 5 = .ok (.getfield 51, 3) := by decide +kernel
theorem dX0_toldLike_8 : decode cX0_toldLike 8 = .ok (.if_icmp .eq 5, 3) := by decide +kernel
theorem dX0_toldLike_11 : decode cX0_toldLike 11 = .ok (.iconst 0, 1) := by decide +kernel
theorem dX0_toldLike_12 : decode cX0_toldLike 12 = .ok (.ireturn, 1) := by decide +kernel
theorem dX0_toldLike_13 : decode cX0_toldLike 13 = .ok (.iconst 0, 1) := by decide +kernel
theorem dX0_toldLike_14 : decode cX0_toldLike 14 = .ok (.istore_n 2, 1) := by decide +kernel
theorem dX0_toldLike_15 : decode cX0_toldLike 15 = .ok (.iload_n 2, 1) := by decide +kernel
theorem dX0_toldLike_16 : decode cX0_toldLike 16 = .ok (.aload_n 0, 1) := by decide +kernel
theorem dX0_toldLike_17 : decode cX0_toldLike 17 = .ok (.getfield 51, 3) := by decide +kernel
theorem dX0_toldLike_20 : decode cX0_toldLike 20 = .ok (.if_icmp .ge 26, 3) := by decide +kernel
theorem dX0_toldLike_23 : decode cX0_toldLike 23 = .ok (.aload_n 0, 1) := by decide +kernel
theorem dX0_toldLike_24 : decode cX0_toldLike 24 = .ok (.getfield 24, 3) := by decide +kernel
theorem dX0_toldLike_27 : decode cX0_toldLike 27 = .ok (.iload_n 2, 1) := by decide +kernel
theorem dX0_toldLike_28 : decode cX0_toldLike 28 = .ok (.iaload, 1) := by decide +kernel
theorem dX0_toldLike_29 : decode cX0_toldLike 29 = .ok (.aload_n 1, 1) := by decide +kernel
theorem dX0_toldLike_30 : decode cX0_toldLike 30 = .ok (.getfield 24, 3) := by decide +kernel
theorem dX0_toldLike_33 : decode cX0_toldLike 33 = .ok (.iload_n 2, 1) := by decide +kernel
theorem dX0_toldLike_34 : decode cX0_toldLike 34 = .ok (.iaload, 1) := by decide +kernel
theorem dX0_toldLike_35 : decode cX0_toldLike 35 = .ok (.if_icmp .eq 5, 3) := by decide +kernel
theorem dX0_toldLike_38 : decode cX0_toldLike 38 = .ok (.iconst 0, 1) := by decide +kernel
theorem dX0_toldLike_39 : decode cX0_toldLike 39 = .ok (.ireturn, 1) := by decide +kernel
theorem dX0_toldLike_40 : decode cX0_toldLike 40 = .ok (.iinc 2 1, 3) := by decide +kernel
theorem dX0_toldLike_43 : decode cX0_toldLike 43 = .ok (.goto (-28), 3) := by decide +kernel
theorem dX0_toldLike_46 : decode cX0_toldLike 46 = .ok (.iconst 1, 1) := by decide +kernel
theorem dX0_toldLike_47 : decode cX0_toldLike 47 = .ok (.ireturn, 1) := by decide +kernel
