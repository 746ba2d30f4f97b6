theorem dX2_findHangingByNames_72 : decode cX2_findHangingByNames 72 = .ok (.iconst 1, 1) := by decide +kernel
theorem dX2_findHangingByNames_73 : decode cX2_findHangingByNames 73 = .ok (.iload_n 2, 1) := by decide +kernel
theorem dX2_findHangingByNames_74 : decode cX2_findHangingByNames 74 = .ok (.ishl, 1) := by decide +kernel
theorem dX2_findHangingByNames_75 : decode cX2_findHangingByNames 75 = .ok (.ior, 1) := by decide +kernel
theorem dX2_findHangingByNames_76 : decode cX2_findHangingByNames 76 = .ok (.iastore, 1) := by decide +kernel
theorem dX2_findHangingByNames_77 : decode cX2_findHangingByNames 77 = .ok (.iinc 4 1, 3) := by decide +kernel
theorem dX2_findHangingByNames_80 : decode cX2_findHangingByNames 80 = .ok (.goto (-58), 3) := by decide +kernel
theorem dX2_findHangingByNames_83 : decode cX2_findHangingByNames 83 = .ok (.return_, 1) := by decide +kernel
theorem dX2_findHangingByControl_0 : decode cX2_findHangingByControl 0 = .ok (.aload_n 0, 1) := by decide +kernel
theorem dX2_findHangingByControl_1 : decode cX2_findHangingByControl 1 = .ok (.getfield 15, 3) := by decide +kernel
theorem dX2_findHangingByControl_4 : decode cX2_findHangingByControl 4 = .ok (.iload_n 1, 1) := by decide +kernel
theorem dX2_findHangingByControl_5 : decode cX2_findHangingByControl 5 = .ok (.iaload, 1) := by decide +kernel
theorem dX2_findHangingByControl_6 : decode cX2_findHangingByControl 6 = .ok (.istore_n 2, 1) := by decide +kernel
theorem dX2_findHangingByControl_7 : decode cX2_findHangingByControl 7 = .ok (.iconst 0, 1) := by decide +kernel
theorem dX2_findHangingByControl_8 : decode cX2_findHangingByControl 8 = .ok (.istore_n 3, 1) := by decide +kernel
theorem dX2_findHangingByControl_9 : decode cX2_findHangingByControl 9 = .ok (.iload_n 3, 1) := by decide +kernel
theorem dX2_findHangingByControl_10 : decode cX2_findHangingByControl 10 = .ok (.aload_n 0, 1) := by decide +kernel
theorem dX2_findHangingByControl_11 : decode cX2_findHangingByControl 11 = .ok (.getfield 51, 3) := by decide +kernel
theorem dX2_findHangingByControl_14 : decode cX2_findHangingByControl 14 = .ok (.if_icmp .ge 31, 3) := by decide +kernel
theorem dX2_findHangingByControl_17 : decode cX2_findHangingByControl 17 = .ok (.aload_n 0, 1) := by decide +kernel
theorem dX2_findHangingByControl_18 : decode cX2_findHangingByControl 18 = .ok (.getfield 15, 3) := by decide +kernel
theorem dX2_findHangingByControl_21 : decode cX2_findHangingByControl 21 = .ok (.iload_n 1, 1) := by decide +kernel
theorem dX2_findHangingByControl_22 : decode cX2_findHangingByControl 22 = .ok (.iaload, 1) := by decide +kernel
theorem dX2_findHangingByControl_23 : decode cX2_findHangingByControl 23 = .ok (.iload_n 3, 1) := by decide +kernel
theorem dX2_findHangingByControl_24 : decode cX2_findHangingByControl 24 = .ok (.invokestatic 55, 3) := by decide +kernel
theorem dX2_findHangingByControl_27 : decode cX2_findHangingByControl 27 = .ok (.ifCond .eq 12, 3) := by decide +kernel
theorem dX2_findHangingByControl_30 : decode cX2_findHangingByControl 30 = .ok (.iload_n 2, 1) := by decide +kernel
theorem dX2_findHangingByControl_31 : decode cX2_findHangingByControl 31 = .ok (.aload_n 0, 1) := by decide +kernel
theorem dX2_findHangingByControl_32 : decode cX2_findHangingByControl 32 = .ok (.getfield 18, 3) := by decide +kernel
theorem dX2_findHangingByControl_35 : decode cX2_findHangingByControl 35 = .ok (.iload_n 3, 1) := by decide +kernel
theorem dX2_findHangingByControl_36 : decode cX2_findHangingByControl 36 = .ok (.iaload, 1) := by decide +kernel
theorem dX2_findHangingByControl_37 : decode cX2_findHangingByControl 37 = .ok (.ior, 1) := by decide +kernel
theorem dX2_findHangingByControl_38 : decode cX2_findHangingByControl 38 = .ok (.istore_n 2, 1) := by decide +kernel
theorem dX2_findHangingByControl_39 : decode cX2_findHangingByControl 39 = .ok (.iinc 3 1, 3) := by decide +kernel
theorem dX2_findHangingByControl_42 : decode cX2_findHangingByControl 42 = .ok (.goto (-33), 3) := by decide +kernel
theorem dX2_findHangingByControl_45 : decode cX2_findHangingByControl 45 = .ok (.iload_n 2, 1) := by decide +kernel
theorem dX2_findHangingByControl_46 : decode cX2_findHangingByControl 46 = .ok (.aload_n 0, 1) := by decide +kernel
theorem dX2_findHangingByControl_47 : decode cX2_findHangingByControl 47 = .ok (.getfield 18, 3) := by decide +kernel
theorem dX2_findHangingByControl_50 : decode cX2_findHangingByControl 50 = .ok (.iload_n 1, 1) := by decide +kernel
theorem dX2_findHangingByControl_51 : decode cX2_findHangingByControl 51 = .ok (.iaload, 1) := by decide +kernel
theorem dX2_findHangingByControl_52 : decode cX2_findHangingByControl 52 = .ok (.iconst (-1), 1) := by decide +kernel
theorem dX2_findHangingByControl_53 : decode cX2_findHangingByControl 53 = .ok (.ixor, 1) := by decide +kernel
theorem dX2_findHangingByControl_54 : decode cX2_findHangingByControl 54 = .ok (.iand, 1) := by decide +kernel
theorem dX2_findHangingByControl_55 : decode cX2_findHangingByControl 55 = .ok (.istore_n 2, 1) := by decide +kernel
theorem dX2_findHangingByControl_56 : decode cX2_findHangingByControl 56 = .ok (.iconst 0, 1) := by decide +kernel
theorem dX2_findHangingByControl_57 : decode cX2_findHangingByControl 57 = .ok (.istore_n 3, 1) := by decide +kernel
theorem dX2_findHangingByControl_58 : decode cX2_findHangingByControl 58 = .ok (.iload_n 3, 1) := by decide +kernel
theorem dX2_findHangingByControl_59 : decode cX2_findHangingByControl 59 = .ok (.aload_n 0, 1) := by decide +kernel
theorem dX2_findHangingByControl_60 : decode cX2_findHangingByControl 60 = .ok (.getfield 51, 3) := by decide +kernel
theorem dX2_findHangingByControl_63 : decode cX2_findHangingByControl 63 = .ok (.if_icmp .ge 31, 3) := by decide +kernel
theorem dX2_findHangingByControl_66 : decode cX2_findHangingByControl 66 = .ok (.iload_n 2, 1) := by decide +kernel
theorem dX2_findHangingByControl_67 : decode cX2_findHangingByControl 67 = .ok (.iload_n 3, 1) := by decide +kernel
theorem dX2_findHangingByControl_68 : decode cX2_findHangingByControl 68 = .ok (.invokestatic 55, 3) := by decide +kernel
theorem dX2_findHangingByControl_71 : decode cX2_findHangingByControl 71 = .ok (.ifCond .eq 17, 3) := by decide +kernel
theorem dX2_findHangingByControl_74 : decode cX2_findHangingByControl 74 = .ok (.aload_n 0, 1) := by decide +kernel
theorem dX2_findHangingByControl_75 : decode cX2_findHangingByControl 75 = .ok (.getfield 23, 3) := by decide +kernel
theorem dX2_findHangingByControl_78 : decode cX2_findHangingByControl 78 = .ok (.iconst 4, 1) := by decide +kernel
theorem dX2_findHangingByControl_79 : decode cX2_findHangingByControl 79 = .ok (.aaload, 1) := by decide +kernel
theorem dX2_findHangingByControl_80 : decode cX2_findHangingByControl 80 = .ok (.iload_n 3, 1) := by decide +kernel
theorem dX2_findHangingByControl_81 : decode cX2_findHangingByControl 81 = .ok (.dup2, 1) := by decide +kernel
theorem dX2_findHangingByControl_82 : decode cX2_findHangingByControl 82 = .ok (.iaload, 1) := by decide +kernel
theorem dX2_findHangingByControl_83 : decode cX2_findHangingByControl 83 = .ok (.iconst 1, 1) := by decide +kernel
theorem dX2_findHangingByControl_84 : decode cX2_findHangingByControl 84 = .ok (.iload_n 1, 1) := by decide +kernel
theorem dX2_findHangingByControl_85 : decode cX2_findHangingByControl 85 = .ok (.ishl, 1) := by decide +kernel
theorem dX2_findHangingByControl_86 : decode cX2_findHangingByControl 86 = .ok (.ior, 1) := by decide +kernel
theorem dX2_findHangingByControl_87 : decode cX2_findHangingByControl 87 = .ok (.iastore, 1) := by decide +kernel
theorem dX2_findHangingByControl_88 : decode cX2_findHangingByControl 88 = .ok (.iinc 3 1, 3) := by decide +kernel
theorem dX2_findHangingByControl_91 : decode cX2_findHangingByControl 91 = .ok (.goto (-33), 3) := by decide +kernel
theorem dX2_findHangingByControl_94 : decode cX2_findHangingByControl 94 = .ok (.return_, 1) := by decide +kernel
theorem dX2_reachedFrom_0 : decode cX2_reachedFrom 0 = .ok (.aload_n 0, 1) := by decide +kernel
theorem dX2_reachedFrom_1 : decode cX2_reachedFrom 1 = .ok (.getfield 9, 3) := by decide +kernel
theorem dX2_reachedFrom_4 : decode cX2_reachedFrom 4 = .ok (.iload_n 1, 1) := by decide +kernel
theorem dX2_reachedFrom_5 : decode cX2_reachedFrom 5 = .ok (.iaload, 1) := by decide +kernel
theorem dX2_reachedFrom_6 : decode cX2_reachedFrom 6 = .ok (.istore_n 3, 1) := by decide +kernel
theorem dX2_reachedFrom_7 : decode cX2_reachedFrom 7 = .ok (.iconst 0, 1) := by decide +kernel
theorem dX2_reachedFrom_8 : decode cX2_reachedFrom 8 = .ok (.istore 4, 2) := by decide +kernel
theorem dX2_reachedFrom_10 : decode cX2_reachedFrom 10 = .ok (.iconst 0, 1) := by decide +kernel
theorem dX2_reachedFrom_11 : decode cX2_reachedFrom 11 = .ok (.istore 5, 2) := by decide +kernel
theorem dX2_reachedFrom_13 : decode cX2_reachedFrom 13 = .ok (.iload_n 3, 1) := by decide +kernel
theorem dX2_reachedFrom_14 : decode cX2_reachedFrom 14 = .ok (.iload 4, 2) := by decide +kernel
theorem dX2_reachedFrom_16 : decode cX2_reachedFrom 16 = .ok (.if_icmp .eq 60, 3) := by decide +kernel
theorem dX2_reachedFrom_19 : decode cX2_reachedFrom 19 = .ok (.iload 5, 2) := by decide +kernel
theorem dX2_reachedFrom_21 : decode cX2_reachedFrom 21 = .ok (.bipush 24, 2) := by decide +kernel
theorem dX2_reachedFrom_23 : decode cX2_reachedFrom 23 = .ok (.if_icmp .gt 53, 3) := by decide +kernel
theorem dX2_reachedFrom_26 : decode cX2_reachedFrom 26 = .ok (.iload_n 3, 1) := by decide +kernel
theorem dX2_reachedFrom_27 : decode cX2_reachedFrom 27 = .ok (.istore 4, 2) := by decide +kernel
theorem dX2_reachedFrom_29 : decode cX2_reachedFrom 29 = .ok (.iconst 0, 1) := by decide +kernel
theorem dX2_reachedFrom_30 : decode cX2_reachedFrom 30 = .ok (.istore 6, 2) := by decide +kernel
theorem dX2_reachedFrom_32 : decode cX2_reachedFrom 32 = .ok (.iload 6, 2) := by decide +kernel
theorem dX2_reachedFrom_34 : decode cX2_reachedFrom 34 = .ok (.aload_n 0, 1) := by decide +kernel
theorem dX2_reachedFrom_35 : decode cX2_reachedFrom 35 = .ok (.getfield 51, 3) := by decide +kernel
theorem dX2_reachedFrom_38 : decode cX2_reachedFrom 38 = .ok (.if_icmp .ge 32, 3) := by decide +kernel
theorem dX2_reachedFrom_41 : decode cX2_reachedFrom 41 = .ok (.iload_n 3, 1) := by decide +kernel
theorem dX2_reachedFrom_42 : decode cX2_reachedFrom 42 = .ok (.iload_n 2, 1) := by decide +kernel
theorem dX2_reachedFrom_43 : decode cX2_reachedFrom 43 = .ok (.iconst (-1), 1) := by decide +kernel
theorem dX2_reachedFrom_44 : decode cX2_reachedFrom 44 = .ok (.ixor, 1) := by decide +kernel
theorem dX2_reachedFrom_45 : decode cX2_reachedFrom 45 = .ok (.iand, 1) := by decide +kernel
theorem dX2_reachedFrom_46 : decode cX2_reachedFrom 46 = .ok (.iload 6, 2) := by decide +kernel
theorem dX2_reachedFrom_48 : decode cX2_reachedFrom 48 = .ok (.invokestatic 55, 3) := by decide +kernel
theorem dX2_reachedFrom_51 : decode cX2_reachedFrom 51 = .ok (.ifCond .eq 13, 3) := by decide +kernel
theorem dX2_reachedFrom_54 : decode cX2_reachedFrom 54 = .ok (.iload_n 3, 1) := by decide +kernel
theorem dX2_reachedFrom_55 : decode cX2_reachedFrom 55 = .ok (.aload_n 0, 1) := by decide +kernel
theorem dX2_reachedFrom_56 : decode cX2_reachedFrom 56 = .ok (.getfield 9, 3) := by decide +kernel
theorem dX2_reachedFrom_59 : decode cX2_reachedFrom 59 = .ok (.iload 6, 2) := by decide +kernel
theorem dX2_reachedFrom_61 : decode cX2_reachedFrom 61 = .ok (.iaload, 1) := by decide +kernel
theorem dX2_reachedFrom_62 : decode cX2_reachedFrom 62 = .ok (.ior, 1) := by decide +kernel
theorem dX2_reachedFrom_63 : decode cX2_reachedFrom 63 = .ok (.istore_n 3, 1) := by decide +kernel
theorem dX2_reachedFrom_64 : decode cX2_reachedFrom 64 = .ok (.iinc 6 1, 3) := by decide +kernel
theorem dX2_reachedFrom_67 : decode cX2_reachedFrom 67 = .ok (.goto (-35), 3) := by decide +kernel
theorem dX2_reachedFrom_70 : decode cX2_reachedFrom 70 = .ok (.iinc 5 1, 3) := by decide +kernel
theorem dX2_reachedFrom_73 : decode cX2_reachedFrom 73 = .ok (.goto (-60), 3) := by decide +kernel
theorem dX2_reachedFrom_76 : decode cX2_reachedFrom 76 = .ok (.iload_n 3, 1) := by decide +kernel
theorem dX2_reachedFrom_77 : decode cX2_reachedFrom 77 = .ok (.ireturn, 1) := by decide +kernel
theorem dX2_withAllBehind_0 : decode cX2_withAllBehind 0 = .ok (.iload_n 1, 1) := by decide +kernel
theorem dX2_withAllBehind_1 : decode cX2_withAllBehind 1 = .ok (.istore_n 3, 1) := by decide +kernel
theorem dX2_withAllBehind_2 : decode cX2_withAllBehind 2 = .ok (.iconst 0, 1) := by decide +kernel
theorem dX2_withAllBehind_3 : decode cX2_withAllBehind 3 = .ok (.istore 4, 2) := by decide +kernel
theorem dX2_withAllBehind_5 : decode cX2_withAllBehind 5 = .ok (.iconst 0, 1) := by decide +kernel
theorem dX2_withAllBehind_6 : decode cX2_withAllBehind 6 = .ok (.istore 5, 2) := by decide +kernel
theorem dX2_withAllBehind_8 : decode cX2_withAllBehind 8 = .ok (.iload_n 3, 1) := by decide +kernel
theorem dX2_withAllBehind_9 : decode cX2_withAllBehind 9 = .ok (.iload 4, 2) := by decide +kernel
theorem dX2_withAllBehind_11 : decode cX2_withAllBehind 11 = .ok (.if_icmp .eq 53, 3) := by decide +kernel
theorem dX2_withAllBehind_14 : decode cX2_withAllBehind 14 = .ok (.iload 5, 2) := by decide +kernel
theorem dX2_withAllBehind_16 : decode cX2_withAllBehind 16 = .ok (.bipush 24, 2) := by decide +kernel
theorem dX2_withAllBehind_18 : decode cX2_withAllBehind 18 = .ok (.if_icmp .gt 46, 3) := by decide +kernel
theorem dX2_withAllBehind_21 : decode cX2_withAllBehind 21 = .ok (.iload_n 3, 1) := by decide +kernel
theorem dX2_withAllBehind_22 : decode cX2_withAllBehind 22 = .ok (.istore 4, 2) := by decide +kernel
theorem dX2_withAllBehind_24 : decode cX2_withAllBehind 24 = .ok (.iconst 0, 1) := by decide +kernel
theorem dX2_withAllBehind_25 : decode cX2_withAllBehind 25 = .ok (.istore 6, 2) := by decide +kernel
theorem dX2_withAllBehind_27 : decode cX2_withAllBehind 27 = .ok (.iload 6, 2) := by decide +kernel
theorem dX2_withAllBehind_29 : decode cX2_withAllBehind 29 = .ok (.aload_n 0, 1) := by decide +kernel
theorem dX2_withAllBehind_30 : decode cX2_withAllBehind 30 = .ok (.getfield 51, 3) := by decide +kernel
theorem dX2_withAllBehind_33 : decode cX2_withAllBehind 33 = .ok (.if_icmp .ge 25, 3) := by decide +kernel
theorem dX2_withAllBehind_36 : decode cX2_withAllBehind 36 = .ok (.iload_n 3, 1) := by decide +kernel
theorem dX2_withAllBehind_37 : decode cX2_withAllBehind 37 = .ok (.iload 6, 2) := by decide +kernel
theorem dX2_withAllBehind_39 : decode cX2_withAllBehind 39 = .ok (.invokestatic 55, 3) := by decide +kernel
theorem dX2_withAllBehind_42 : decode cX2_withAllBehind 42 = .ok (.ifCond .eq 10, 3) := by decide +kernel
theorem dX2_withAllBehind_45 : decode cX2_withAllBehind 45 = .ok (.iload_n 3, 1) := by decide +kernel
theorem dX2_withAllBehind_46 : decode cX2_withAllBehind 46 = .ok (.aload_n 2, 1) := by decide +kernel
theorem dX2_withAllBehind_47 : decode cX2_withAllBehind 47 = .ok (.iload 6, 2) := by decide +kernel
theorem dX2_withAllBehind_49 : decode cX2_withAllBehind 49 = .ok (.iaload, 1) := by decide +kernel
theorem dX2_withAllBehind_50 : decode cX2_withAllBehind 50 = .ok (.ior, 1) := by decide +kernel
theorem dX2_withAllBehind_51 : decode cX2_withAllBehind 51 = .ok (.istore_n 3, 1) := by decide +kernel
theorem dX2_withAllBehind_52 : decode cX2_withAllBehind 52 = .ok (.iinc 6 1, 3) := by decide +kernel
theorem dX2_withAllBehind_55 : decode cX2_withAllBehind 55 = .ok (.goto (-28), 3) := by decide +kernel
theorem dX2_withAllBehind_58 : decode cX2_withAllBehind 58 = .ok (.iinc 5 1, 3) := by decide +kernel
theorem dX2_withAllBehind_61 : decode cX2_withAllBehind 61 = .ok (.goto (-53), 3) := by decide +kernel
theorem dX2_withAllBehind_64 : decode cX2_withAllBehind 64 = .ok (.iload_n 3, 1) := by decide +kernel
theorem dX2_withAllBehind_65 : decode cX2_withAllBehind 65 = .ok (.ireturn, 1) := by decide +kernel
