theorem dX1_init_0 : decode cX1_init 0 = .ok (.aload_n 0, 1) := by decide +kernel
theorem dX1_init_1 : decode cX1_init 1 = .ok (.invokespecial 3, 3) := by decide +kernel
theorem dX1_init_4 : decode cX1_init 4 = .ok (.aload_n 0, 1) := by decide +kernel
theorem dX1_init_5 : decode cX1_init 5 = .ok (.bipush 24, 2) := by decide +kernel
theorem dX1_init_7 : decode cX1_init 7 = .ok (.newarray .int, 2) := by decide +kernel
theorem dX1_init_9 : decode cX1_init 9 = .ok (.putfield 9, 3) := by decide +kernel
theorem dX1_init_12 : decode cX1_init 12 = .ok (.aload_n 0, 1) := by decide +kernel
theorem dX1_init_13 : decode cX1_init 13 = .ok (.bipush 24, 2) := by decide +kernel
theorem dX1_init_15 : decode cX1_init 15 = .ok (.newarray .int, 2) := by decide +kernel
theorem dX1_init_17 : decode cX1_init 17 = .ok (.putfield 15, 3) := by decide +kernel
theorem dX1_init_20 : decode cX1_init 20 = .ok (.aload_n 0, 1) := by decide +kernel
theorem dX1_init_21 : decode cX1_init 21 = .ok (.bipush 24, 2) := by decide +kernel
theorem dX1_init_23 : decode cX1_init 23 = .ok (.newarray .int, 2) := by decide +kernel
theorem dX1_init_25 : decode cX1_init 25 = .ok (.putfield 18, 3) := by decide +kernel
theorem dX1_init_28 : decode cX1_init 28 = .ok (.aload_n 0, 1) := by decide +kernel
theorem dX1_init_29 : decode cX1_init 29 = .ok (.bipush 24, 2) := by decide +kernel
theorem dX1_init_31 : decode cX1_init 31 = .ok (.newarray .int, 2) := by decide +kernel
theorem dX1_init_33 : decode cX1_init 33 = .ok (.putfield 21, 3) := by decide +kernel
theorem dX1_init_36 : decode cX1_init 36 = .ok (.aload_n 0, 1) := by decide +kernel
theorem dX1_init_37 : decode cX1_init 37 = .ok (.iconst 4, 1) := by decide +kernel
theorem dX1_init_38 : decode cX1_init 38 = .ok (.newarray .int, 2) := by decide +kernel
theorem dX1_init_40 : decode cX1_init 40 = .ok (.putfield 24, 3) := by decide +kernel
theorem dX1_init_43 : decode cX1_init 43 = .ok (.aload_n 0, 1) := by decide +kernel
theorem dX1_init_44 : decode cX1_init 44 = .ok (.iconst 4, 1) := by decide +kernel
theorem dX1_init_45 : decode cX1_init 45 = .ok (.newarray .boolean, 2) := by decide +kernel
theorem dX1_init_47 : decode cX1_init 47 = .ok (.putfield 27, 3) := by decide +kernel
theorem dX1_init_50 : decode cX1_init 50 = .ok (.aload_n 0, 1) := by decide +kernel
theorem dX1_init_51 : decode cX1_init 51 = .ok (.iconst 4, 1) := by decide +kernel
theorem dX1_init_52 : decode cX1_init 52 = .ok (.newarray .int, 2) := by decide +kernel
theorem dX1_init_54 : decode cX1_init 54 = .ok (.putfield 31, 3) := by decide +kernel
theorem dX1_init_57 : decode cX1_init 57 = .ok (.iconst 0, 1) := by decide +kernel
theorem dX1_init_58 : decode cX1_init 58 = .ok (.istore_n 1, 1) := by decide +kernel
theorem dX1_init_59 : decode cX1_init 59 = .ok (.iload_n 1, 1) := by decide +kernel
theorem dX1_init_60 : decode cX1_init 60 = .ok (.iconst 4, 1) := by decide +kernel
theorem dX1_init_61 : decode cX1_init 61 = .ok (.if_icmp .ge 16, 3) := by decide +kernel
theorem dX1_init_64 : decode cX1_init 64 = .ok (.aload_n 0, 1) := by decide +kernel
theorem dX1_init_65 : decode cX1_init 65 = .ok (.getfield 31, 3) := by decide +kernel
theorem dX1_init_68 : decode cX1_init 68 = .ok (.iload_n 1, 1) := by decide +kernel
theorem dX1_init_69 : decode cX1_init 69 = .ok (.iconst 1, 1) := by decide +kernel
theorem dX1_init_70 : decode cX1_init 70 = .ok (.iastore, 1) := by decide +kernel
theorem dX1_init_71 : decode cX1_init 71 = .ok (.iinc 1 1, 3) := by decide +kernel
theorem dX1_init_74 : decode cX1_init 74 = .ok (.goto (-15), 3) := by decide +kernel
theorem dX1_init_77 : decode cX1_init 77 = .ok (.return_, 1) := by decide +kernel
theorem dX1_allows_0 : decode cX1_allows 0 = .ok (.iload_n 0, 1) := by decide +kernel
theorem dX1_allows_1 : decode cX1_allows 1 = .ok (.ifCond .lt 49, 3) := by decide +kernel
theorem dX1_allows_4 : decode cX1_allows 4 = .ok (.iload_n 0, 1) := by decide +kernel
theorem dX1_allows_5 : decode cX1_allows 5 = .ok (.bipush 14, 2) := by decide +kernel
theorem dX1_allows_7 : decode cX1_allows 7 = .ok (.if_icmp .ge 43, 3) := by decide +kernel
theorem dX1_allows_10 : decode cX1_allows 10 = .ok (.iload_n 1, 1) := by decide +kernel
theorem dX1_allows_11 : decode cX1_allows 11 = .ok (.getstatic 34, 3) := by decide +kernel
theorem dX1_allows_14 : decode cX1_allows 14 = .ok (.iload_n 0, 1) := by decide +kernel
theorem dX1_allows_15 : decode cX1_allows 15 = .ok (.iaload, 1) := by decide +kernel
theorem dX1_allows_16 : decode cX1_allows 16 = .ok (.invokestatic 37, 3) := by decide +kernel
theorem dX1_allows_19 : decode cX1_allows 19 = .ok (.ifCond .eq 31, 3) := by decide +kernel
theorem dX1_allows_22 : decode cX1_allows 22 = .ok (.iload_n 2, 1) := by decide +kernel
theorem dX1_allows_23 : decode cX1_allows 23 = .ok (.getstatic 41, 3) := by decide +kernel
theorem dX1_allows_26 : decode cX1_allows 26 = .ok (.iload_n 0, 1) := by decide +kernel
theorem dX1_allows_27 : decode cX1_allows 27 = .ok (.iaload, 1) := by decide +kernel
theorem dX1_allows_28 : decode cX1_allows 28 = .ok (.invokestatic 37, 3) := by decide +kernel
theorem dX1_allows_31 : decode cX1_allows 31 = .ok (.ifCond .eq 19, 3) := by decide +kernel
theorem dX1_allows_34 : decode cX1_allows 34 = .ok (.iload_n 3, 1) := by decide +kernel
theorem dX1_allows_35 : decode cX1_allows 35 = .ok (.getstatic 44, 3) := by decide +kernel
theorem dX1_allows_38 : decode cX1_allows 38 = .ok (.iload_n 0, 1) := by decide +kernel
theorem dX1_allows_39 : decode cX1_allows 39 = .ok (.iaload, 1) := by decide +kernel
theorem dX1_allows_40 : decode cX1_allows 40 = .ok (.invokestatic 37, 3) := by decide +kernel
theorem dX1_allows_43 : decode cX1_allows 43 = .ok (.ifCond .eq 7, 3) := by decide +kernel
theorem dX1_allows_46 : decode cX1_allows 46 = .ok (.iconst 1, 1) := by decide +kernel
theorem dX1_allows_47 : decode cX1_allows 47 = .ok (.goto 4, 3) := by decide +kernel
theorem dX1_allows_50 : decode cX1_allows 50 = .ok (.iconst 0, 1) := by decide +kernel
theorem dX1_allows_51 : decode cX1_allows 51 = .ok (.ireturn, 1) := by decide +kernel
theorem dX1_isBelow_0 : decode cX1_isBelow 0 = .ok (.iload_n 1, 1) := by decide +kernel
theorem dX1_isBelow_1 : decode cX1_isBelow 1 = .ok (.ifCond .eq 12, 3) := by decide +kernel
theorem dX1_isBelow_4 : decode cX1_isBelow 4 = .ok (.iload_n 0, 1) := by decide +kernel
theorem dX1_isBelow_5 : decode cX1_isBelow 5 = .ok (.ifCond .lt 12, 3) := by decide +kernel
theorem dX1_isBelow_8 : decode cX1_isBelow 8 = .ok (.iload_n 0, 1) := by decide +kernel
theorem dX1_isBelow_9 : decode cX1_isBelow 9 = .ok (.iload_n 1, 1) := by decide +kernel
theorem dX1_isBelow_10 : decode cX1_isBelow 10 = .ok (.if_icmp .ge 7, 3) := by decide +kernel
theorem dX1_isBelow_13 : decode cX1_isBelow 13 = .ok (.iconst 1, 1) := by decide +kernel
theorem dX1_isBelow_14 : decode cX1_isBelow 14 = .ok (.goto 4, 3) := by decide +kernel
theorem dX1_isBelow_17 : decode cX1_isBelow 17 = .ok (.iconst 0, 1) := by decide +kernel
theorem dX1_isBelow_18 : decode cX1_isBelow 18 = .ok (.ireturn, 1) := by decide +kernel
theorem dX1_has_0 : decode cX1_has 0 = .ok (.iload_n 1, 1) := by decide +kernel
theorem dX1_has_1 : decode cX1_has 1 = .ok (.ifCond .lt 15, 3) := by decide +kernel
theorem dX1_has_4 : decode cX1_has 4 = .ok (.iload_n 1, 1) := by decide +kernel
theorem dX1_has_5 : decode cX1_has 5 = .ok (.aload_n 0, 1) := by decide +kernel
theorem dX1_has_6 : decode cX1_has 6 = .ok (.getfield 47, 3) := by decide +kernel
theorem dX1_has_9 : decode cX1_has 9 = .ok (.if_icmp .ge 7, 3) := by decide +kernel
theorem dX1_has_12 : decode cX1_has 12 = .ok (.iconst 1, 1) := by decide +kernel
theorem dX1_has_13 : decode cX1_has 13 = .ok (.goto 4, 3) := by decide +kernel
theorem dX1_has_16 : decode cX1_has 16 = .ok (.iconst 0, 1) := by decide +kernel
theorem dX1_has_17 : decode cX1_has 17 = .ok (.ireturn, 1) := by decide +kernel
theorem dX1_all_0 : decode cX1_all 0 = .ok (.iconst 1, 1) := by decide +kernel
theorem dX1_all_1 : decode cX1_all 1 = .ok (.aload_n 0, 1) := by decide +kernel
theorem dX1_all_2 : decode cX1_all 2 = .ok (.getfield 47, 3) := by decide +kernel
theorem dX1_all_5 : decode cX1_all 5 = .ok (.ishl, 1) := by decide +kernel
theorem dX1_all_6 : decode cX1_all 6 = .ok (.iconst 1, 1) := by decide +kernel
theorem dX1_all_7 : decode cX1_all 7 = .ok (.isub, 1) := by decide +kernel
theorem dX1_all_8 : decode cX1_all 8 = .ok (.ireturn, 1) := by decide +kernel
theorem dX1_write_0 : decode cX1_write 0 = .ok (.aload_n 0, 1) := by decide +kernel
theorem dX1_write_1 : decode cX1_write 1 = .ok (.getfield 9, 3) := by decide +kernel
theorem dX1_write_4 : decode cX1_write 4 = .ok (.iload_n 1, 1) := by decide +kernel
theorem dX1_write_5 : decode cX1_write 5 = .ok (.iload_n 2, 1) := by decide +kernel
theorem dX1_write_6 : decode cX1_write 6 = .ok (.iastore, 1) := by decide +kernel
theorem dX1_write_7 : decode cX1_write 7 = .ok (.aload_n 0, 1) := by decide +kernel
theorem dX1_write_8 : decode cX1_write 8 = .ok (.getfield 15, 3) := by decide +kernel
theorem dX1_write_11 : decode cX1_write 11 = .ok (.iload_n 1, 1) := by decide +kernel
theorem dX1_write_12 : decode cX1_write 12 = .ok (.iload_n 3, 1) := by decide +kernel
theorem dX1_write_13 : decode cX1_write 13 = .ok (.iastore, 1) := by decide +kernel
theorem dX1_write_14 : decode cX1_write 14 = .ok (.aload_n 0, 1) := by decide +kernel
theorem dX1_write_15 : decode cX1_write 15 = .ok (.getfield 18, 3) := by decide +kernel
theorem dX1_write_18 : decode cX1_write 18 = .ok (.iload_n 1, 1) := by decide +kernel
theorem dX1_write_19 : decode cX1_write 19 = .ok (.iload 4, 2) := by decide +kernel
theorem dX1_write_21 : decode cX1_write 21 = .ok (.iastore, 1) := by decide +kernel
theorem dX1_write_22 : decode cX1_write 22 = .ok (.aload_n 0, 1) := by decide +kernel
theorem dX1_write_23 : decode cX1_write 23 = .ok (.getfield 21, 3) := by decide +kernel
theorem dX1_write_26 : decode cX1_write 26 = .ok (.iload_n 1, 1) := by decide +kernel
theorem dX1_write_27 : decode cX1_write 27 = .ok (.iload 5, 2) := by decide +kernel
theorem dX1_write_29 : decode cX1_write 29 = .ok (.iastore, 1) := by decide +kernel
theorem dX1_write_30 : decode cX1_write 30 = .ok (.return_, 1) := by decide +kernel
theorem dX1_isOfFailingGlobal_0 : decode cX1_isOfFailingGlobal 0 = .ok (.aload_n 0, 1) := by decide +kernel
theorem dX1_isOfFailingGlobal_1 : decode cX1_isOfFailingGlobal 1 = .ok (.getfield 9, 3) := by decide +kernel
theorem dX1_isOfFailingGlobal_4 : decode cX1_isOfFailingGlobal 4 = .ok (.iload_n 1, 1) := by decide +kernel
theorem dX1_isOfFailingGlobal_5 : decode cX1_isOfFailingGlobal 5 = .ok (.iaload, 1) := by decide +kernel
theorem dX1_isOfFailingGlobal_6 : decode cX1_isOfFailingGlobal 6 = .ok (.bipush 9, 2) := by decide +kernel
theorem dX1_isOfFailingGlobal_8 : decode cX1_isOfFailingGlobal 8 = .ok (.if_icmp .eq 14, 3) := by decide +kernel
theorem dX1_isOfFailingGlobal_11 : decode cX1_isOfFailingGlobal 11 = .ok (.aload_n 0, 1) := by decide +kernel
theorem dX1_isOfFailingGlobal_12 : decode cX1_isOfFailingGlobal 12 = .ok (.getfield 9, 3) := by decide +kernel
theorem dX1_isOfFailingGlobal_15 : decode cX1_isOfFailingGlobal 15 = .ok (.iload_n 1, 1) := by decide +kernel
theorem dX1_isOfFailingGlobal_16 : decode cX1_isOfFailingGlobal 16 = .ok (.iaload, 1) := by decide +kernel
theorem dX1_isOfFailingGlobal_17 : decode cX1_isOfFailingGlobal 17 = .ok (.bipush 10, 2) := by decide +kernel
theorem dX1_isOfFailingGlobal_19 : decode cX1_isOfFailingGlobal 19 = .ok (.if_icmp .ne 21, 3) := by decide +kernel
theorem dX1_isOfFailingGlobal_22 : decode cX1_isOfFailingGlobal 22 = .ok (.aload_n 0, 1) := by decide +kernel
theorem dX1_isOfFailingGlobal_23 : decode cX1_isOfFailingGlobal 23 = .ok (.getfield 27, 3) := by decide +kernel
theorem dX1_isOfFailingGlobal_26 : decode cX1_isOfFailingGlobal 26 = .ok (.aload_n 0, 1) := by decide +kernel
theorem dX1_isOfFailingGlobal_27 : decode cX1_isOfFailingGlobal 27 = .ok (.getfield 18, 3) := by decide +kernel
theorem dX1_isOfFailingGlobal_30 : decode cX1_isOfFailingGlobal 30 = .ok (.iload_n 1, 1) := by decide +kernel
theorem dX1_isOfFailingGlobal_31 : decode cX1_isOfFailingGlobal 31 = .ok (.iaload, 1) := by decide +kernel
theorem dX1_isOfFailingGlobal_32 : decode cX1_isOfFailingGlobal 32 = .ok (.baload, 1) := by decide +kernel
theorem dX1_isOfFailingGlobal_33 : decode cX1_isOfFailingGlobal 33 = .ok (.ifCond .eq 7, 3) := by decide +kernel
theorem dX1_isOfFailingGlobal_36 : decode cX1_isOfFailingGlobal 36 = .ok (.iconst 1, 1) := by decide +kernel
theorem dX1_isOfFailingGlobal_37 : decode cX1_isOfFailingGlobal 37 = .ok (.goto 4, 3) := by decide +kernel
theorem dX1_isOfFailingGlobal_40 : decode cX1_isOfFailingGlobal 40 = .ok (.iconst 0, 1) := by decide +kernel
theorem dX1_isOfFailingGlobal_41 : decode cX1_isOfFailingGlobal 41 = .ok (.ireturn, 1) := by decide +kernel
theorem dX1_bitOf_0 : decode cX1_bitOf 0 = .ok (.iconst 1, 1) := by decide +kernel
theorem dX1_bitOf_1 : decode cX1_bitOf 1 = .ok (.iload_n 1, 1) := by decide +kernel
theorem dX1_bitOf_2 : decode cX1_bitOf 2 = .ok (.aload_n 0, 1) := by decide +kernel
theorem dX1_bitOf_3 : decode cX1_bitOf 3 = .ok (.getfield 47, 3) := by decide +kernel
theorem dX1_bitOf_6 : decode cX1_bitOf 6 = .ok (.if_icmp .ge 7, 3) := by decide +kernel
theorem dX1_bitOf_9 : decode cX1_bitOf 9 = .ok (.iload_n 1, 1) := by decide +kernel
theorem dX1_bitOf_10 : decode cX1_bitOf 10 = .ok (.goto 5, 3) := by decide +kernel
theorem dX1_bitOf_13 : decode cX1_bitOf 13 = .ok (.bipush 24, 2) := by decide +kernel
theorem dX1_bitOf_15 : decode cX1_bitOf 15 = .ok (.ishl, 1) := by decide +kernel
theorem dX1_bitOf_16 : decode cX1_bitOf 16 = .ok (.ireturn, 1) := by decide +kernel
theorem dX1_nextsOf_0 : decode cX1_nextsOf 0 = .ok (.aload_n 0, 1) := by decide +kernel
theorem dX1_nextsOf_1 : decode cX1_nextsOf 1 = .ok (.iload_n 1, 1) := by decide +kernel
theorem dX1_nextsOf_2 : decode cX1_nextsOf 2 = .ok (.iconst 1, 1) := by decide +kernel
theorem dX1_nextsOf_3 : decode cX1_nextsOf 3 = .ok (.iadd, 1) := by decide +kernel
theorem dX1_nextsOf_4 : decode cX1_nextsOf 4 = .ok (.invokevirtual 51, 3) := by decide +kernel
theorem dX1_nextsOf_7 : decode cX1_nextsOf 7 = .ok (.istore_n 2, 1) := by decide +kernel
theorem dX1_nextsOf_8 : decode cX1_nextsOf 8 = .ok (.aload_n 0, 1) := by decide +kernel
theorem dX1_nextsOf_9 : decode cX1_nextsOf 9 = .ok (.getfield 9, 3) := by decide +kernel
theorem dX1_nextsOf_12 : decode cX1_nextsOf 12 = .ok (.iload_n 1, 1) := by decide +kernel
theorem dX1_nextsOf_13 : decode cX1_nextsOf 13 = .ok (.iaload, 1) := by decide +kernel
theorem dX1_nextsOf_14 : decode cX1_nextsOf 14 = .ok (.tableswitch 78 6 13 #[73, 78, 78, 78, 78, 46, 59, 70], 46) := by decide +kernel
theorem dX1_nextsOf_60 : decode cX1_nextsOf 60 = .ok (.iload_n 2, 1) := by decide +kernel
theorem dX1_nextsOf_61 : decode cX1_nextsOf 61 = .ok (.aload_n 0, 1) := by decide +kernel
theorem dX1_nextsOf_62 : decode cX1_nextsOf 62 = .ok (.aload_n 0, 1) := by decide +kernel
theorem dX1_nextsOf_63 : decode cX1_nextsOf 63 = .ok (.getfield 18, 3) := by decide +kernel
theorem dX1_nextsOf_66 : decode cX1_nextsOf 66 = .ok (.iload_n 1, 1) := by decide +kernel
theorem dX1_nextsOf_67 : decode cX1_nextsOf 67 = .ok (.iaload, 1) := by decide +kernel
theorem dX1_nextsOf_68 : decode cX1_nextsOf 68 = .ok (.invokevirtual 51, 3) := by decide +kernel
theorem dX1_nextsOf_71 : decode cX1_nextsOf 71 = .ok (.ior, 1) := by decide +kernel
theorem dX1_nextsOf_72 : decode cX1_nextsOf 72 = .ok (.ireturn, 1) := by decide +kernel
theorem dX1_nextsOf_73 : decode cX1_nextsOf 73 = .ok (.aload_n 0, 1) := by decide +kernel
theorem dX1_nextsOf_74 : decode cX1_nextsOf 74 = .ok (.aload_n 0, 1) := by decide +kernel
theorem dX1_nextsOf_75 : decode cX1_nextsOf 75 = .ok (.getfield 18, 3) := by decide +kernel
theorem dX1_nextsOf_78 : decode cX1_nextsOf 78 = .ok (.iload_n 1, 1) := by decide +kernel
theorem dX1_nextsOf_79 : decode cX1_nextsOf 79 = .ok (.iaload, 1) := by decide +kernel
theorem dX1_nextsOf_80 : decode cX1_nextsOf 80 = .ok (.invokevirtual 51, 3) := by decide +kernel
theorem dX1_nextsOf_83 : decode cX1_nextsOf 83 = .ok (.ireturn, 1) := by decide +kernel
theorem dX1_nextsOf_84 : decode cX1_nextsOf 84 = .ok (.ldc 55, 2) := by decide +kernel
theorem dX1_nextsOf_86 : decode cX1_nextsOf 86 = .ok (.ireturn, 1) := by decide +kernel
theorem dX1_nextsOf_87 : decode cX1_nextsOf 87 = .ok (.iload_n 2, 1) := by decide +kernel
theorem dX1_nextsOf_88 : decode cX1_nextsOf 88 = .ok (.ldc 55, 2) := by decide +kernel
theorem dX1_nextsOf_90 : decode cX1_nextsOf 90 = .ok (.ior, 1) := by decide +kernel
theorem dX1_nextsOf_91 : decode cX1_nextsOf 91 = .ok (.ireturn, 1) := by decide +kernel
theorem dX1_nextsOf_92 : decode cX1_nextsOf 92 = .ok (.aload_n 0, 1) := by decide +kernel
theorem dX1_nextsOf_93 : decode cX1_nextsOf 93 = .ok (.iload_n 1, 1) := by decide +kernel
theorem dX1_nextsOf_94 : decode cX1_nextsOf 94 = .ok (.invokevirtual 56, 3) := by decide +kernel
theorem dX1_nextsOf_97 : decode cX1_nextsOf 97 = .ok (.ifCond .eq 10, 3) := by decide +kernel
theorem dX1_nextsOf_100 : decode cX1_nextsOf 100 = .ok (.iload_n 2, 1) := by decide +kernel
theorem dX1_nextsOf_101 : decode cX1_nextsOf 101 = .ok (.ldc 55, 2) := by decide +kernel
theorem dX1_nextsOf_103 : decode cX1_nextsOf 103 = .ok (.ior, 1) := by decide +kernel
theorem dX1_nextsOf_104 : decode cX1_nextsOf 104 = .ok (.goto 4, 3) := by decide +kernel
theorem dX1_nextsOf_107 : decode cX1_nextsOf 107 = .ok (.iload_n 2, 1) := by decide +kernel
theorem dX1_nextsOf_108 : decode cX1_nextsOf 108 = .ok (.ireturn, 1) := by decide +kernel
theorem dX1_widerNextsOf_0 : decode cX1_widerNextsOf 0 = .ok (.aload_n 0, 1) := by decide +kernel
theorem dX1_widerNextsOf_1 : decode cX1_widerNextsOf 1 = .ok (.iload_n 1, 1) := by decide +kernel
theorem dX1_widerNextsOf_2 : decode cX1_widerNextsOf 2 = .ok (.invokevirtual 60, 3) := by decide +kernel
theorem dX1_widerNextsOf_5 : decode cX1_widerNextsOf 5 = .ok (.aload_n 0, 1) := by decide +kernel
theorem dX1_widerNextsOf_6 : decode cX1_widerNextsOf 6 = .ok (.iload_n 1, 1) := by decide +kernel
theorem dX1_widerNextsOf_7 : decode cX1_widerNextsOf 7 = .ok (.iconst 1, 1) := by decide +kernel
theorem dX1_widerNextsOf_8 : decode cX1_widerNextsOf 8 = .ok (.iadd, 1) := by decide +kernel
theorem dX1_widerNextsOf_9 : decode cX1_widerNextsOf 9 = .ok (.invokevirtual 51, 3) := by decide +kernel
theorem dX1_widerNextsOf_12 : decode cX1_widerNextsOf 12 = .ok (.ior, 1) := by decide +kernel
theorem dX1_widerNextsOf_13 : decode cX1_widerNextsOf 13 = .ok (.ireturn, 1) := by decide +kernel
theorem dX1_registerBit_0 : decode cX1_registerBit 0 = .ok (.iconst 1, 1) := by decide +kernel
theorem dX1_registerBit_1 : decode cX1_registerBit 1 = .ok (.iload_n 0, 1) := by decide +kernel
theorem dX1_registerBit_2 : decode cX1_registerBit 2 = .ok (.ishl, 1) := by decide +kernel
theorem dX1_registerBit_3 : decode cX1_registerBit 3 = .ok (.ireturn, 1) := by decide +kernel
theorem dX1_globalBit_0 : decode cX1_globalBit 0 = .ok (.iconst 1, 1) := by decide +kernel
theorem dX1_globalBit_1 : decode cX1_globalBit 1 = .ok (.bipush 8, 2) := by decide +kernel
theorem dX1_globalBit_3 : decode cX1_globalBit 3 = .ok (.iload_n 0, 1) := by decide +kernel
theorem dX1_globalBit_4 : decode cX1_globalBit 4 = .ok (.iadd, 1) := by decide +kernel
theorem dX1_globalBit_5 : decode cX1_globalBit 5 = .ok (.ishl, 1) := by decide +kernel
theorem dX1_globalBit_6 : decode cX1_globalBit 6 = .ok (.ireturn, 1) := by decide +kernel
theorem dX1_setBy_0 : decode cX1_setBy 0 = .ok (.aload_n 0, 1) := by decide +kernel
theorem dX1_setBy_1 : decode cX1_setBy 1 = .ok (.getfield 9, 3) := by decide +kernel
theorem dX1_setBy_4 : decode cX1_setBy 4 = .ok (.iload_n 1, 1) := by decide +kernel
theorem dX1_setBy_5 : decode cX1_setBy 5 = .ok (.iaload, 1) := by decide +kernel
theorem dX1_setBy_6 : decode cX1_setBy 6 = .ok (.tableswitch 74 1 10 #[54, 54, 54, 54, 54, 54, 74, 54, 54, 64], 54) := by decide +kernel
theorem dX1_setBy_60 : decode cX1_setBy 60 = .ok (.aload_n 0, 1) := by decide +kernel
theorem dX1_setBy_61 : decode cX1_setBy 61 = .ok (.getfield 15, 3) := by decide +kernel
theorem dX1_setBy_64 : decode cX1_setBy 64 = .ok (.iload_n 1, 1) := by decide +kernel
theorem dX1_setBy_65 : decode cX1_setBy 65 = .ok (.iaload, 1) := by decide +kernel
theorem dX1_setBy_66 : decode cX1_setBy 66 = .ok (.invokestatic 63, 3) := by decide +kernel
theorem dX1_setBy_69 : decode cX1_setBy 69 = .ok (.ireturn, 1) := by decide +kernel
theorem dX1_setBy_70 : decode cX1_setBy 70 = .ok (.aload_n 0, 1) := by decide +kernel
theorem dX1_setBy_71 : decode cX1_setBy 71 = .ok (.getfield 18, 3) := by decide +kernel
theorem dX1_setBy_74 : decode cX1_setBy 74 = .ok (.iload_n 1, 1) := by decide +kernel
theorem dX1_setBy_75 : decode cX1_setBy 75 = .ok (.iaload, 1) := by decide +kernel
theorem dX1_setBy_76 : decode cX1_setBy 76 = .ok (.invokestatic 66, 3) := by decide +kernel
theorem dX1_setBy_79 : decode cX1_setBy 79 = .ok (.ireturn, 1) := by decide +kernel
theorem dX1_setBy_80 : decode cX1_setBy 80 = .ok (.iconst 0, 1) := by decide +kernel
theorem dX1_setBy_81 : decode cX1_setBy 81 = .ok (.ireturn, 1) := by decide +kernel
theorem dX1_readBy_0 : decode cX1_readBy 0 = .ok (.aload_n 0, 1) := by decide +kernel
theorem dX1_readBy_1 : decode cX1_readBy 1 = .ok (.getfield 9, 3) := by decide +kernel
theorem dX1_readBy_4 : decode cX1_readBy 4 = .ok (.iload_n 1, 1) := by decide +kernel
theorem dX1_readBy_5 : decode cX1_readBy 5 = .ok (.iaload, 1) := by decide +kernel
theorem dX1_readBy_6 : decode cX1_readBy 6 = .ok (.tableswitch 74 7 11 #[34, 54, 74, 74, 64], 34) := by decide +kernel
theorem dX1_readBy_40 : decode cX1_readBy 40 = .ok (.aload_n 0, 1) := by decide +kernel
theorem dX1_readBy_41 : decode cX1_readBy 41 = .ok (.getfield 15, 3) := by decide +kernel
theorem dX1_readBy_44 : decode cX1_readBy 44 = .ok (.iload_n 1, 1) := by decide +kernel
theorem dX1_readBy_45 : decode cX1_readBy 45 = .ok (.iaload, 1) := by decide +kernel
theorem dX1_readBy_46 : decode cX1_readBy 46 = .ok (.invokestatic 63, 3) := by decide +kernel
theorem dX1_readBy_49 : decode cX1_readBy 49 = .ok (.aload_n 0, 1) := by decide +kernel
theorem dX1_readBy_50 : decode cX1_readBy 50 = .ok (.getfield 18, 3) := by decide +kernel
theorem dX1_readBy_53 : decode cX1_readBy 53 = .ok (.iload_n 1, 1) := by decide +kernel
theorem dX1_readBy_54 : decode cX1_readBy 54 = .ok (.iaload, 1) := by decide +kernel
theorem dX1_readBy_55 : decode cX1_readBy 55 = .ok (.invokestatic 63, 3) := by decide +kernel
theorem dX1_readBy_58 : decode cX1_readBy 58 = .ok (.ior, 1) := by decide +kernel
theorem dX1_readBy_59 : decode cX1_readBy 59 = .ok (.ireturn, 1) := by decide +kernel
theorem dX1_readBy_60 : decode cX1_readBy 60 = .ok (.aload_n 0, 1) := by decide +kernel
theorem dX1_readBy_61 : decode cX1_readBy 61 = .ok (.getfield 18, 3) := by decide +kernel
theorem dX1_readBy_64 : decode cX1_readBy 64 = .ok (.iload_n 1, 1) := by decide +kernel
theorem dX1_readBy_65 : decode cX1_readBy 65 = .ok (.iaload, 1) := by decide +kernel
theorem dX1_readBy_66 : decode cX1_readBy 66 = .ok (.invokestatic 63, 3) := by decide +kernel
theorem dX1_readBy_69 : decode cX1_readBy 69 = .ok (.ireturn, 1) := by decide +kernel
theorem dX1_readBy_70 : decode cX1_readBy 70 = .ok (.aload_n 0, 1) := by decide +kernel
theorem dX1_readBy_71 : decode cX1_readBy 71 = .ok (.getfield 15, 3) := by decide +kernel
theorem dX1_readBy_74 : decode cX1_readBy 74 = .ok (.iload_n 1, 1) := by decide +kernel
theorem dX1_readBy_75 : decode cX1_readBy 75 = .ok (.iaload, 1) := by decide +kernel
theorem dX1_readBy_76 : decode cX1_readBy 76 = .ok (.invokestatic 63, 3) := by decide +kernel
theorem dX1_readBy_79 : decode cX1_readBy 79 = .ok (.ireturn, 1) := by decide +kernel
theorem dX1_readBy_80 : decode cX1_readBy 80 = .ok (.aload_n 0, 1) := by decide +kernel
theorem dX1_readBy_81 : decode cX1_readBy 81 = .ok (.iload_n 1, 1) := by decide +kernel
theorem dX1_readBy_82 : decode cX1_readBy 82 = .ok (.invokevirtual 69, 3) := by decide +kernel
theorem dX1_readBy_85 : decode cX1_readBy 85 = .ok (.ireturn, 1) := by decide +kernel
theorem dX1_thinlyReadBy_0 : decode cX1_thinlyReadBy 0 = .ok (.aload_n 0, 1) := by decide +kernel
theorem dX1_thinlyReadBy_1 : decode cX1_thinlyReadBy 1 = .ok (.getfield 9, 3) := by decide +kernel
theorem dX1_thinlyReadBy_4 : decode cX1_thinlyReadBy 4 = .ok (.iload_n 1, 1) := by decide +kernel
theorem dX1_thinlyReadBy_5 : decode cX1_thinlyReadBy 5 = .ok (.iaload, 1) := by decide +kernel
theorem dX1_thinlyReadBy_6 : decode cX1_thinlyReadBy 6 = .ok (.tableswitch 86 3 10 #[46, 46, 46, 46, 66, 86, 76, 66], 46) := by decide +kernel
theorem dX1_thinlyReadBy_52 : decode cX1_thinlyReadBy 52 = .ok (.aload_n 0, 1) := by decide +kernel
theorem dX1_thinlyReadBy_53 : decode cX1_thinlyReadBy 53 = .ok (.getfield 18, 3) := by decide +kernel
theorem dX1_thinlyReadBy_56 : decode cX1_thinlyReadBy 56 = .ok (.iload_n 1, 1) := by decide +kernel
theorem dX1_thinlyReadBy_57 : decode cX1_thinlyReadBy 57 = .ok (.iaload, 1) := by decide +kernel
theorem dX1_thinlyReadBy_58 : decode cX1_thinlyReadBy 58 = .ok (.invokestatic 63, 3) := by decide +kernel
theorem dX1_thinlyReadBy_61 : decode cX1_thinlyReadBy 61 = .ok (.aload_n 0, 1) := by decide +kernel
theorem dX1_thinlyReadBy_62 : decode cX1_thinlyReadBy 62 = .ok (.getfield 21, 3) := by decide +kernel
theorem dX1_thinlyReadBy_65 : decode cX1_thinlyReadBy 65 = .ok (.iload_n 1, 1) := by decide +kernel
theorem dX1_thinlyReadBy_66 : decode cX1_thinlyReadBy 66 = .ok (.iaload, 1) := by decide +kernel
theorem dX1_thinlyReadBy_67 : decode cX1_thinlyReadBy 67 = .ok (.invokestatic 63, 3) := by decide +kernel
theorem dX1_thinlyReadBy_70 : decode cX1_thinlyReadBy 70 = .ok (.ior, 1) := by decide +kernel
theorem dX1_thinlyReadBy_71 : decode cX1_thinlyReadBy 71 = .ok (.ireturn, 1) := by decide +kernel
theorem dX1_thinlyReadBy_72 : decode cX1_thinlyReadBy 72 = .ok (.aload_n 0, 1) := by decide +kernel
theorem dX1_thinlyReadBy_73 : decode cX1_thinlyReadBy 73 = .ok (.getfield 15, 3) := by decide +kernel
theorem dX1_thinlyReadBy_76 : decode cX1_thinlyReadBy 76 = .ok (.iload_n 1, 1) := by decide +kernel
theorem dX1_thinlyReadBy_77 : decode cX1_thinlyReadBy 77 = .ok (.iaload, 1) := by decide +kernel
theorem dX1_thinlyReadBy_78 : decode cX1_thinlyReadBy 78 = .ok (.invokestatic 63, 3) := by decide +kernel
theorem dX1_thinlyReadBy_81 : decode cX1_thinlyReadBy 81 = .ok (.ireturn, 1) := by decide +kernel
theorem dX1_thinlyReadBy_82 : decode cX1_thinlyReadBy 82 = .ok (.aload_n 0, 1) := by decide +kernel
theorem dX1_thinlyReadBy_83 : decode cX1_thinlyReadBy 83 = .ok (.getfield 18, 3) := by decide +kernel
theorem dX1_thinlyReadBy_86 : decode cX1_thinlyReadBy 86 = .ok (.iload_n 1, 1) := by decide +kernel
theorem dX1_thinlyReadBy_87 : decode cX1_thinlyReadBy 87 = .ok (.iaload, 1) := by decide +kernel
theorem dX1_thinlyReadBy_88 : decode cX1_thinlyReadBy 88 = .ok (.invokestatic 66, 3) := by decide +kernel
theorem dX1_thinlyReadBy_91 : decode cX1_thinlyReadBy 91 = .ok (.ireturn, 1) := by decide +kernel
theorem dX1_thinlyReadBy_92 : decode cX1_thinlyReadBy 92 = .ok (.iconst 0, 1) := by decide +kernel
theorem dX1_thinlyReadBy_93 : decode cX1_thinlyReadBy 93 = .ok (.ireturn, 1) := by decide +kernel
theorem dX1_mayShareRow_0 : decode cX1_mayShareRow 0 = .ok (.aload_n 0, 1) := by decide +kernel
theorem dX1_mayShareRow_1 : decode cX1_mayShareRow 1 = .ok (.getfield 31, 3) := by decide +kernel
theorem dX1_mayShareRow_4 : decode cX1_mayShareRow 4 = .ok (.aload_n 0, 1) := by decide +kernel
theorem dX1_mayShareRow_5 : decode cX1_mayShareRow 5 = .ok (.getfield 21, 3) := by decide +kernel
theorem dX1_mayShareRow_8 : decode cX1_mayShareRow 8 = .ok (.iload_n 1, 1) := by decide +kernel
theorem dX1_mayShareRow_9 : decode cX1_mayShareRow 9 = .ok (.iaload, 1) := by decide +kernel
theorem dX1_mayShareRow_10 : decode cX1_mayShareRow 10 = .ok (.iaload, 1) := by decide +kernel
theorem dX1_mayShareRow_11 : decode cX1_mayShareRow 11 = .ok (.aload_n 0, 1) := by decide +kernel
theorem dX1_mayShareRow_12 : decode cX1_mayShareRow 12 = .ok (.getfield 31, 3) := by decide +kernel
theorem dX1_mayShareRow_15 : decode cX1_mayShareRow 15 = .ok (.aload_n 0, 1) := by decide +kernel
theorem dX1_mayShareRow_16 : decode cX1_mayShareRow 16 = .ok (.getfield 21, 3) := by decide +kernel
theorem dX1_mayShareRow_19 : decode cX1_mayShareRow 19 = .ok (.iload_n 2, 1) := by decide +kernel
theorem dX1_mayShareRow_20 : decode cX1_mayShareRow 20 = .ok (.iaload, 1) := by decide +kernel
theorem dX1_mayShareRow_21 : decode cX1_mayShareRow 21 = .ok (.iaload, 1) := by decide +kernel
theorem dX1_mayShareRow_22 : decode cX1_mayShareRow 22 = .ok (.iand, 1) := by decide +kernel
theorem dX1_mayShareRow_23 : decode cX1_mayShareRow 23 = .ok (.ifCond .eq 7, 3) := by decide +kernel
theorem dX1_mayShareRow_26 : decode cX1_mayShareRow 26 = .ok (.iconst 1, 1) := by decide +kernel
theorem dX1_mayShareRow_27 : decode cX1_mayShareRow 27 = .ok (.goto 4, 3) := by decide +kernel
theorem dX1_mayShareRow_30 : decode cX1_mayShareRow 30 = .ok (.iconst 0, 1) := by decide +kernel
theorem dX1_mayShareRow_31 : decode cX1_mayShareRow 31 = .ok (.ireturn, 1) := by decide +kernel
