theorem dX2_init_0 : decode cX2_init 0 = .ok (.aload_n 0, 1) := by decide +kernel
theorem dX2_init_1 : decode cX2_init 1 = .ok (.invokespecial 3, 3) := by decide +kernel
theorem dX2_init_4 : decode cX2_init 4 = .ok (.aload_n 0, 1) := by decide +kernel
theorem dX2_init_5 : decode cX2_init 5 = .ok (.bipush 24, 2) := by decide +kernel
theorem dX2_init_7 : decode cX2_init 7 = .ok (.newarray .int, 2) := by decide +kernel
theorem dX2_init_9 : decode cX2_init 9 = .ok (.putfield 9, 3) := by decide +kernel
theorem dX2_init_12 : decode cX2_init 12 = .ok (.aload_n 0, 1) := by decide +kernel
theorem dX2_init_13 : decode cX2_init 13 = .ok (.bipush 24, 2) := by decide +kernel
theorem dX2_init_15 : decode cX2_init 15 = .ok (.newarray .int, 2) := by decide +kernel
theorem dX2_init_17 : decode cX2_init 17 = .ok (.putfield 15, 3) := by decide +kernel
theorem dX2_init_20 : decode cX2_init 20 = .ok (.aload_n 0, 1) := by decide +kernel
theorem dX2_init_21 : decode cX2_init 21 = .ok (.bipush 24, 2) := by decide +kernel
theorem dX2_init_23 : decode cX2_init 23 = .ok (.newarray .int, 2) := by decide +kernel
theorem dX2_init_25 : decode cX2_init 25 = .ok (.putfield 18, 3) := by decide +kernel
theorem dX2_init_28 : decode cX2_init 28 = .ok (.aload_n 0, 1) := by decide +kernel
theorem dX2_init_29 : decode cX2_init 29 = .ok (.iconst 5, 1) := by decide +kernel
theorem dX2_init_30 : decode cX2_init 30 = .ok (.bipush 24, 2) := by decide +kernel
theorem dX2_init_32 : decode cX2_init 32 = .ok (.multianewarray 21 2, 4) := by decide +kernel
theorem dX2_init_36 : decode cX2_init 36 = .ok (.putfield 23, 3) := by decide +kernel
theorem dX2_init_39 : decode cX2_init 39 = .ok (.aload_n 0, 1) := by decide +kernel
theorem dX2_init_40 : decode cX2_init 40 = .ok (.bipush 24, 2) := by decide +kernel
theorem dX2_init_42 : decode cX2_init 42 = .ok (.newarray .int, 2) := by decide +kernel
theorem dX2_init_44 : decode cX2_init 44 = .ok (.putfield 26, 3) := by decide +kernel
theorem dX2_init_47 : decode cX2_init 47 = .ok (.aload_n 0, 1) := by decide +kernel
theorem dX2_init_48 : decode cX2_init 48 = .ok (.bipush 24, 2) := by decide +kernel
theorem dX2_init_50 : decode cX2_init 50 = .ok (.newarray .int, 2) := by decide +kernel
theorem dX2_init_52 : decode cX2_init 52 = .ok (.putfield 29, 3) := by decide +kernel
theorem dX2_init_55 : decode cX2_init 55 = .ok (.aload_n 0, 1) := by decide +kernel
theorem dX2_init_56 : decode cX2_init 56 = .ok (.bipush 24, 2) := by decide +kernel
theorem dX2_init_58 : decode cX2_init 58 = .ok (.newarray .int, 2) := by decide +kernel
theorem dX2_init_60 : decode cX2_init 60 = .ok (.putfield 32, 3) := by decide +kernel
theorem dX2_init_63 : decode cX2_init 63 = .ok (.aload_n 0, 1) := by decide +kernel
theorem dX2_init_64 : decode cX2_init 64 = .ok (.bipush 24, 2) := by decide +kernel
theorem dX2_init_66 : decode cX2_init 66 = .ok (.newarray .int, 2) := by decide +kernel
theorem dX2_init_68 : decode cX2_init 68 = .ok (.putfield 35, 3) := by decide +kernel
theorem dX2_init_71 : decode cX2_init 71 = .ok (.aload_n 0, 1) := by decide +kernel
theorem dX2_init_72 : decode cX2_init 72 = .ok (.bipush 24, 2) := by decide +kernel
theorem dX2_init_74 : decode cX2_init 74 = .ok (.newarray .int, 2) := by decide +kernel
theorem dX2_init_76 : decode cX2_init 76 = .ok (.putfield 38, 3) := by decide +kernel
theorem dX2_init_79 : decode cX2_init 79 = .ok (.return_, 1) := by decide +kernel
theorem dX2_backOf_0 : decode cX2_backOf 0 = .ok (.aload_n 0, 1) := by decide +kernel
theorem dX2_backOf_1 : decode cX2_backOf 1 = .ok (.getfield 32, 3) := by decide +kernel
theorem dX2_backOf_4 : decode cX2_backOf 4 = .ok (.iload_n 1, 1) := by decide +kernel
theorem dX2_backOf_5 : decode cX2_backOf 5 = .ok (.iaload, 1) := by decide +kernel
theorem dX2_backOf_6 : decode cX2_backOf 6 = .ok (.ireturn, 1) := by decide +kernel
theorem dX2_thinOf_0 : decode cX2_thinOf 0 = .ok (.aload_n 0, 1) := by decide +kernel
theorem dX2_thinOf_1 : decode cX2_thinOf 1 = .ok (.getfield 35, 3) := by decide +kernel
theorem dX2_thinOf_4 : decode cX2_thinOf 4 = .ok (.iload_n 1, 1) := by decide +kernel
theorem dX2_thinOf_5 : decode cX2_thinOf 5 = .ok (.iaload, 1) := by decide +kernel
theorem dX2_thinOf_6 : decode cX2_thinOf 6 = .ok (.ireturn, 1) := by decide +kernel
theorem dX2_forwardOf_0 : decode cX2_forwardOf 0 = .ok (.aload_n 0, 1) := by decide +kernel
theorem dX2_forwardOf_1 : decode cX2_forwardOf 1 = .ok (.iload_n 1, 1) := by decide +kernel
theorem dX2_forwardOf_2 : decode cX2_forwardOf 2 = .ok (.aload_n 0, 1) := by decide +kernel
theorem dX2_forwardOf_3 : decode cX2_forwardOf 3 = .ok (.getfield 32, 3) := by decide +kernel
theorem dX2_forwardOf_6 : decode cX2_forwardOf 6 = .ok (.invokevirtual 41, 3) := by decide +kernel
theorem dX2_forwardOf_9 : decode cX2_forwardOf 9 = .ok (.ireturn, 1) := by decide +kernel
theorem dX2_thinlyOf_0 : decode cX2_thinlyOf 0 = .ok (.aload_n 0, 1) := by decide +kernel
theorem dX2_thinlyOf_1 : decode cX2_thinlyOf 1 = .ok (.iload_n 1, 1) := by decide +kernel
theorem dX2_thinlyOf_2 : decode cX2_thinlyOf 2 = .ok (.aload_n 0, 1) := by decide +kernel
theorem dX2_thinlyOf_3 : decode cX2_thinlyOf 3 = .ok (.getfield 35, 3) := by decide +kernel
theorem dX2_thinlyOf_6 : decode cX2_thinlyOf 6 = .ok (.invokevirtual 41, 3) := by decide +kernel
theorem dX2_thinlyOf_9 : decode cX2_thinlyOf 9 = .ok (.ireturn, 1) := by decide +kernel
theorem dX2_followersOf_0 : decode cX2_followersOf 0 = .ok (.aload_n 0, 1) := by decide +kernel
theorem dX2_followersOf_1 : decode cX2_followersOf 1 = .ok (.getfield 18, 3) := by decide +kernel
theorem dX2_followersOf_4 : decode cX2_followersOf 4 = .ok (.iload_n 1, 1) := by decide +kernel
theorem dX2_followersOf_5 : decode cX2_followersOf 5 = .ok (.iaload, 1) := by decide +kernel
theorem dX2_followersOf_6 : decode cX2_followersOf 6 = .ok (.ireturn, 1) := by decide +kernel
theorem dX2_howManyCauses_0 : decode cX2_howManyCauses 0 = .ok (.iconst 0, 1) := by decide +kernel
theorem dX2_howManyCauses_1 : decode cX2_howManyCauses 1 = .ok (.istore_n 2, 1) := by decide +kernel
theorem dX2_howManyCauses_2 : decode cX2_howManyCauses 2 = .ok (.iconst 1, 1) := by decide +kernel
theorem dX2_howManyCauses_3 : decode cX2_howManyCauses 3 = .ok (.istore_n 3, 1) := by decide +kernel
theorem dX2_howManyCauses_4 : decode cX2_howManyCauses 4 = .ok (.iload_n 3, 1) := by decide +kernel
theorem dX2_howManyCauses_5 : decode cX2_howManyCauses 5 = .ok (.iconst 4, 1) := by decide +kernel
theorem dX2_howManyCauses_6 : decode cX2_howManyCauses 6 = .ok (.if_icmp .gt 23, 3) := by decide +kernel
theorem dX2_howManyCauses_9 : decode cX2_howManyCauses 9 = .ok (.iload_n 2, 1) := by decide +kernel
theorem dX2_howManyCauses_10 : decode cX2_howManyCauses 10 = .ok (.aload_n 0, 1) := by decide +kernel
theorem dX2_howManyCauses_11 : decode cX2_howManyCauses 11 = .ok (.getfield 23, 3) := by decide +kernel
theorem dX2_howManyCauses_14 : decode cX2_howManyCauses 14 = .ok (.iload_n 3, 1) := by decide +kernel
theorem dX2_howManyCauses_15 : decode cX2_howManyCauses 15 = .ok (.aaload, 1) := by decide +kernel
theorem dX2_howManyCauses_16 : decode cX2_howManyCauses 16 = .ok (.iload_n 1, 1) := by decide +kernel
theorem dX2_howManyCauses_17 : decode cX2_howManyCauses 17 = .ok (.iaload, 1) := by decide +kernel
theorem dX2_howManyCauses_18 : decode cX2_howManyCauses 18 = .ok (.invokestatic 45, 3) := by decide +kernel
theorem dX2_howManyCauses_21 : decode cX2_howManyCauses 21 = .ok (.iadd, 1) := by decide +kernel
theorem dX2_howManyCauses_22 : decode cX2_howManyCauses 22 = .ok (.istore_n 2, 1) := by decide +kernel
theorem dX2_howManyCauses_23 : decode cX2_howManyCauses 23 = .ok (.iinc 3 1, 3) := by decide +kernel
theorem dX2_howManyCauses_26 : decode cX2_howManyCauses 26 = .ok (.goto (-22), 3) := by decide +kernel
theorem dX2_howManyCauses_29 : decode cX2_howManyCauses 29 = .ok (.iload_n 2, 1) := by decide +kernel
theorem dX2_howManyCauses_30 : decode cX2_howManyCauses 30 = .ok (.ireturn, 1) := by decide +kernel
theorem dX2_kthCause_0 : decode cX2_kthCause 0 = .ok (.iload_n 2, 1) := by decide +kernel
theorem dX2_kthCause_1 : decode cX2_kthCause 1 = .ok (.istore 4, 2) := by decide +kernel
theorem dX2_kthCause_3 : decode cX2_kthCause 3 = .ok (.iconst 0, 1) := by decide +kernel
theorem dX2_kthCause_4 : decode cX2_kthCause 4 = .ok (.istore 5, 2) := by decide +kernel
theorem dX2_kthCause_6 : decode cX2_kthCause 6 = .ok (.iload 5, 2) := by decide +kernel
theorem dX2_kthCause_8 : decode cX2_kthCause 8 = .ok (.aload_n 0, 1) := by decide +kernel
theorem dX2_kthCause_9 : decode cX2_kthCause 9 = .ok (.getfield 51, 3) := by decide +kernel
theorem dX2_kthCause_12 : decode cX2_kthCause 12 = .ok (.if_icmp .ge 61, 3) := by decide +kernel
theorem dX2_kthCause_15 : decode cX2_kthCause 15 = .ok (.iconst 1, 1) := by decide +kernel
theorem dX2_kthCause_16 : decode cX2_kthCause 16 = .ok (.istore 6, 2) := by decide +kernel
theorem dX2_kthCause_18 : decode cX2_kthCause 18 = .ok (.iload 6, 2) := by decide +kernel
theorem dX2_kthCause_20 : decode cX2_kthCause 20 = .ok (.iconst 4, 1) := by decide +kernel
theorem dX2_kthCause_21 : decode cX2_kthCause 21 = .ok (.if_icmp .gt 46, 3) := by decide +kernel
theorem dX2_kthCause_24 : decode cX2_kthCause 24 = .ok (.aload_n 0, 1) := by decide +kernel
theorem dX2_kthCause_25 : decode cX2_kthCause 25 = .ok (.getfield 23, 3) := by decide +kernel
theorem dX2_kthCause_28 : decode cX2_kthCause 28 = .ok (.iload 6, 2) := by decide +kernel
theorem dX2_kthCause_30 : decode cX2_kthCause 30 = .ok (.aaload, 1) := by decide +kernel
theorem dX2_kthCause_31 : decode cX2_kthCause 31 = .ok (.iload_n 1, 1) := by decide +kernel
theorem dX2_kthCause_32 : decode cX2_kthCause 32 = .ok (.iaload, 1) := by decide +kernel
theorem dX2_kthCause_33 : decode cX2_kthCause 33 = .ok (.iload 5, 2) := by decide +kernel
theorem dX2_kthCause_35 : decode cX2_kthCause 35 = .ok (.invokestatic 55, 3) := by decide +kernel
theorem dX2_kthCause_38 : decode cX2_kthCause 38 = .ok (.ifCond .eq 23, 3) := by decide +kernel
theorem dX2_kthCause_41 : decode cX2_kthCause 41 = .ok (.iload 4, 2) := by decide +kernel
theorem dX2_kthCause_43 : decode cX2_kthCause 43 = .ok (.ifCond .ne 15, 3) := by decide +kernel
theorem dX2_kthCause_46 : decode cX2_kthCause 46 = .ok (.iload_n 3, 1) := by decide +kernel
theorem dX2_kthCause_47 : decode cX2_kthCause 47 = .ok (.ifCond .eq 8, 3) := by decide +kernel
theorem dX2_kthCause_50 : decode cX2_kthCause 50 = .ok (.iload 6, 2) := by decide +kernel
theorem dX2_kthCause_52 : decode cX2_kthCause 52 = .ok (.goto 5, 3) := by decide +kernel
theorem dX2_kthCause_55 : decode cX2_kthCause 55 = .ok (.iload 5, 2) := by decide +kernel
theorem dX2_kthCause_57 : decode cX2_kthCause 57 = .ok (.ireturn, 1) := by decide +kernel
theorem dX2_kthCause_58 : decode cX2_kthCause 58 = .ok (.iinc 4 (-1), 3) := by decide +kernel
theorem dX2_kthCause_61 : decode cX2_kthCause 61 = .ok (.iinc 6 1, 3) := by decide +kernel
theorem dX2_kthCause_64 : decode cX2_kthCause 64 = .ok (.goto (-46), 3) := by decide +kernel
theorem dX2_kthCause_67 : decode cX2_kthCause 67 = .ok (.iinc 5 1, 3) := by decide +kernel
theorem dX2_kthCause_70 : decode cX2_kthCause 70 = .ok (.goto (-64), 3) := by decide +kernel
theorem dX2_kthCause_73 : decode cX2_kthCause 73 = .ok (.bipush (-4), 2) := by decide +kernel
theorem dX2_kthCause_75 : decode cX2_kthCause 75 = .ok (.ireturn, 1) := by decide +kernel
theorem dX2_shortestWay_0 : decode cX2_shortestWay 0 = .ok (.aload_n 0, 1) := by decide +kernel
theorem dX2_shortestWay_1 : decode cX2_shortestWay 1 = .ok (.iload_n 1, 1) := by decide +kernel
theorem dX2_shortestWay_2 : decode cX2_shortestWay 2 = .ok (.iload_n 2, 1) := by decide +kernel
theorem dX2_shortestWay_3 : decode cX2_shortestWay 3 = .ok (.invokevirtual 59, 3) := by decide +kernel
theorem dX2_shortestWay_6 : decode cX2_shortestWay 6 = .ok (.istore 4, 2) := by decide +kernel
theorem dX2_shortestWay_8 : decode cX2_shortestWay 8 = .ok (.iload_n 1, 1) := by decide +kernel
theorem dX2_shortestWay_9 : decode cX2_shortestWay 9 = .ok (.istore 5, 2) := by decide +kernel
theorem dX2_shortestWay_11 : decode cX2_shortestWay 11 = .ok (.aload_n 3, 1) := by decide +kernel
theorem dX2_shortestWay_12 : decode cX2_shortestWay 12 = .ok (.iconst 0, 1) := by decide +kernel
theorem dX2_shortestWay_13 : decode cX2_shortestWay 13 = .ok (.iload_n 1, 1) := by decide +kernel
theorem dX2_shortestWay_14 : decode cX2_shortestWay 14 = .ok (.iastore, 1) := by decide +kernel
theorem dX2_shortestWay_15 : decode cX2_shortestWay 15 = .ok (.iconst 1, 1) := by decide +kernel
theorem dX2_shortestWay_16 : decode cX2_shortestWay 16 = .ok (.istore 6, 2) := by decide +kernel
theorem dX2_shortestWay_18 : decode cX2_shortestWay 18 = .ok (.iload 6, 2) := by decide +kernel
theorem dX2_shortestWay_20 : decode cX2_shortestWay 20 = .ok (.iload 4, 2) := by decide +kernel
theorem dX2_shortestWay_22 : decode cX2_shortestWay 22 = .ok (.if_icmp .gt 38, 3) := by decide +kernel
theorem dX2_shortestWay_25 : decode cX2_shortestWay 25 = .ok (.aload_n 0, 1) := by decide +kernel
theorem dX2_shortestWay_26 : decode cX2_shortestWay 26 = .ok (.getfield 26, 3) := by decide +kernel
theorem dX2_shortestWay_29 : decode cX2_shortestWay 29 = .ok (.iload 5, 2) := by decide +kernel
theorem dX2_shortestWay_31 : decode cX2_shortestWay 31 = .ok (.iaload, 1) := by decide +kernel
theorem dX2_shortestWay_32 : decode cX2_shortestWay 32 = .ok (.aload_n 0, 1) := by decide +kernel
theorem dX2_shortestWay_33 : decode cX2_shortestWay 33 = .ok (.getfield 38, 3) := by decide +kernel
theorem dX2_shortestWay_36 : decode cX2_shortestWay 36 = .ok (.iload 4, 2) := by decide +kernel
theorem dX2_shortestWay_38 : decode cX2_shortestWay 38 = .ok (.iload 6, 2) := by decide +kernel
theorem dX2_shortestWay_40 : decode cX2_shortestWay 40 = .ok (.isub, 1) := by decide +kernel
theorem dX2_shortestWay_41 : decode cX2_shortestWay 41 = .ok (.iaload, 1) := by decide +kernel
theorem dX2_shortestWay_42 : decode cX2_shortestWay 42 = .ok (.iand, 1) := by decide +kernel
theorem dX2_shortestWay_43 : decode cX2_shortestWay 43 = .ok (.invokestatic 63, 3) := by decide +kernel
theorem dX2_shortestWay_46 : decode cX2_shortestWay 46 = .ok (.istore 5, 2) := by decide +kernel
theorem dX2_shortestWay_48 : decode cX2_shortestWay 48 = .ok (.aload_n 3, 1) := by decide +kernel
theorem dX2_shortestWay_49 : decode cX2_shortestWay 49 = .ok (.iload 6, 2) := by decide +kernel
theorem dX2_shortestWay_51 : decode cX2_shortestWay 51 = .ok (.iload 5, 2) := by decide +kernel
theorem dX2_shortestWay_53 : decode cX2_shortestWay 53 = .ok (.iastore, 1) := by decide +kernel
theorem dX2_shortestWay_54 : decode cX2_shortestWay 54 = .ok (.iinc 6 1, 3) := by decide +kernel
theorem dX2_shortestWay_57 : decode cX2_shortestWay 57 = .ok (.goto (-39), 3) := by decide +kernel
theorem dX2_shortestWay_60 : decode cX2_shortestWay 60 = .ok (.iload 4, 2) := by decide +kernel
theorem dX2_shortestWay_62 : decode cX2_shortestWay 62 = .ok (.iconst 1, 1) := by decide +kernel
theorem dX2_shortestWay_63 : decode cX2_shortestWay 63 = .ok (.iadd, 1) := by decide +kernel
theorem dX2_shortestWay_64 : decode cX2_shortestWay 64 = .ok (.ireturn, 1) := by decide +kernel
theorem dX2_measureWays_0 : decode cX2_measureWays 0 = .ok (.aload_n 0, 1) := by decide +kernel
theorem dX2_measureWays_1 : decode cX2_measureWays 1 = .ok (.getfield 38, 3) := by decide +kernel
theorem dX2_measureWays_4 : decode cX2_measureWays 4 = .ok (.iconst 0, 1) := by decide +kernel
theorem dX2_measureWays_5 : decode cX2_measureWays 5 = .ok (.iconst 1, 1) := by decide +kernel
theorem dX2_measureWays_6 : decode cX2_measureWays 6 = .ok (.iload_n 2, 1) := by decide +kernel
theorem dX2_measureWays_7 : decode cX2_measureWays 7 = .ok (.ishl, 1) := by decide +kernel
theorem dX2_measureWays_8 : decode cX2_measureWays 8 = .ok (.iastore, 1) := by decide +kernel
theorem dX2_measureWays_9 : decode cX2_measureWays 9 = .ok (.iconst 0, 1) := by decide +kernel
theorem dX2_measureWays_10 : decode cX2_measureWays 10 = .ok (.istore_n 3, 1) := by decide +kernel
theorem dX2_measureWays_11 : decode cX2_measureWays 11 = .ok (.aload_n 0, 1) := by decide +kernel
theorem dX2_measureWays_12 : decode cX2_measureWays 12 = .ok (.getfield 38, 3) := by decide +kernel
theorem dX2_measureWays_15 : decode cX2_measureWays 15 = .ok (.iload_n 3, 1) := by decide +kernel
theorem dX2_measureWays_16 : decode cX2_measureWays 16 = .ok (.iaload, 1) := by decide +kernel
theorem dX2_measureWays_17 : decode cX2_measureWays 17 = .ok (.iload_n 1, 1) := by decide +kernel
theorem dX2_measureWays_18 : decode cX2_measureWays 18 = .ok (.invokestatic 55, 3) := by decide +kernel
theorem dX2_measureWays_21 : decode cX2_measureWays 21 = .ok (.ifCond .ne 33, 3) := by decide +kernel
theorem dX2_measureWays_24 : decode cX2_measureWays 24 = .ok (.iload_n 3, 1) := by decide +kernel
theorem dX2_measureWays_25 : decode cX2_measureWays 25 = .ok (.bipush 23, 2) := by decide +kernel
theorem dX2_measureWays_27 : decode cX2_measureWays 27 = .ok (.if_icmp .ge 27, 3) := by decide +kernel
theorem dX2_measureWays_30 : decode cX2_measureWays 30 = .ok (.iinc 3 1, 3) := by decide +kernel
theorem dX2_measureWays_33 : decode cX2_measureWays 33 = .ok (.aload_n 0, 1) := by decide +kernel
theorem dX2_measureWays_34 : decode cX2_measureWays 34 = .ok (.getfield 38, 3) := by decide +kernel
theorem dX2_measureWays_37 : decode cX2_measureWays 37 = .ok (.iload_n 3, 1) := by decide +kernel
theorem dX2_measureWays_38 : decode cX2_measureWays 38 = .ok (.aload_n 0, 1) := by decide +kernel
theorem dX2_measureWays_39 : decode cX2_measureWays 39 = .ok (.aload_n 0, 1) := by decide +kernel
theorem dX2_measureWays_40 : decode cX2_measureWays 40 = .ok (.getfield 38, 3) := by decide +kernel
theorem dX2_measureWays_43 : decode cX2_measureWays 43 = .ok (.iload_n 3, 1) := by decide +kernel
theorem dX2_measureWays_44 : decode cX2_measureWays 44 = .ok (.iconst 1, 1) := by decide +kernel
theorem dX2_measureWays_45 : decode cX2_measureWays 45 = .ok (.isub, 1) := by decide +kernel
theorem dX2_measureWays_46 : decode cX2_measureWays 46 = .ok (.iaload, 1) := by decide +kernel
theorem dX2_measureWays_47 : decode cX2_measureWays 47 = .ok (.invokevirtual 66, 3) := by decide +kernel
theorem dX2_measureWays_50 : decode cX2_measureWays 50 = .ok (.iastore, 1) := by decide +kernel
theorem dX2_measureWays_51 : decode cX2_measureWays 51 = .ok (.goto (-40), 3) := by decide +kernel
theorem dX2_measureWays_54 : decode cX2_measureWays 54 = .ok (.iload_n 3, 1) := by decide +kernel
theorem dX2_measureWays_55 : decode cX2_measureWays 55 = .ok (.ireturn, 1) := by decide +kernel
theorem dX2_allThatHangOn_0 : decode cX2_allThatHangOn 0 = .ok (.iconst 0, 1) := by decide +kernel
theorem dX2_allThatHangOn_1 : decode cX2_allThatHangOn 1 = .ok (.istore_n 2, 1) := by decide +kernel
theorem dX2_allThatHangOn_2 : decode cX2_allThatHangOn 2 = .ok (.iconst 0, 1) := by decide +kernel
theorem dX2_allThatHangOn_3 : decode cX2_allThatHangOn 3 = .ok (.istore_n 3, 1) := by decide +kernel
theorem dX2_allThatHangOn_4 : decode cX2_allThatHangOn 4 = .ok (.iload_n 3, 1) := by decide +kernel
theorem dX2_allThatHangOn_5 : decode cX2_allThatHangOn 5 = .ok (.aload_n 0, 1) := by decide +kernel
theorem dX2_allThatHangOn_6 : decode cX2_allThatHangOn 6 = .ok (.getfield 51, 3) := by decide +kernel
theorem dX2_allThatHangOn_9 : decode cX2_allThatHangOn 9 = .ok (.if_icmp .ge 26, 3) := by decide +kernel
theorem dX2_allThatHangOn_12 : decode cX2_allThatHangOn 12 = .ok (.aload_n 0, 1) := by decide +kernel
theorem dX2_allThatHangOn_13 : decode cX2_allThatHangOn 13 = .ok (.getfield 26, 3) := by decide +kernel
theorem dX2_allThatHangOn_16 : decode cX2_allThatHangOn 16 = .ok (.iload_n 3, 1) := by decide +kernel
theorem dX2_allThatHangOn_17 : decode cX2_allThatHangOn 17 = .ok (.iaload, 1) := by decide +kernel
theorem dX2_allThatHangOn_18 : decode cX2_allThatHangOn 18 = .ok (.iload_n 1, 1) := by decide +kernel
theorem dX2_allThatHangOn_19 : decode cX2_allThatHangOn 19 = .ok (.iand, 1) := by decide +kernel
theorem dX2_allThatHangOn_20 : decode cX2_allThatHangOn 20 = .ok (.ifCond .eq 9, 3) := by decide +kernel
theorem dX2_allThatHangOn_23 : decode cX2_allThatHangOn 23 = .ok (.iload_n 2, 1) := by decide +kernel
theorem dX2_allThatHangOn_24 : decode cX2_allThatHangOn 24 = .ok (.iconst 1, 1) := by decide +kernel
theorem dX2_allThatHangOn_25 : decode cX2_allThatHangOn 25 = .ok (.iload_n 3, 1) := by decide +kernel
theorem dX2_allThatHangOn_26 : decode cX2_allThatHangOn 26 = .ok (.ishl, 1) := by decide +kernel
theorem dX2_allThatHangOn_27 : decode cX2_allThatHangOn 27 = .ok (.ior, 1) := by decide +kernel
theorem dX2_allThatHangOn_28 : decode cX2_allThatHangOn 28 = .ok (.istore_n 2, 1) := by decide +kernel
theorem dX2_allThatHangOn_29 : decode cX2_allThatHangOn 29 = .ok (.iinc 3 1, 3) := by decide +kernel
theorem dX2_allThatHangOn_32 : decode cX2_allThatHangOn 32 = .ok (.goto (-28), 3) := by decide +kernel
theorem dX2_allThatHangOn_35 : decode cX2_allThatHangOn 35 = .ok (.iload_n 2, 1) := by decide +kernel
theorem dX2_allThatHangOn_36 : decode cX2_allThatHangOn 36 = .ok (.ireturn, 1) := by decide +kernel
theorem dX2_leastOf_0 : decode cX2_leastOf 0 = .ok (.iconst 0, 1) := by decide +kernel
theorem dX2_leastOf_1 : decode cX2_leastOf 1 = .ok (.istore_n 1, 1) := by decide +kernel
theorem dX2_leastOf_2 : decode cX2_leastOf 2 = .ok (.iload_n 1, 1) := by decide +kernel
theorem dX2_leastOf_3 : decode cX2_leastOf 3 = .ok (.bipush 23, 2) := by decide +kernel
theorem dX2_leastOf_5 : decode cX2_leastOf 5 = .ok (.if_icmp .ge 17, 3) := by decide +kernel
theorem dX2_leastOf_8 : decode cX2_leastOf 8 = .ok (.iload_n 0, 1) := by decide +kernel
theorem dX2_leastOf_9 : decode cX2_leastOf 9 = .ok (.iload_n 1, 1) := by decide +kernel
theorem dX2_leastOf_10 : decode cX2_leastOf 10 = .ok (.invokestatic 55, 3) := by decide +kernel
theorem dX2_leastOf_13 : decode cX2_leastOf 13 = .ok (.ifCond .ne 9, 3) := by decide +kernel
theorem dX2_leastOf_16 : decode cX2_leastOf 16 = .ok (.iinc 1 1, 3) := by decide +kernel
theorem dX2_leastOf_19 : decode cX2_leastOf 19 = .ok (.goto (-17), 3) := by decide +kernel
theorem dX2_leastOf_22 : decode cX2_leastOf 22 = .ok (.iload_n 1, 1) := by decide +kernel
theorem dX2_leastOf_23 : decode cX2_leastOf 23 = .ok (.ireturn, 1) := by decide +kernel
theorem dX2_whoseSetHolds_0 : decode cX2_whoseSetHolds 0 = .ok (.iconst 0, 1) := by decide +kernel
theorem dX2_whoseSetHolds_1 : decode cX2_whoseSetHolds 1 = .ok (.istore_n 3, 1) := by decide +kernel
theorem dX2_whoseSetHolds_2 : decode cX2_whoseSetHolds 2 = .ok (.iconst 0, 1) := by decide +kernel
theorem dX2_whoseSetHolds_3 : decode cX2_whoseSetHolds 3 = .ok (.istore 4, 2) := by decide +kernel
theorem dX2_whoseSetHolds_5 : decode cX2_whoseSetHolds 5 = .ok (.iload 4, 2) := by decide +kernel
theorem dX2_whoseSetHolds_7 : decode cX2_whoseSetHolds 7 = .ok (.aload_n 0, 1) := by decide +kernel
theorem dX2_whoseSetHolds_8 : decode cX2_whoseSetHolds 8 = .ok (.getfield 51, 3) := by decide +kernel
theorem dX2_whoseSetHolds_11 : decode cX2_whoseSetHolds 11 = .ok (.if_icmp .ge 27, 3) := by decide +kernel
theorem dX2_whoseSetHolds_14 : decode cX2_whoseSetHolds 14 = .ok (.aload_n 2, 1) := by decide +kernel
theorem dX2_whoseSetHolds_15 : decode cX2_whoseSetHolds 15 = .ok (.iload 4, 2) := by decide +kernel
theorem dX2_whoseSetHolds_17 : decode cX2_whoseSetHolds 17 = .ok (.iaload, 1) := by decide +kernel
theorem dX2_whoseSetHolds_18 : decode cX2_whoseSetHolds 18 = .ok (.iload_n 1, 1) := by decide +kernel
theorem dX2_whoseSetHolds_19 : decode cX2_whoseSetHolds 19 = .ok (.invokestatic 55, 3) := by decide +kernel
theorem dX2_whoseSetHolds_22 : decode cX2_whoseSetHolds 22 = .ok (.ifCond .eq 10, 3) := by decide +kernel
theorem dX2_whoseSetHolds_25 : decode cX2_whoseSetHolds 25 = .ok (.iload_n 3, 1) := by decide +kernel
theorem dX2_whoseSetHolds_26 : decode cX2_whoseSetHolds 26 = .ok (.iconst 1, 1) := by decide +kernel
theorem dX2_whoseSetHolds_27 : decode cX2_whoseSetHolds 27 = .ok (.iload 4, 2) := by decide +kernel
theorem dX2_whoseSetHolds_29 : decode cX2_whoseSetHolds 29 = .ok (.ishl, 1) := by decide +kernel
theorem dX2_whoseSetHolds_30 : decode cX2_whoseSetHolds 30 = .ok (.ior, 1) := by decide +kernel
theorem dX2_whoseSetHolds_31 : decode cX2_whoseSetHolds 31 = .ok (.istore_n 3, 1) := by decide +kernel
theorem dX2_whoseSetHolds_32 : decode cX2_whoseSetHolds 32 = .ok (.iinc 4 1, 3) := by decide +kernel
theorem dX2_whoseSetHolds_35 : decode cX2_whoseSetHolds 35 = .ok (.goto (-30), 3) := by decide +kernel
theorem dX2_whoseSetHolds_38 : decode cX2_whoseSetHolds 38 = .ok (.iload_n 3, 1) := by decide +kernel
theorem dX2_whoseSetHolds_39 : decode cX2_whoseSetHolds 39 = .ok (.ireturn, 1) := by decide +kernel
theorem dX2_findAll_0 : decode cX2_findAll 0 = .ok (.aload_n 0, 1) := by decide +kernel
theorem dX2_findAll_1 : decode cX2_findAll 1 = .ok (.aload_n 1, 1) := by decide +kernel
theorem dX2_findAll_2 : decode cX2_findAll 2 = .ok (.getfield 69, 3) := by decide +kernel
theorem dX2_findAll_5 : decode cX2_findAll 5 = .ok (.putfield 51, 3) := by decide +kernel
theorem dX2_findAll_8 : decode cX2_findAll 8 = .ok (.aload_n 0, 1) := by decide +kernel
theorem dX2_findAll_9 : decode cX2_findAll 9 = .ok (.aload_n 1, 1) := by decide +kernel
theorem dX2_findAll_10 : decode cX2_findAll 10 = .ok (.invokevirtual 72, 3) := by decide +kernel
theorem dX2_findAll_13 : decode cX2_findAll 13 = .ok (.aload_n 0, 1) := by decide +kernel
theorem dX2_findAll_14 : decode cX2_findAll 14 = .ok (.invokevirtual 76, 3) := by decide +kernel
theorem dX2_findAll_17 : decode cX2_findAll 17 = .ok (.aload_n 0, 1) := by decide +kernel
theorem dX2_findAll_18 : decode cX2_findAll 18 = .ok (.invokevirtual 79, 3) := by decide +kernel
theorem dX2_findAll_21 : decode cX2_findAll 21 = .ok (.iconst 0, 1) := by decide +kernel
theorem dX2_findAll_22 : decode cX2_findAll 22 = .ok (.istore_n 2, 1) := by decide +kernel
theorem dX2_findAll_23 : decode cX2_findAll 23 = .ok (.iload_n 2, 1) := by decide +kernel
theorem dX2_findAll_24 : decode cX2_findAll 24 = .ok (.aload_n 0, 1) := by decide +kernel
theorem dX2_findAll_25 : decode cX2_findAll 25 = .ok (.getfield 51, 3) := by decide +kernel
theorem dX2_findAll_28 : decode cX2_findAll 28 = .ok (.if_icmp .ge 26, 3) := by decide +kernel
theorem dX2_findAll_31 : decode cX2_findAll 31 = .ok (.aload_n 0, 1) := by decide +kernel
theorem dX2_findAll_32 : decode cX2_findAll 32 = .ok (.aload_n 1, 1) := by decide +kernel
theorem dX2_findAll_33 : decode cX2_findAll 33 = .ok (.iload_n 2, 1) := by decide +kernel
theorem dX2_findAll_34 : decode cX2_findAll 34 = .ok (.invokevirtual 82, 3) := by decide +kernel
theorem dX2_findAll_37 : decode cX2_findAll 37 = .ok (.aload_n 0, 1) := by decide +kernel
theorem dX2_findAll_38 : decode cX2_findAll 38 = .ok (.aload_n 1, 1) := by decide +kernel
theorem dX2_findAll_39 : decode cX2_findAll 39 = .ok (.iload_n 2, 1) := by decide +kernel
theorem dX2_findAll_40 : decode cX2_findAll 40 = .ok (.invokevirtual 86, 3) := by decide +kernel
theorem dX2_findAll_43 : decode cX2_findAll 43 = .ok (.aload_n 0, 1) := by decide +kernel
theorem dX2_findAll_44 : decode cX2_findAll 44 = .ok (.iload_n 2, 1) := by decide +kernel
theorem dX2_findAll_45 : decode cX2_findAll 45 = .ok (.invokevirtual 89, 3) := by decide +kernel
theorem dX2_findAll_48 : decode cX2_findAll 48 = .ok (.iinc 2 1, 3) := by decide +kernel
theorem dX2_findAll_51 : decode cX2_findAll 51 = .ok (.goto (-28), 3) := by decide +kernel
theorem dX2_findAll_54 : decode cX2_findAll 54 = .ok (.aload_n 0, 1) := by decide +kernel
theorem dX2_findAll_55 : decode cX2_findAll 55 = .ok (.invokevirtual 93, 3) := by decide +kernel
theorem dX2_findAll_58 : decode cX2_findAll 58 = .ok (.return_, 1) := by decide +kernel
theorem dX2_closeHanging_0 : decode cX2_closeHanging 0 = .ok (.iconst 0, 1) := by decide +kernel
theorem dX2_closeHanging_1 : decode cX2_closeHanging 1 = .ok (.istore_n 1, 1) := by decide +kernel
theorem dX2_closeHanging_2 : decode cX2_closeHanging 2 = .ok (.iload_n 1, 1) := by decide +kernel
theorem dX2_closeHanging_3 : decode cX2_closeHanging 3 = .ok (.aload_n 0, 1) := by decide +kernel
theorem dX2_closeHanging_4 : decode cX2_closeHanging 4 = .ok (.getfield 51, 3) := by decide +kernel
theorem dX2_closeHanging_7 : decode cX2_closeHanging 7 = .ok (.if_icmp .ge 67, 3) := by decide +kernel
theorem dX2_closeHanging_10 : decode cX2_closeHanging 10 = .ok (.aload_n 0, 1) := by decide +kernel
theorem dX2_closeHanging_11 : decode cX2_closeHanging 11 = .ok (.getfield 26, 3) := by decide +kernel
theorem dX2_closeHanging_14 : decode cX2_closeHanging 14 = .ok (.iload_n 1, 1) := by decide +kernel
theorem dX2_closeHanging_15 : decode cX2_closeHanging 15 = .ok (.aload_n 0, 1) := by decide +kernel
theorem dX2_closeHanging_16 : decode cX2_closeHanging 16 = .ok (.getfield 23, 3) := by decide +kernel
theorem dX2_closeHanging_19 : decode cX2_closeHanging 19 = .ok (.iconst 1, 1) := by decide +kernel
theorem dX2_closeHanging_20 : decode cX2_closeHanging 20 = .ok (.aaload, 1) := by decide +kernel
theorem dX2_closeHanging_21 : decode cX2_closeHanging 21 = .ok (.iload_n 1, 1) := by decide +kernel
theorem dX2_closeHanging_22 : decode cX2_closeHanging 22 = .ok (.iaload, 1) := by decide +kernel
theorem dX2_closeHanging_23 : decode cX2_closeHanging 23 = .ok (.aload_n 0, 1) := by decide +kernel
theorem dX2_closeHanging_24 : decode cX2_closeHanging 24 = .ok (.getfield 23, 3) := by decide +kernel
theorem dX2_closeHanging_27 : decode cX2_closeHanging 27 = .ok (.iconst 2, 1) := by decide +kernel
theorem dX2_closeHanging_28 : decode cX2_closeHanging 28 = .ok (.aaload, 1) := by decide +kernel
theorem dX2_closeHanging_29 : decode cX2_closeHanging 29 = .ok (.iload_n 1, 1) := by decide +kernel
theorem dX2_closeHanging_30 : decode cX2_closeHanging 30 = .ok (.iaload, 1) := by decide +kernel
theorem dX2_closeHanging_31 : decode cX2_closeHanging 31 = .ok (.ior, 1) := by decide +kernel
theorem dX2_closeHanging_32 : decode cX2_closeHanging 32 = .ok (.aload_n 0, 1) := by decide +kernel
theorem dX2_closeHanging_33 : decode cX2_closeHanging 33 = .ok (.getfield 23, 3) := by decide +kernel
theorem dX2_closeHanging_36 : decode cX2_closeHanging 36 = .ok (.iconst 3, 1) := by decide +kernel
theorem dX2_closeHanging_37 : decode cX2_closeHanging 37 = .ok (.aaload, 1) := by decide +kernel
theorem dX2_closeHanging_38 : decode cX2_closeHanging 38 = .ok (.iload_n 1, 1) := by decide +kernel
theorem dX2_closeHanging_39 : decode cX2_closeHanging 39 = .ok (.iaload, 1) := by decide +kernel
theorem dX2_closeHanging_40 : decode cX2_closeHanging 40 = .ok (.ior, 1) := by decide +kernel
theorem dX2_closeHanging_41 : decode cX2_closeHanging 41 = .ok (.aload_n 0, 1) := by decide +kernel
theorem dX2_closeHanging_42 : decode cX2_closeHanging 42 = .ok (.getfield 23, 3) := by decide +kernel
theorem dX2_closeHanging_45 : decode cX2_closeHanging 45 = .ok (.iconst 4, 1) := by decide +kernel
theorem dX2_closeHanging_46 : decode cX2_closeHanging 46 = .ok (.aaload, 1) := by decide +kernel
theorem dX2_closeHanging_47 : decode cX2_closeHanging 47 = .ok (.iload_n 1, 1) := by decide +kernel
theorem dX2_closeHanging_48 : decode cX2_closeHanging 48 = .ok (.iaload, 1) := by decide +kernel
theorem dX2_closeHanging_49 : decode cX2_closeHanging 49 = .ok (.ior, 1) := by decide +kernel
theorem dX2_closeHanging_50 : decode cX2_closeHanging 50 = .ok (.iastore, 1) := by decide +kernel
theorem dX2_closeHanging_51 : decode cX2_closeHanging 51 = .ok (.aload_n 0, 1) := by decide +kernel
theorem dX2_closeHanging_52 : decode cX2_closeHanging 52 = .ok (.getfield 29, 3) := by decide +kernel
theorem dX2_closeHanging_55 : decode cX2_closeHanging 55 = .ok (.iload_n 1, 1) := by decide +kernel
theorem dX2_closeHanging_56 : decode cX2_closeHanging 56 = .ok (.dup2, 1) := by decide +kernel
theorem dX2_closeHanging_57 : decode cX2_closeHanging 57 = .ok (.iaload, 1) := by decide +kernel
theorem dX2_closeHanging_58 : decode cX2_closeHanging 58 = .ok (.aload_n 0, 1) := by decide +kernel
theorem dX2_closeHanging_59 : decode cX2_closeHanging 59 = .ok (.getfield 23, 3) := by decide +kernel
theorem dX2_closeHanging_62 : decode cX2_closeHanging 62 = .ok (.iconst 2, 1) := by decide +kernel
theorem dX2_closeHanging_63 : decode cX2_closeHanging 63 = .ok (.aaload, 1) := by decide +kernel
theorem dX2_closeHanging_64 : decode cX2_closeHanging 64 = .ok (.iload_n 1, 1) := by decide +kernel
theorem dX2_closeHanging_65 : decode cX2_closeHanging 65 = .ok (.iaload, 1) := by decide +kernel
theorem dX2_closeHanging_66 : decode cX2_closeHanging 66 = .ok (.ior, 1) := by decide +kernel
theorem dX2_closeHanging_67 : decode cX2_closeHanging 67 = .ok (.iastore, 1) := by decide +kernel
theorem dX2_closeHanging_68 : decode cX2_closeHanging 68 = .ok (.iinc 1 1, 3) := by decide +kernel
theorem dX2_closeHanging_71 : decode cX2_closeHanging 71 = .ok (.goto (-69), 3) := by decide +kernel
theorem dX2_closeHanging_74 : decode cX2_closeHanging 74 = .ok (.iconst 0, 1) := by decide +kernel
theorem dX2_closeHanging_75 : decode cX2_closeHanging 75 = .ok (.istore_n 1, 1) := by decide +kernel
theorem dX2_closeHanging_76 : decode cX2_closeHanging 76 = .ok (.iload_n 1, 1) := by decide +kernel
theorem dX2_closeHanging_77 : decode cX2_closeHanging 77 = .ok (.aload_n 0, 1) := by decide +kernel
theorem dX2_closeHanging_78 : decode cX2_closeHanging 78 = .ok (.getfield 51, 3) := by decide +kernel
theorem dX2_closeHanging_81 : decode cX2_closeHanging 81 = .ok (.if_icmp .ge 43, 3) := by decide +kernel
theorem dX2_closeHanging_84 : decode cX2_closeHanging 84 = .ok (.aload_n 0, 1) := by decide +kernel
theorem dX2_closeHanging_85 : decode cX2_closeHanging 85 = .ok (.getfield 32, 3) := by decide +kernel
theorem dX2_closeHanging_88 : decode cX2_closeHanging 88 = .ok (.iload_n 1, 1) := by decide +kernel
theorem dX2_closeHanging_89 : decode cX2_closeHanging 89 = .ok (.aload_n 0, 1) := by decide +kernel
theorem dX2_closeHanging_90 : decode cX2_closeHanging 90 = .ok (.iconst 1, 1) := by decide +kernel
theorem dX2_closeHanging_91 : decode cX2_closeHanging 91 = .ok (.iload_n 1, 1) := by decide +kernel
theorem dX2_closeHanging_92 : decode cX2_closeHanging 92 = .ok (.ishl, 1) := by decide +kernel
theorem dX2_closeHanging_93 : decode cX2_closeHanging 93 = .ok (.aload_n 0, 1) := by decide +kernel
theorem dX2_closeHanging_94 : decode cX2_closeHanging 94 = .ok (.getfield 26, 3) := by decide +kernel
theorem dX2_closeHanging_97 : decode cX2_closeHanging 97 = .ok (.invokevirtual 96, 3) := by decide +kernel
theorem dX2_closeHanging_100 : decode cX2_closeHanging 100 = .ok (.iastore, 1) := by decide +kernel
theorem dX2_closeHanging_101 : decode cX2_closeHanging 101 = .ok (.aload_n 0, 1) := by decide +kernel
theorem dX2_closeHanging_102 : decode cX2_closeHanging 102 = .ok (.getfield 35, 3) := by decide +kernel
theorem dX2_closeHanging_105 : decode cX2_closeHanging 105 = .ok (.iload_n 1, 1) := by decide +kernel
theorem dX2_closeHanging_106 : decode cX2_closeHanging 106 = .ok (.aload_n 0, 1) := by decide +kernel
theorem dX2_closeHanging_107 : decode cX2_closeHanging 107 = .ok (.iconst 1, 1) := by decide +kernel
theorem dX2_closeHanging_108 : decode cX2_closeHanging 108 = .ok (.iload_n 1, 1) := by decide +kernel
theorem dX2_closeHanging_109 : decode cX2_closeHanging 109 = .ok (.ishl, 1) := by decide +kernel
theorem dX2_closeHanging_110 : decode cX2_closeHanging 110 = .ok (.aload_n 0, 1) := by decide +kernel
theorem dX2_closeHanging_111 : decode cX2_closeHanging 111 = .ok (.getfield 29, 3) := by decide +kernel
theorem dX2_closeHanging_114 : decode cX2_closeHanging 114 = .ok (.invokevirtual 96, 3) := by decide +kernel
theorem dX2_closeHanging_117 : decode cX2_closeHanging 117 = .ok (.iastore, 1) := by decide +kernel
theorem dX2_closeHanging_118 : decode cX2_closeHanging 118 = .ok (.iinc 1 1, 3) := by decide +kernel
theorem dX2_closeHanging_121 : decode cX2_closeHanging 121 = .ok (.goto (-45), 3) := by decide +kernel
theorem dX2_closeHanging_124 : decode cX2_closeHanging 124 = .ok (.return_, 1) := by decide +kernel
theorem dX2_takeNexts_0 : decode cX2_takeNexts 0 = .ok (.iconst 0, 1) := by decide +kernel
theorem dX2_takeNexts_1 : decode cX2_takeNexts 1 = .ok (.istore_n 2, 1) := by decide +kernel
theorem dX2_takeNexts_2 : decode cX2_takeNexts 2 = .ok (.iload_n 2, 1) := by decide +kernel
theorem dX2_takeNexts_3 : decode cX2_takeNexts 3 = .ok (.aload_n 0, 1) := by decide +kernel
theorem dX2_takeNexts_4 : decode cX2_takeNexts 4 = .ok (.getfield 51, 3) := by decide +kernel
theorem dX2_takeNexts_7 : decode cX2_takeNexts 7 = .ok (.if_icmp .ge 31, 3) := by decide +kernel
theorem dX2_takeNexts_10 : decode cX2_takeNexts 10 = .ok (.aload_n 0, 1) := by decide +kernel
theorem dX2_takeNexts_11 : decode cX2_takeNexts 11 = .ok (.getfield 9, 3) := by decide +kernel
theorem dX2_takeNexts_14 : decode cX2_takeNexts 14 = .ok (.iload_n 2, 1) := by decide +kernel
theorem dX2_takeNexts_15 : decode cX2_takeNexts 15 = .ok (.aload_n 1, 1) := by decide +kernel
theorem dX2_takeNexts_16 : decode cX2_takeNexts 16 = .ok (.iload_n 2, 1) := by decide +kernel
theorem dX2_takeNexts_17 : decode cX2_takeNexts 17 = .ok (.invokevirtual 99, 3) := by decide +kernel
theorem dX2_takeNexts_20 : decode cX2_takeNexts 20 = .ok (.iastore, 1) := by decide +kernel
theorem dX2_takeNexts_21 : decode cX2_takeNexts 21 = .ok (.aload_n 0, 1) := by decide +kernel
theorem dX2_takeNexts_22 : decode cX2_takeNexts 22 = .ok (.getfield 15, 3) := by decide +kernel
theorem dX2_takeNexts_25 : decode cX2_takeNexts 25 = .ok (.iload_n 2, 1) := by decide +kernel
theorem dX2_takeNexts_26 : decode cX2_takeNexts 26 = .ok (.aload_n 1, 1) := by decide +kernel
theorem dX2_takeNexts_27 : decode cX2_takeNexts 27 = .ok (.iload_n 2, 1) := by decide +kernel
theorem dX2_takeNexts_28 : decode cX2_takeNexts 28 = .ok (.invokevirtual 102, 3) := by decide +kernel
theorem dX2_takeNexts_31 : decode cX2_takeNexts 31 = .ok (.iastore, 1) := by decide +kernel
theorem dX2_takeNexts_32 : decode cX2_takeNexts 32 = .ok (.iinc 2 1, 3) := by decide +kernel
theorem dX2_takeNexts_35 : decode cX2_takeNexts 35 = .ok (.goto (-33), 3) := by decide +kernel
theorem dX2_takeNexts_38 : decode cX2_takeNexts 38 = .ok (.return_, 1) := by decide +kernel
theorem dX2_forgetHanging_0 : decode cX2_forgetHanging 0 = .ok (.iconst 0, 1) := by decide +kernel
theorem dX2_forgetHanging_1 : decode cX2_forgetHanging 1 = .ok (.istore_n 1, 1) := by decide +kernel
theorem dX2_forgetHanging_2 : decode cX2_forgetHanging 2 = .ok (.iload_n 1, 1) := by decide +kernel
theorem dX2_forgetHanging_3 : decode cX2_forgetHanging 3 = .ok (.aload_n 0, 1) := by decide +kernel
theorem dX2_forgetHanging_4 : decode cX2_forgetHanging 4 = .ok (.getfield 51, 3) := by decide +kernel
theorem dX2_forgetHanging_7 : decode cX2_forgetHanging 7 = .ok (.if_icmp .ge 45, 3) := by decide +kernel
theorem dX2_forgetHanging_10 : decode cX2_forgetHanging 10 = .ok (.aload_n 0, 1) := by decide +kernel
theorem dX2_forgetHanging_11 : decode cX2_forgetHanging 11 = .ok (.getfield 18, 3) := by decide +kernel
theorem dX2_forgetHanging_14 : decode cX2_forgetHanging 14 = .ok (.iload_n 1, 1) := by decide +kernel
theorem dX2_forgetHanging_15 : decode cX2_forgetHanging 15 = .ok (.iconst 0, 1) := by decide +kernel
theorem dX2_forgetHanging_16 : decode cX2_forgetHanging 16 = .ok (.iastore, 1) := by decide +kernel
theorem dX2_forgetHanging_17 : decode cX2_forgetHanging 17 = .ok (.aload_n 0, 1) := by decide +kernel
theorem dX2_forgetHanging_18 : decode cX2_forgetHanging 18 = .ok (.getfield 29, 3) := by decide +kernel
theorem dX2_forgetHanging_21 : decode cX2_forgetHanging 21 = .ok (.iload_n 1, 1) := by decide +kernel
theorem dX2_forgetHanging_22 : decode cX2_forgetHanging 22 = .ok (.iconst 0, 1) := by decide +kernel
theorem dX2_forgetHanging_23 : decode cX2_forgetHanging 23 = .ok (.iastore, 1) := by decide +kernel
theorem dX2_forgetHanging_24 : decode cX2_forgetHanging 24 = .ok (.iconst 1, 1) := by decide +kernel
theorem dX2_forgetHanging_25 : decode cX2_forgetHanging 25 = .ok (.istore_n 2, 1) := by decide +kernel
theorem dX2_forgetHanging_26 : decode cX2_forgetHanging 26 = .ok (.iload_n 2, 1) := by decide +kernel
theorem dX2_forgetHanging_27 : decode cX2_forgetHanging 27 = .ok (.iconst 4, 1) := by decide +kernel
theorem dX2_forgetHanging_28 : decode cX2_forgetHanging 28 = .ok (.if_icmp .gt 18, 3) := by decide +kernel
theorem dX2_forgetHanging_31 : decode cX2_forgetHanging 31 = .ok (.aload_n 0, 1) := by decide +kernel
theorem dX2_forgetHanging_32 : decode cX2_forgetHanging 32 = .ok (.getfield 23, 3) := by decide +kernel
theorem dX2_forgetHanging_35 : decode cX2_forgetHanging 35 = .ok (.iload_n 2, 1) := by decide +kernel
theorem dX2_forgetHanging_36 : decode cX2_forgetHanging 36 = .ok (.aaload, 1) := by decide +kernel
theorem dX2_forgetHanging_37 : decode cX2_forgetHanging 37 = .ok (.iload_n 1, 1) := by decide +kernel
theorem dX2_forgetHanging_38 : decode cX2_forgetHanging 38 = .ok (.iconst 0, 1) := by decide +kernel
theorem dX2_forgetHanging_39 : decode cX2_forgetHanging 39 = .ok (.iastore, 1) := by decide +kernel
theorem dX2_forgetHanging_40 : decode cX2_forgetHanging 40 = .ok (.iinc 2 1, 3) := by decide +kernel
theorem dX2_forgetHanging_43 : decode cX2_forgetHanging 43 = .ok (.goto (-17), 3) := by decide +kernel
theorem dX2_forgetHanging_46 : decode cX2_forgetHanging 46 = .ok (.iinc 1 1, 3) := by decide +kernel
theorem dX2_forgetHanging_49 : decode cX2_forgetHanging 49 = .ok (.goto (-47), 3) := by decide +kernel
theorem dX2_forgetHanging_52 : decode cX2_forgetHanging 52 = .ok (.return_, 1) := by decide +kernel
theorem dX2_findFollowers_0 : decode cX2_findFollowers 0 = .ok (.iconst 0, 1) := by decide +kernel
theorem dX2_findFollowers_1 : decode cX2_findFollowers 1 = .ok (.istore_n 1, 1) := by decide +kernel
theorem dX2_findFollowers_2 : decode cX2_findFollowers 2 = .ok (.iload_n 1, 1) := by decide +kernel
theorem dX2_findFollowers_3 : decode cX2_findFollowers 3 = .ok (.aload_n 0, 1) := by decide +kernel
theorem dX2_findFollowers_4 : decode cX2_findFollowers 4 = .ok (.getfield 51, 3) := by decide +kernel
theorem dX2_findFollowers_7 : decode cX2_findFollowers 7 = .ok (.if_icmp .ge 56, 3) := by decide +kernel
theorem dX2_findFollowers_10 : decode cX2_findFollowers 10 = .ok (.aload_n 0, 1) := by decide +kernel
theorem dX2_findFollowers_11 : decode cX2_findFollowers 11 = .ok (.iload_n 1, 1) := by decide +kernel
theorem dX2_findFollowers_12 : decode cX2_findFollowers 12 = .ok (.invokevirtual 105, 3) := by decide +kernel
theorem dX2_findFollowers_15 : decode cX2_findFollowers 15 = .ok (.istore_n 2, 1) := by decide +kernel
theorem dX2_findFollowers_16 : decode cX2_findFollowers 16 = .ok (.iconst 0, 1) := by decide +kernel
theorem dX2_findFollowers_17 : decode cX2_findFollowers 17 = .ok (.istore_n 3, 1) := by decide +kernel
theorem dX2_findFollowers_18 : decode cX2_findFollowers 18 = .ok (.iload_n 3, 1) := by decide +kernel
theorem dX2_findFollowers_19 : decode cX2_findFollowers 19 = .ok (.aload_n 0, 1) := by decide +kernel
theorem dX2_findFollowers_20 : decode cX2_findFollowers 20 = .ok (.getfield 51, 3) := by decide +kernel
theorem dX2_findFollowers_23 : decode cX2_findFollowers 23 = .ok (.if_icmp .ge 34, 3) := by decide +kernel
theorem dX2_findFollowers_26 : decode cX2_findFollowers 26 = .ok (.iload_n 3, 1) := by decide +kernel
theorem dX2_findFollowers_27 : decode cX2_findFollowers 27 = .ok (.iload_n 1, 1) := by decide +kernel
theorem dX2_findFollowers_28 : decode cX2_findFollowers 28 = .ok (.if_icmp .eq 23, 3) := by decide +kernel
theorem dX2_findFollowers_31 : decode cX2_findFollowers 31 = .ok (.iload_n 2, 1) := by decide +kernel
theorem dX2_findFollowers_32 : decode cX2_findFollowers 32 = .ok (.iload_n 3, 1) := by decide +kernel
theorem dX2_findFollowers_33 : decode cX2_findFollowers 33 = .ok (.invokestatic 55, 3) := by decide +kernel
theorem dX2_findFollowers_36 : decode cX2_findFollowers 36 = .ok (.ifCond .ne 15, 3) := by decide +kernel
theorem dX2_findFollowers_39 : decode cX2_findFollowers 39 = .ok (.aload_n 0, 1) := by decide +kernel
theorem dX2_findFollowers_40 : decode cX2_findFollowers 40 = .ok (.getfield 18, 3) := by decide +kernel
theorem dX2_findFollowers_43 : decode cX2_findFollowers 43 = .ok (.iload_n 3, 1) := by decide +kernel
theorem dX2_findFollowers_44 : decode cX2_findFollowers 44 = .ok (.dup2, 1) := by decide +kernel
theorem dX2_findFollowers_45 : decode cX2_findFollowers 45 = .ok (.iaload, 1) := by decide +kernel
theorem dX2_findFollowers_46 : decode cX2_findFollowers 46 = .ok (.iconst 1, 1) := by decide +kernel
theorem dX2_findFollowers_47 : decode cX2_findFollowers 47 = .ok (.iload_n 1, 1) := by decide +kernel
theorem dX2_findFollowers_48 : decode cX2_findFollowers 48 = .ok (.ishl, 1) := by decide +kernel
theorem dX2_findFollowers_49 : decode cX2_findFollowers 49 = .ok (.ior, 1) := by decide +kernel
theorem dX2_findFollowers_50 : decode cX2_findFollowers 50 = .ok (.iastore, 1) := by decide +kernel
theorem dX2_findFollowers_51 : decode cX2_findFollowers 51 = .ok (.iinc 3 1, 3) := by decide +kernel
theorem dX2_findFollowers_54 : decode cX2_findFollowers 54 = .ok (.goto (-36), 3) := by decide +kernel
theorem dX2_findFollowers_57 : decode cX2_findFollowers 57 = .ok (.iinc 1 1, 3) := by decide +kernel
theorem dX2_findFollowers_60 : decode cX2_findFollowers 60 = .ok (.goto (-58), 3) := by decide +kernel
theorem dX2_findFollowers_63 : decode cX2_findFollowers 63 = .ok (.return_, 1) := by decide +kernel
theorem dX2_endReachedWithout_0 : decode cX2_endReachedWithout 0 = .ok (.ldc 108, 2) := by decide +kernel
theorem dX2_endReachedWithout_2 : decode cX2_endReachedWithout 2 = .ok (.istore_n 2, 1) := by decide +kernel
theorem dX2_endReachedWithout_3 : decode cX2_endReachedWithout 3 = .ok (.iconst 0, 1) := by decide +kernel
theorem dX2_endReachedWithout_4 : decode cX2_endReachedWithout 4 = .ok (.istore_n 3, 1) := by decide +kernel
theorem dX2_endReachedWithout_5 : decode cX2_endReachedWithout 5 = .ok (.iconst 0, 1) := by decide +kernel
theorem dX2_endReachedWithout_6 : decode cX2_endReachedWithout 6 = .ok (.istore 4, 2) := by decide +kernel
theorem dX2_endReachedWithout_8 : decode cX2_endReachedWithout 8 = .ok (.iload_n 2, 1) := by decide +kernel
theorem dX2_endReachedWithout_9 : decode cX2_endReachedWithout 9 = .ok (.iload_n 3, 1) := by decide +kernel
theorem dX2_endReachedWithout_10 : decode cX2_endReachedWithout 10 = .ok (.if_icmp .eq 62, 3) := by decide +kernel
theorem dX2_endReachedWithout_13 : decode cX2_endReachedWithout 13 = .ok (.iload 4, 2) := by decide +kernel
theorem dX2_endReachedWithout_15 : decode cX2_endReachedWithout 15 = .ok (.bipush 24, 2) := by decide +kernel
theorem dX2_endReachedWithout_17 : decode cX2_endReachedWithout 17 = .ok (.if_icmp .gt 55, 3) := by decide +kernel
theorem dX2_endReachedWithout_20 : decode cX2_endReachedWithout 20 = .ok (.iload_n 2, 1) := by decide +kernel
theorem dX2_endReachedWithout_21 : decode cX2_endReachedWithout 21 = .ok (.istore_n 3, 1) := by decide +kernel
theorem dX2_endReachedWithout_22 : decode cX2_endReachedWithout 22 = .ok (.aload_n 0, 1) := by decide +kernel
theorem dX2_endReachedWithout_23 : decode cX2_endReachedWithout 23 = .ok (.getfield 51, 3) := by decide +kernel
theorem dX2_endReachedWithout_26 : decode cX2_endReachedWithout 26 = .ok (.iconst 1, 1) := by decide +kernel
theorem dX2_endReachedWithout_27 : decode cX2_endReachedWithout 27 = .ok (.isub, 1) := by decide +kernel
theorem dX2_endReachedWithout_28 : decode cX2_endReachedWithout 28 = .ok (.istore 5, 2) := by decide +kernel
theorem dX2_endReachedWithout_30 : decode cX2_endReachedWithout 30 = .ok (.iload 5, 2) := by decide +kernel
theorem dX2_endReachedWithout_32 : decode cX2_endReachedWithout 32 = .ok (.ifCond .lt 34, 3) := by decide +kernel
theorem dX2_endReachedWithout_35 : decode cX2_endReachedWithout 35 = .ok (.iload 5, 2) := by decide +kernel
theorem dX2_endReachedWithout_37 : decode cX2_endReachedWithout 37 = .ok (.iload_n 1, 1) := by decide +kernel
theorem dX2_endReachedWithout_38 : decode cX2_endReachedWithout 38 = .ok (.if_icmp .eq 22, 3) := by decide +kernel
theorem dX2_endReachedWithout_41 : decode cX2_endReachedWithout 41 = .ok (.aload_n 0, 1) := by decide +kernel
theorem dX2_endReachedWithout_42 : decode cX2_endReachedWithout 42 = .ok (.getfield 15, 3) := by decide +kernel
theorem dX2_endReachedWithout_45 : decode cX2_endReachedWithout 45 = .ok (.iload 5, 2) := by decide +kernel
theorem dX2_endReachedWithout_47 : decode cX2_endReachedWithout 47 = .ok (.iaload, 1) := by decide +kernel
theorem dX2_endReachedWithout_48 : decode cX2_endReachedWithout 48 = .ok (.iload_n 2, 1) := by decide +kernel
theorem dX2_endReachedWithout_49 : decode cX2_endReachedWithout 49 = .ok (.iand, 1) := by decide +kernel
theorem dX2_endReachedWithout_50 : decode cX2_endReachedWithout 50 = .ok (.ifCond .eq 10, 3) := by decide +kernel
theorem dX2_endReachedWithout_53 : decode cX2_endReachedWithout 53 = .ok (.iload_n 2, 1) := by decide +kernel
theorem dX2_endReachedWithout_54 : decode cX2_endReachedWithout 54 = .ok (.iconst 1, 1) := by decide +kernel
theorem dX2_endReachedWithout_55 : decode cX2_endReachedWithout 55 = .ok (.iload 5, 2) := by decide +kernel
theorem dX2_endReachedWithout_57 : decode cX2_endReachedWithout 57 = .ok (.ishl, 1) := by decide +kernel
theorem dX2_endReachedWithout_58 : decode cX2_endReachedWithout 58 = .ok (.ior, 1) := by decide +kernel
theorem dX2_endReachedWithout_59 : decode cX2_endReachedWithout 59 = .ok (.istore_n 2, 1) := by decide +kernel
theorem dX2_endReachedWithout_60 : decode cX2_endReachedWithout 60 = .ok (.iinc 5 (-1), 3) := by decide +kernel
theorem dX2_endReachedWithout_63 : decode cX2_endReachedWithout 63 = .ok (.goto (-33), 3) := by decide +kernel
theorem dX2_endReachedWithout_66 : decode cX2_endReachedWithout 66 = .ok (.iinc 4 1, 3) := by decide +kernel
theorem dX2_endReachedWithout_69 : decode cX2_endReachedWithout 69 = .ok (.goto (-61), 3) := by decide +kernel
theorem dX2_endReachedWithout_72 : decode cX2_endReachedWithout 72 = .ok (.iload_n 2, 1) := by decide +kernel
theorem dX2_endReachedWithout_73 : decode cX2_endReachedWithout 73 = .ok (.ireturn, 1) := by decide +kernel
theorem dX2_findHangingByData_0 : decode cX2_findHangingByData 0 = .ok (.aload_n 1, 1) := by decide +kernel
theorem dX2_findHangingByData_1 : decode cX2_findHangingByData 1 = .ok (.iload_n 2, 1) := by decide +kernel
theorem dX2_findHangingByData_2 : decode cX2_findHangingByData 2 = .ok (.invokevirtual 109, 3) := by decide +kernel
theorem dX2_findHangingByData_5 : decode cX2_findHangingByData 5 = .ok (.istore_n 3, 1) := by decide +kernel
theorem dX2_findHangingByData_6 : decode cX2_findHangingByData 6 = .ok (.iload_n 3, 1) := by decide +kernel
theorem dX2_findHangingByData_7 : decode cX2_findHangingByData 7 = .ok (.ifCond .ne 4, 3) := by decide +kernel
theorem dX2_findHangingByData_10 : decode cX2_findHangingByData 10 = .ok (.return_, 1) := by decide +kernel
theorem dX2_findHangingByData_11 : decode cX2_findHangingByData 11 = .ok (.iload_n 3, 1) := by decide +kernel
theorem dX2_findHangingByData_12 : decode cX2_findHangingByData 12 = .ok (.sipush 256, 3) := by decide +kernel
theorem dX2_findHangingByData_15 : decode cX2_findHangingByData 15 = .ok (.if_icmp .ge 7, 3) := by decide +kernel
theorem dX2_findHangingByData_18 : decode cX2_findHangingByData 18 = .ok (.iconst 1, 1) := by decide +kernel
theorem dX2_findHangingByData_19 : decode cX2_findHangingByData 19 = .ok (.goto 4, 3) := by decide +kernel
theorem dX2_findHangingByData_22 : decode cX2_findHangingByData 22 = .ok (.iconst 3, 1) := by decide +kernel
theorem dX2_findHangingByData_23 : decode cX2_findHangingByData 23 = .ok (.istore 4, 2) := by decide +kernel
theorem dX2_findHangingByData_25 : decode cX2_findHangingByData 25 = .ok (.aload_n 0, 1) := by decide +kernel
theorem dX2_findHangingByData_26 : decode cX2_findHangingByData 26 = .ok (.iload_n 2, 1) := by decide +kernel
theorem dX2_findHangingByData_27 : decode cX2_findHangingByData 27 = .ok (.aload_n 0, 1) := by decide +kernel
theorem dX2_findHangingByData_28 : decode cX2_findHangingByData 28 = .ok (.aload_n 1, 1) := by decide +kernel
theorem dX2_findHangingByData_29 : decode cX2_findHangingByData 29 = .ok (.iload_n 3, 1) := by decide +kernel
theorem dX2_findHangingByData_30 : decode cX2_findHangingByData 30 = .ok (.invokevirtual 112, 3) := by decide +kernel
theorem dX2_findHangingByData_33 : decode cX2_findHangingByData 33 = .ok (.invokevirtual 116, 3) := by decide +kernel
theorem dX2_findHangingByData_36 : decode cX2_findHangingByData 36 = .ok (.istore 5, 2) := by decide +kernel
theorem dX2_findHangingByData_38 : decode cX2_findHangingByData 38 = .ok (.iconst 0, 1) := by decide +kernel
theorem dX2_findHangingByData_39 : decode cX2_findHangingByData 39 = .ok (.istore 6, 2) := by decide +kernel
theorem dX2_findHangingByData_41 : decode cX2_findHangingByData 41 = .ok (.iload 6, 2) := by decide +kernel
theorem dX2_findHangingByData_43 : decode cX2_findHangingByData 43 = .ok (.aload_n 0, 1) := by decide +kernel
theorem dX2_findHangingByData_44 : decode cX2_findHangingByData 44 = .ok (.getfield 51, 3) := by decide +kernel
theorem dX2_findHangingByData_47 : decode cX2_findHangingByData 47 = .ok (.if_icmp .ge 80, 3) := by decide +kernel
theorem dX2_findHangingByData_50 : decode cX2_findHangingByData 50 = .ok (.iload 5, 2) := by decide +kernel
theorem dX2_findHangingByData_52 : decode cX2_findHangingByData 52 = .ok (.iload 6, 2) := by decide +kernel
theorem dX2_findHangingByData_54 : decode cX2_findHangingByData 54 = .ok (.invokestatic 55, 3) := by decide +kernel
theorem dX2_findHangingByData_57 : decode cX2_findHangingByData 57 = .ok (.ifCond .eq 30, 3) := by decide +kernel
theorem dX2_findHangingByData_60 : decode cX2_findHangingByData 60 = .ok (.aload_n 1, 1) := by decide +kernel
theorem dX2_findHangingByData_61 : decode cX2_findHangingByData 61 = .ok (.iload 6, 2) := by decide +kernel
theorem dX2_findHangingByData_63 : decode cX2_findHangingByData 63 = .ok (.invokevirtual 119, 3) := by decide +kernel
theorem dX2_findHangingByData_66 : decode cX2_findHangingByData 66 = .ok (.iload_n 3, 1) := by decide +kernel
theorem dX2_findHangingByData_67 : decode cX2_findHangingByData 67 = .ok (.iand, 1) := by decide +kernel
theorem dX2_findHangingByData_68 : decode cX2_findHangingByData 68 = .ok (.ifCond .eq 19, 3) := by decide +kernel
theorem dX2_findHangingByData_71 : decode cX2_findHangingByData 71 = .ok (.aload_n 0, 1) := by decide +kernel
theorem dX2_findHangingByData_72 : decode cX2_findHangingByData 72 = .ok (.getfield 23, 3) := by decide +kernel
theorem dX2_findHangingByData_75 : decode cX2_findHangingByData 75 = .ok (.iload 4, 2) := by decide +kernel
theorem dX2_findHangingByData_77 : decode cX2_findHangingByData 77 = .ok (.aaload, 1) := by decide +kernel
theorem dX2_findHangingByData_78 : decode cX2_findHangingByData 78 = .ok (.iload 6, 2) := by decide +kernel
theorem dX2_findHangingByData_80 : decode cX2_findHangingByData 80 = .ok (.dup2, 1) := by decide +kernel
theorem dX2_findHangingByData_81 : decode cX2_findHangingByData 81 = .ok (.iaload, 1) := by decide +kernel
theorem dX2_findHangingByData_82 : decode cX2_findHangingByData 82 = .ok (.iconst 1, 1) := by decide +kernel
theorem dX2_findHangingByData_83 : decode cX2_findHangingByData 83 = .ok (.iload_n 2, 1) := by decide +kernel
theorem dX2_findHangingByData_84 : decode cX2_findHangingByData 84 = .ok (.ishl, 1) := by decide +kernel
theorem dX2_findHangingByData_85 : decode cX2_findHangingByData 85 = .ok (.ior, 1) := by decide +kernel
theorem dX2_findHangingByData_86 : decode cX2_findHangingByData 86 = .ok (.iastore, 1) := by decide +kernel
theorem dX2_findHangingByData_87 : decode cX2_findHangingByData 87 = .ok (.iload 5, 2) := by decide +kernel
theorem dX2_findHangingByData_89 : decode cX2_findHangingByData 89 = .ok (.iload 6, 2) := by decide +kernel
theorem dX2_findHangingByData_91 : decode cX2_findHangingByData 91 = .ok (.invokestatic 55, 3) := by decide +kernel
theorem dX2_findHangingByData_94 : decode cX2_findHangingByData 94 = .ok (.ifCond .eq 27, 3) := by decide +kernel
theorem dX2_findHangingByData_97 : decode cX2_findHangingByData 97 = .ok (.aload_n 1, 1) := by decide +kernel
theorem dX2_findHangingByData_98 : decode cX2_findHangingByData 98 = .ok (.iload 6, 2) := by decide +kernel
theorem dX2_findHangingByData_100 : decode cX2_findHangingByData 100 = .ok (.invokevirtual 122, 3) := by decide +kernel
theorem dX2_findHangingByData_103 : decode cX2_findHangingByData 103 = .ok (.iload_n 3, 1) := by decide +kernel
theorem dX2_findHangingByData_104 : decode cX2_findHangingByData 104 = .ok (.iand, 1) := by decide +kernel
theorem dX2_findHangingByData_105 : decode cX2_findHangingByData 105 = .ok (.ifCond .eq 16, 3) := by decide +kernel
theorem dX2_findHangingByData_108 : decode cX2_findHangingByData 108 = .ok (.aload_n 0, 1) := by decide +kernel
theorem dX2_findHangingByData_109 : decode cX2_findHangingByData 109 = .ok (.getfield 29, 3) := by decide +kernel
theorem dX2_findHangingByData_112 : decode cX2_findHangingByData 112 = .ok (.iload 6, 2) := by decide +kernel
theorem dX2_findHangingByData_114 : decode cX2_findHangingByData 114 = .ok (.dup2, 1) := by decide +kernel
theorem dX2_findHangingByData_115 : decode cX2_findHangingByData 115 = .ok (.iaload, 1) := by decide +kernel
theorem dX2_findHangingByData_116 : decode cX2_findHangingByData 116 = .ok (.iconst 1, 1) := by decide +kernel
theorem dX2_findHangingByData_117 : decode cX2_findHangingByData 117 = .ok (.iload_n 2, 1) := by decide +kernel
theorem dX2_findHangingByData_118 : decode cX2_findHangingByData 118 = .ok (.ishl, 1) := by decide +kernel
theorem dX2_findHangingByData_119 : decode cX2_findHangingByData 119 = .ok (.ior, 1) := by decide +kernel
theorem dX2_findHangingByData_120 : decode cX2_findHangingByData 120 = .ok (.iastore, 1) := by decide +kernel
theorem dX2_findHangingByData_121 : decode cX2_findHangingByData 121 = .ok (.iinc 6 1, 3) := by decide +kernel
theorem dX2_findHangingByData_124 : decode cX2_findHangingByData 124 = .ok (.goto (-83), 3) := by decide +kernel
theorem dX2_findHangingByData_127 : decode cX2_findHangingByData 127 = .ok (.return_, 1) := by decide +kernel
theorem dX2_settersOf_0 : decode cX2_settersOf 0 = .ok (.iconst 0, 1) := by decide +kernel
theorem dX2_settersOf_1 : decode cX2_settersOf 1 = .ok (.istore_n 3, 1) := by decide +kernel
theorem dX2_settersOf_2 : decode cX2_settersOf 2 = .ok (.iconst 0, 1) := by decide +kernel
theorem dX2_settersOf_3 : decode cX2_settersOf 3 = .ok (.istore 4, 2) := by decide +kernel
theorem dX2_settersOf_5 : decode cX2_settersOf 5 = .ok (.iload 4, 2) := by decide +kernel
theorem dX2_settersOf_7 : decode cX2_settersOf 7 = .ok (.aload_n 0, 1) := by decide +kernel
theorem dX2_settersOf_8 : decode cX2_settersOf 8 = .ok (.getfield 51, 3) := by decide +kernel
theorem dX2_settersOf_11 : decode cX2_settersOf 11 = .ok (.if_icmp .ge 26, 3) := by decide +kernel
theorem dX2_settersOf_14 : decode cX2_settersOf 14 = .ok (.aload_n 1, 1) := by decide +kernel
theorem dX2_settersOf_15 : decode cX2_settersOf 15 = .ok (.iload 4, 2) := by decide +kernel
theorem dX2_settersOf_17 : decode cX2_settersOf 17 = .ok (.invokevirtual 109, 3) := by decide +kernel
theorem dX2_settersOf_20 : decode cX2_settersOf 20 = .ok (.iload_n 2, 1) := by decide +kernel
theorem dX2_settersOf_21 : decode cX2_settersOf 21 = .ok (.if_icmp .ne 10, 3) := by decide +kernel
theorem dX2_settersOf_24 : decode cX2_settersOf 24 = .ok (.iload_n 3, 1) := by decide +kernel
theorem dX2_settersOf_25 : decode cX2_settersOf 25 = .ok (.iconst 1, 1) := by decide +kernel
theorem dX2_settersOf_26 : decode cX2_settersOf 26 = .ok (.iload 4, 2) := by decide +kernel
theorem dX2_settersOf_28 : decode cX2_settersOf 28 = .ok (.ishl, 1) := by decide +kernel
theorem dX2_settersOf_29 : decode cX2_settersOf 29 = .ok (.ior, 1) := by decide +kernel
theorem dX2_settersOf_30 : decode cX2_settersOf 30 = .ok (.istore_n 3, 1) := by decide +kernel
theorem dX2_settersOf_31 : decode cX2_settersOf 31 = .ok (.iinc 4 1, 3) := by decide +kernel
theorem dX2_settersOf_34 : decode cX2_settersOf 34 = .ok (.goto (-29), 3) := by decide +kernel
theorem dX2_settersOf_37 : decode cX2_settersOf 37 = .ok (.iload_n 3, 1) := by decide +kernel
theorem dX2_settersOf_38 : decode cX2_settersOf 38 = .ok (.ireturn, 1) := by decide +kernel
theorem dX2_findHangingByNames_0 : decode cX2_findHangingByNames 0 = .ok (.aload_n 1, 1) := by decide +kernel
theorem dX2_findHangingByNames_1 : decode cX2_findHangingByNames 1 = .ok (.getfield 125, 3) := by decide +kernel
theorem dX2_findHangingByNames_4 : decode cX2_findHangingByNames 4 = .ok (.iload_n 2, 1) := by decide +kernel
theorem dX2_findHangingByNames_5 : decode cX2_findHangingByNames 5 = .ok (.iaload, 1) := by decide +kernel
theorem dX2_findHangingByNames_6 : decode cX2_findHangingByNames 6 = .ok (.bipush 7, 2) := by decide +kernel
theorem dX2_findHangingByNames_8 : decode cX2_findHangingByNames 8 = .ok (.if_icmp .eq 4, 3) := by decide +kernel
theorem dX2_findHangingByNames_11 : decode cX2_findHangingByNames 11 = .ok (.return_, 1) := by decide +kernel
theorem dX2_findHangingByNames_12 : decode cX2_findHangingByNames 12 = .ok (.aload_n 0, 1) := by decide +kernel
theorem dX2_findHangingByNames_13 : decode cX2_findHangingByNames 13 = .ok (.iload_n 2, 1) := by decide +kernel
theorem dX2_findHangingByNames_14 : decode cX2_findHangingByNames 14 = .ok (.iconst 0, 1) := by decide +kernel
theorem dX2_findHangingByNames_15 : decode cX2_findHangingByNames 15 = .ok (.invokevirtual 116, 3) := by decide +kernel
theorem dX2_findHangingByNames_18 : decode cX2_findHangingByNames 18 = .ok (.istore_n 3, 1) := by decide +kernel
theorem dX2_findHangingByNames_19 : decode cX2_findHangingByNames 19 = .ok (.iconst 0, 1) := by decide +kernel
theorem dX2_findHangingByNames_20 : decode cX2_findHangingByNames 20 = .ok (.istore 4, 2) := by decide +kernel
theorem dX2_findHangingByNames_22 : decode cX2_findHangingByNames 22 = .ok (.iload 4, 2) := by decide +kernel
theorem dX2_findHangingByNames_24 : decode cX2_findHangingByNames 24 = .ok (.aload_n 0, 1) := by decide +kernel
theorem dX2_findHangingByNames_25 : decode cX2_findHangingByNames 25 = .ok (.getfield 51, 3) := by decide +kernel
theorem dX2_findHangingByNames_28 : decode cX2_findHangingByNames 28 = .ok (.if_icmp .ge 55, 3) := by decide +kernel
theorem dX2_findHangingByNames_31 : decode cX2_findHangingByNames 31 = .ok (.iload_n 3, 1) := by decide +kernel
theorem dX2_findHangingByNames_32 : decode cX2_findHangingByNames 32 = .ok (.iload 4, 2) := by decide +kernel
theorem dX2_findHangingByNames_34 : decode cX2_findHangingByNames 34 = .ok (.invokestatic 55, 3) := by decide +kernel
theorem dX2_findHangingByNames_37 : decode cX2_findHangingByNames 37 = .ok (.ifCond .eq 40, 3) := by decide +kernel
theorem dX2_findHangingByNames_40 : decode cX2_findHangingByNames 40 = .ok (.aload_n 1, 1) := by decide +kernel
theorem dX2_findHangingByNames_41 : decode cX2_findHangingByNames 41 = .ok (.getfield 125, 3) := by decide +kernel
theorem dX2_findHangingByNames_44 : decode cX2_findHangingByNames 44 = .ok (.iload 4, 2) := by decide +kernel
theorem dX2_findHangingByNames_46 : decode cX2_findHangingByNames 46 = .ok (.iaload, 1) := by decide +kernel
theorem dX2_findHangingByNames_47 : decode cX2_findHangingByNames 47 = .ok (.bipush 8, 2) := by decide +kernel
theorem dX2_findHangingByNames_49 : decode cX2_findHangingByNames 49 = .ok (.if_icmp .ne 28, 3) := by decide +kernel
theorem dX2_findHangingByNames_52 : decode cX2_findHangingByNames 52 = .ok (.aload_n 1, 1) := by decide +kernel
theorem dX2_findHangingByNames_53 : decode cX2_findHangingByNames 53 = .ok (.iload_n 2, 1) := by decide +kernel
theorem dX2_findHangingByNames_54 : decode cX2_findHangingByNames 54 = .ok (.iload 4, 2) := by decide +kernel
theorem dX2_findHangingByNames_56 : decode cX2_findHangingByNames 56 = .ok (.invokevirtual 128, 3) := by decide +kernel
theorem dX2_findHangingByNames_59 : decode cX2_findHangingByNames 59 = .ok (.ifCond .eq 18, 3) := by decide +kernel
theorem dX2_findHangingByNames_62 : decode cX2_findHangingByNames 62 = .ok (.aload_n 0, 1) := by decide +kernel
theorem dX2_findHangingByNames_63 : decode cX2_findHangingByNames 63 = .ok (.getfield 23, 3) := by decide +kernel
theorem dX2_findHangingByNames_66 : decode cX2_findHangingByNames 66 = .ok (.iconst 2, 1) := by decide +kernel
theorem dX2_findHangingByNames_67 : decode cX2_findHangingByNames 67 = .ok (.aaload, 1) := by decide +kernel
theorem dX2_findHangingByNames_68 : decode cX2_findHangingByNames 68 = .ok (.iload 4, 2) := by decide +kernel
theorem dX2_findHangingByNames_70 : decode cX2_findHangingByNames 70 = .ok (.dup2, 1) := by decide +kernel
theorem dX2_findHangingByNames_71 : decode cX2_findHangingByNames 71 = .ok (.iaload, 1) := by decide +kernel
