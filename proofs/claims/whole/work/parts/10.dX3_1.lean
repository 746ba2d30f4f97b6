theorem dX3_wholeIsSpentInATest_57 : decode cX3_wholeIsSpentInATest 57 = .ok (.iload_n 2, 1) := by decide +kernel
theorem dX3_wholeIsSpentInATest_58 : decode cX3_wholeIsSpentInATest 58 = .ok (.ireturn, 1) := by decide +kernel
theorem dX3_withoutNeedless_0 : decode cX3_withoutNeedless 0 = .ok (.iload_n 1, 1) := by decide +kernel
theorem dX3_withoutNeedless_1 : decode cX3_withoutNeedless 1 = .ok (.istore_n 3, 1) := by decide +kernel
theorem dX3_withoutNeedless_2 : decode cX3_withoutNeedless 2 = .ok (.aload_n 0, 1) := by decide +kernel
theorem dX3_withoutNeedless_3 : decode cX3_withoutNeedless 3 = .ok (.getfield 12, 3) := by decide +kernel
theorem dX3_withoutNeedless_6 : decode cX3_withoutNeedless 6 = .ok (.getfield 57, 3) := by decide +kernel
theorem dX3_withoutNeedless_9 : decode cX3_withoutNeedless 9 = .ok (.iconst 1, 1) := by decide +kernel
theorem dX3_withoutNeedless_10 : decode cX3_withoutNeedless 10 = .ok (.isub, 1) := by decide +kernel
theorem dX3_withoutNeedless_11 : decode cX3_withoutNeedless 11 = .ok (.istore 4, 2) := by decide +kernel
theorem dX3_withoutNeedless_13 : decode cX3_withoutNeedless 13 = .ok (.iload 4, 2) := by decide +kernel
theorem dX3_withoutNeedless_15 : decode cX3_withoutNeedless 15 = .ok (.ifCond .lt 49, 3) := by decide +kernel
theorem dX3_withoutNeedless_18 : decode cX3_withoutNeedless 18 = .ok (.iload 4, 2) := by decide +kernel
theorem dX3_withoutNeedless_20 : decode cX3_withoutNeedless 20 = .ok (.iload_n 2, 1) := by decide +kernel
theorem dX3_withoutNeedless_21 : decode cX3_withoutNeedless 21 = .ok (.if_icmp .eq 37, 3) := by decide +kernel
theorem dX3_withoutNeedless_24 : decode cX3_withoutNeedless 24 = .ok (.iload_n 3, 1) := by decide +kernel
theorem dX3_withoutNeedless_25 : decode cX3_withoutNeedless 25 = .ok (.iload 4, 2) := by decide +kernel
theorem dX3_withoutNeedless_27 : decode cX3_withoutNeedless 27 = .ok (.invokestatic 135, 3) := by decide +kernel
theorem dX3_withoutNeedless_30 : decode cX3_withoutNeedless 30 = .ok (.ifCond .eq 28, 3) := by decide +kernel
theorem dX3_withoutNeedless_33 : decode cX3_withoutNeedless 33 = .ok (.aload_n 0, 1) := by decide +kernel
theorem dX3_withoutNeedless_34 : decode cX3_withoutNeedless 34 = .ok (.iload_n 3, 1) := by decide +kernel
theorem dX3_withoutNeedless_35 : decode cX3_withoutNeedless 35 = .ok (.iconst 1, 1) := by decide +kernel
theorem dX3_withoutNeedless_36 : decode cX3_withoutNeedless 36 = .ok (.iload 4, 2) := by decide +kernel
theorem dX3_withoutNeedless_38 : decode cX3_withoutNeedless 38 = .ok (.ishl, 1) := by decide +kernel
theorem dX3_withoutNeedless_39 : decode cX3_withoutNeedless 39 = .ok (.iconst (-1), 1) := by decide +kernel
theorem dX3_withoutNeedless_40 : decode cX3_withoutNeedless 40 = .ok (.ixor, 1) := by decide +kernel
theorem dX3_withoutNeedless_41 : decode cX3_withoutNeedless 41 = .ok (.iand, 1) := by decide +kernel
theorem dX3_withoutNeedless_42 : decode cX3_withoutNeedless 42 = .ok (.iload_n 2, 1) := by decide +kernel
theorem dX3_withoutNeedless_43 : decode cX3_withoutNeedless 43 = .ok (.invokevirtual 170, 3) := by decide +kernel
theorem dX3_withoutNeedless_46 : decode cX3_withoutNeedless 46 = .ok (.ifCond .eq 12, 3) := by decide +kernel
theorem dX3_withoutNeedless_49 : decode cX3_withoutNeedless 49 = .ok (.iload_n 3, 1) := by decide +kernel
theorem dX3_withoutNeedless_50 : decode cX3_withoutNeedless 50 = .ok (.iconst 1, 1) := by decide +kernel
theorem dX3_withoutNeedless_51 : decode cX3_withoutNeedless 51 = .ok (.iload 4, 2) := by decide +kernel
theorem dX3_withoutNeedless_53 : decode cX3_withoutNeedless 53 = .ok (.ishl, 1) := by decide +kernel
theorem dX3_withoutNeedless_54 : decode cX3_withoutNeedless 54 = .ok (.iconst (-1), 1) := by decide +kernel
theorem dX3_withoutNeedless_55 : decode cX3_withoutNeedless 55 = .ok (.ixor, 1) := by decide +kernel
theorem dX3_withoutNeedless_56 : decode cX3_withoutNeedless 56 = .ok (.iand, 1) := by decide +kernel
theorem dX3_withoutNeedless_57 : decode cX3_withoutNeedless 57 = .ok (.istore_n 3, 1) := by decide +kernel
theorem dX3_withoutNeedless_58 : decode cX3_withoutNeedless 58 = .ok (.iinc 4 (-1), 3) := by decide +kernel
theorem dX3_withoutNeedless_61 : decode cX3_withoutNeedless 61 = .ok (.goto (-48), 3) := by decide +kernel
theorem dX3_withoutNeedless_64 : decode cX3_withoutNeedless 64 = .ok (.iload_n 3, 1) := by decide +kernel
theorem dX3_withoutNeedless_65 : decode cX3_withoutNeedless 65 = .ok (.ireturn, 1) := by decide +kernel
theorem dX3_testsAgree_0 : decode cX3_testsAgree 0 = .ok (.iconst 0, 1) := by decide +kernel
theorem dX3_testsAgree_1 : decode cX3_testsAgree 1 = .ok (.istore_n 3, 1) := by decide +kernel
theorem dX3_testsAgree_2 : decode cX3_testsAgree 2 = .ok (.iload_n 3, 1) := by decide +kernel
theorem dX3_testsAgree_3 : decode cX3_testsAgree 3 = .ok (.aload_n 0, 1) := by decide +kernel
theorem dX3_testsAgree_4 : decode cX3_testsAgree 4 = .ok (.getfield 150, 3) := by decide +kernel
theorem dX3_testsAgree_7 : decode cX3_testsAgree 7 = .ok (.if_icmp .ge 62, 3) := by decide +kernel
theorem dX3_testsAgree_10 : decode cX3_testsAgree 10 = .ok (.aload_n 0, 1) := by decide +kernel
theorem dX3_testsAgree_11 : decode cX3_testsAgree 11 = .ok (.getfield 47, 3) := by decide +kernel
theorem dX3_testsAgree_14 : decode cX3_testsAgree 14 = .ok (.aload_n 0, 1) := by decide +kernel
theorem dX3_testsAgree_15 : decode cX3_testsAgree 15 = .ok (.getfield 12, 3) := by decide +kernel
theorem dX3_testsAgree_18 : decode cX3_testsAgree 18 = .ok (.aload_n 0, 1) := by decide +kernel
theorem dX3_testsAgree_19 : decode cX3_testsAgree 19 = .ok (.getfield 33, 3) := by decide +kernel
theorem dX3_testsAgree_22 : decode cX3_testsAgree 22 = .ok (.iload_n 3, 1) := by decide +kernel
theorem dX3_testsAgree_23 : decode cX3_testsAgree 23 = .ok (.aaload, 1) := by decide +kernel
theorem dX3_testsAgree_24 : decode cX3_testsAgree 24 = .ok (.iload_n 1, 1) := by decide +kernel
theorem dX3_testsAgree_25 : decode cX3_testsAgree 25 = .ok (.iload_n 2, 1) := by decide +kernel
theorem dX3_testsAgree_26 : decode cX3_testsAgree 26 = .ok (.invokevirtual 97, 3) := by decide +kernel
theorem dX3_testsAgree_29 : decode cX3_testsAgree 29 = .ok (.iconst 2, 1) := by decide +kernel
theorem dX3_testsAgree_30 : decode cX3_testsAgree 30 = .ok (.if_icmp .ne 7, 3) := by decide +kernel
theorem dX3_testsAgree_33 : decode cX3_testsAgree 33 = .ok (.iconst 1, 1) := by decide +kernel
theorem dX3_testsAgree_34 : decode cX3_testsAgree 34 = .ok (.goto 4, 3) := by decide +kernel
theorem dX3_testsAgree_37 : decode cX3_testsAgree 37 = .ok (.iconst 0, 1) := by decide +kernel
theorem dX3_testsAgree_38 : decode cX3_testsAgree 38 = .ok (.istore 4, 2) := by decide +kernel
theorem dX3_testsAgree_40 : decode cX3_testsAgree 40 = .ok (.iload 4, 2) := by decide +kernel
theorem dX3_testsAgree_42 : decode cX3_testsAgree 42 = .ok (.ifCond .ne 19, 3) := by decide +kernel
theorem dX3_testsAgree_45 : decode cX3_testsAgree 45 = .ok (.aload_n 0, 1) := by decide +kernel
theorem dX3_testsAgree_46 : decode cX3_testsAgree 46 = .ok (.getfield 47, 3) := by decide +kernel
theorem dX3_testsAgree_49 : decode cX3_testsAgree 49 = .ok (.aload_n 0, 1) := by decide +kernel
theorem dX3_testsAgree_50 : decode cX3_testsAgree 50 = .ok (.getfield 43, 3) := by decide +kernel
theorem dX3_testsAgree_53 : decode cX3_testsAgree 53 = .ok (.iload_n 3, 1) := by decide +kernel
theorem dX3_testsAgree_54 : decode cX3_testsAgree 54 = .ok (.aaload, 1) := by decide +kernel
theorem dX3_testsAgree_55 : decode cX3_testsAgree 55 = .ok (.invokevirtual 146, 3) := by decide +kernel
theorem dX3_testsAgree_58 : decode cX3_testsAgree 58 = .ok (.ifCond .ne 5, 3) := by decide +kernel
theorem dX3_testsAgree_61 : decode cX3_testsAgree 61 = .ok (.iconst 0, 1) := by decide +kernel
theorem dX3_testsAgree_62 : decode cX3_testsAgree 62 = .ok (.ireturn, 1) := by decide +kernel
theorem dX3_testsAgree_63 : decode cX3_testsAgree 63 = .ok (.iinc 3 1, 3) := by decide +kernel
theorem dX3_testsAgree_66 : decode cX3_testsAgree 66 = .ok (.goto (-64), 3) := by decide +kernel
theorem dX3_testsAgree_69 : decode cX3_testsAgree 69 = .ok (.iconst 1, 1) := by decide +kernel
theorem dX3_testsAgree_70 : decode cX3_testsAgree 70 = .ok (.ireturn, 1) := by decide +kernel
theorem dX3_holds_0 : decode cX3_holds 0 = .ok (.iload_n 0, 1) := by decide +kernel
theorem dX3_holds_1 : decode cX3_holds 1 = .ok (.iload_n 1, 1) := by decide +kernel
theorem dX3_holds_2 : decode cX3_holds 2 = .ok (.iushr, 1) := by decide +kernel
theorem dX3_holds_3 : decode cX3_holds 3 = .ok (.iconst 1, 1) := by decide +kernel
theorem dX3_holds_4 : decode cX3_holds 4 = .ok (.iand, 1) := by decide +kernel
theorem dX3_holds_5 : decode cX3_holds 5 = .ok (.ifCond .eq 7, 3) := by decide +kernel
theorem dX3_holds_8 : decode cX3_holds 8 = .ok (.iconst 1, 1) := by decide +kernel
theorem dX3_holds_9 : decode cX3_holds 9 = .ok (.goto 4, 3) := by decide +kernel
theorem dX3_holds_12 : decode cX3_holds 12 = .ok (.iconst 0, 1) := by decide +kernel
theorem dX3_holds_13 : decode cX3_holds 13 = .ok (.ireturn, 1) := by decide +kernel
