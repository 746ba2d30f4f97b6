theorem dX4_reads_129 : decode cX4_reads 129 = .ok (.iload_n 1, 1) := by decide +kernel
theorem dX4_reads_130 : decode cX4_reads 130 = .ok (.iaload, 1) := by decide +kernel
theorem dX4_reads_131 : decode cX4_reads 131 = .ok (.ishl, 1) := by decide +kernel
theorem dX4_reads_132 : decode cX4_reads 132 = .ok (.ireturn, 1) := by decide +kernel
theorem dX4_reads_133 : decode cX4_reads 133 = .ok (.iload_n 2, 1) := by decide +kernel
theorem dX4_reads_134 : decode cX4_reads 134 = .ok (.ifCond .eq 7, 3) := by decide +kernel
theorem dX4_reads_137 : decode cX4_reads 137 = .ok (.iconst 0, 1) := by decide +kernel
theorem dX4_reads_138 : decode cX4_reads 138 = .ok (.goto 11, 3) := by decide +kernel
theorem dX4_reads_141 : decode cX4_reads 141 = .ok (.iconst 1, 1) := by decide +kernel
theorem dX4_reads_142 : decode cX4_reads 142 = .ok (.aload_n 0, 1) := by decide +kernel
theorem dX4_reads_143 : decode cX4_reads 143 = .ok (.getfield 13, 3) := by decide +kernel
theorem dX4_reads_146 : decode cX4_reads 146 = .ok (.iload_n 1, 1) := by decide +kernel
theorem dX4_reads_147 : decode cX4_reads 147 = .ok (.iaload, 1) := by decide +kernel
theorem dX4_reads_148 : decode cX4_reads 148 = .ok (.ishl, 1) := by decide +kernel
theorem dX4_reads_149 : decode cX4_reads 149 = .ok (.ireturn, 1) := by decide +kernel
theorem dX4_reads_150 : decode cX4_reads 150 = .ok (.iconst 0, 1) := by decide +kernel
theorem dX4_reads_151 : decode cX4_reads 151 = .ok (.ireturn, 1) := by decide +kernel
theorem dX4_sources_0 : decode cX4_sources 0 = .ok (.iconst 0, 1) := by decide +kernel
theorem dX4_sources_1 : decode cX4_sources 1 = .ok (.istore_n 3, 1) := by decide +kernel
theorem dX4_sources_2 : decode cX4_sources 2 = .ok (.bipush (-4), 2) := by decide +kernel
theorem dX4_sources_4 : decode cX4_sources 4 = .ok (.istore 4, 2) := by decide +kernel
theorem dX4_sources_6 : decode cX4_sources 6 = .ok (.iload_n 3, 1) := by decide +kernel
theorem dX4_sources_7 : decode cX4_sources 7 = .ok (.iload 4, 2) := by decide +kernel
theorem dX4_sources_9 : decode cX4_sources 9 = .ok (.if_icmp .eq 130, 3) := by decide +kernel
theorem dX4_sources_12 : decode cX4_sources 12 = .ok (.iload_n 3, 1) := by decide +kernel
theorem dX4_sources_13 : decode cX4_sources 13 = .ok (.istore 4, 2) := by decide +kernel
theorem dX4_sources_15 : decode cX4_sources 15 = .ok (.iconst 0, 1) := by decide +kernel
theorem dX4_sources_16 : decode cX4_sources 16 = .ok (.istore 5, 2) := by decide +kernel
theorem dX4_sources_18 : decode cX4_sources 18 = .ok (.iload 5, 2) := by decide +kernel
theorem dX4_sources_20 : decode cX4_sources 20 = .ok (.aload_n 0, 1) := by decide +kernel
theorem dX4_sources_21 : decode cX4_sources 21 = .ok (.getfield 81, 3) := by decide +kernel
theorem dX4_sources_24 : decode cX4_sources 24 = .ok (.if_icmp .ge 112, 3) := by decide +kernel
theorem dX4_sources_27 : decode cX4_sources 27 = .ok (.aload_n 0, 1) := by decide +kernel
theorem dX4_sources_28 : decode cX4_sources 28 = .ok (.iload 5, 2) := by decide +kernel
theorem dX4_sources_30 : decode cX4_sources 30 = .ok (.iconst 0, 1) := by decide +kernel
theorem dX4_sources_31 : decode cX4_sources 31 = .ok (.invokevirtual 123, 3) := by decide +kernel
theorem dX4_sources_34 : decode cX4_sources 34 = .ok (.istore 6, 2) := by decide +kernel
theorem dX4_sources_36 : decode cX4_sources 36 = .ok (.iload 6, 2) := by decide +kernel
theorem dX4_sources_38 : decode cX4_sources 38 = .ok (.iload_n 1, 1) := by decide +kernel
theorem dX4_sources_39 : decode cX4_sources 39 = .ok (.ishr, 1) := by decide +kernel
theorem dX4_sources_40 : decode cX4_sources 40 = .ok (.iconst 1, 1) := by decide +kernel
theorem dX4_sources_41 : decode cX4_sources 41 = .ok (.iand, 1) := by decide +kernel
theorem dX4_sources_42 : decode cX4_sources 42 = .ok (.iconst 1, 1) := by decide +kernel
theorem dX4_sources_43 : decode cX4_sources 43 = .ok (.if_icmp .ne 7, 3) := by decide +kernel
theorem dX4_sources_46 : decode cX4_sources 46 = .ok (.iconst 1, 1) := by decide +kernel
theorem dX4_sources_47 : decode cX4_sources 47 = .ok (.goto 4, 3) := by decide +kernel
theorem dX4_sources_50 : decode cX4_sources 50 = .ok (.iconst 0, 1) := by decide +kernel
theorem dX4_sources_51 : decode cX4_sources 51 = .ok (.istore 7, 2) := by decide +kernel
theorem dX4_sources_53 : decode cX4_sources 53 = .ok (.iconst 0, 1) := by decide +kernel
theorem dX4_sources_54 : decode cX4_sources 54 = .ok (.istore 8, 2) := by decide +kernel
theorem dX4_sources_56 : decode cX4_sources 56 = .ok (.iload 8, 2) := by decide +kernel
theorem dX4_sources_58 : decode cX4_sources 58 = .ok (.aload_n 0, 1) := by decide +kernel
theorem dX4_sources_59 : decode cX4_sources 59 = .ok (.getfield 81, 3) := by decide +kernel
theorem dX4_sources_62 : decode cX4_sources 62 = .ok (.if_icmp .ge 52, 3) := by decide +kernel
theorem dX4_sources_65 : decode cX4_sources 65 = .ok (.iload 7, 2) := by decide +kernel
theorem dX4_sources_67 : decode cX4_sources 67 = .ok (.ifCond .ne 47, 3) := by decide +kernel
theorem dX4_sources_70 : decode cX4_sources 70 = .ok (.iload 6, 2) := by decide +kernel
theorem dX4_sources_72 : decode cX4_sources 72 = .ok (.iload 8, 2) := by decide +kernel
theorem dX4_sources_74 : decode cX4_sources 74 = .ok (.ishr, 1) := by decide +kernel
theorem dX4_sources_75 : decode cX4_sources 75 = .ok (.iconst 1, 1) := by decide +kernel
theorem dX4_sources_76 : decode cX4_sources 76 = .ok (.iand, 1) := by decide +kernel
theorem dX4_sources_77 : decode cX4_sources 77 = .ok (.iconst 1, 1) := by decide +kernel
theorem dX4_sources_78 : decode cX4_sources 78 = .ok (.if_icmp .ne 27, 3) := by decide +kernel
theorem dX4_sources_81 : decode cX4_sources 81 = .ok (.iload_n 3, 1) := by decide +kernel
theorem dX4_sources_82 : decode cX4_sources 82 = .ok (.iload 8, 2) := by decide +kernel
theorem dX4_sources_84 : decode cX4_sources 84 = .ok (.ishr, 1) := by decide +kernel
theorem dX4_sources_85 : decode cX4_sources 85 = .ok (.iconst 1, 1) := by decide +kernel
theorem dX4_sources_86 : decode cX4_sources 86 = .ok (.iand, 1) := by decide +kernel
theorem dX4_sources_87 : decode cX4_sources 87 = .ok (.iconst 1, 1) := by decide +kernel
theorem dX4_sources_88 : decode cX4_sources 88 = .ok (.if_icmp .ne 17, 3) := by decide +kernel
theorem dX4_sources_91 : decode cX4_sources 91 = .ok (.aload_n 0, 1) := by decide +kernel
theorem dX4_sources_92 : decode cX4_sources 92 = .ok (.iload 8, 2) := by decide +kernel
theorem dX4_sources_94 : decode cX4_sources 94 = .ok (.iload_n 2, 1) := by decide +kernel
theorem dX4_sources_95 : decode cX4_sources 95 = .ok (.invokevirtual 136, 3) := by decide +kernel
theorem dX4_sources_98 : decode cX4_sources 98 = .ok (.ifCond .ne 7, 3) := by decide +kernel
theorem dX4_sources_101 : decode cX4_sources 101 = .ok (.iconst 1, 1) := by decide +kernel
theorem dX4_sources_102 : decode cX4_sources 102 = .ok (.goto 4, 3) := by decide +kernel
theorem dX4_sources_105 : decode cX4_sources 105 = .ok (.iconst 0, 1) := by decide +kernel
theorem dX4_sources_106 : decode cX4_sources 106 = .ok (.istore 7, 2) := by decide +kernel
theorem dX4_sources_108 : decode cX4_sources 108 = .ok (.iinc 8 1, 3) := by decide +kernel
theorem dX4_sources_111 : decode cX4_sources 111 = .ok (.goto (-55), 3) := by decide +kernel
theorem dX4_sources_114 : decode cX4_sources 114 = .ok (.iload 7, 2) := by decide +kernel
theorem dX4_sources_116 : decode cX4_sources 116 = .ok (.ifCond .eq 12, 3) := by decide +kernel
theorem dX4_sources_119 : decode cX4_sources 119 = .ok (.iload_n 3, 1) := by decide +kernel
theorem dX4_sources_120 : decode cX4_sources 120 = .ok (.iconst 1, 1) := by decide +kernel
theorem dX4_sources_121 : decode cX4_sources 121 = .ok (.iload 5, 2) := by decide +kernel
theorem dX4_sources_123 : decode cX4_sources 123 = .ok (.ishl, 1) := by decide +kernel
theorem dX4_sources_124 : decode cX4_sources 124 = .ok (.ior, 1) := by decide +kernel
theorem dX4_sources_125 : decode cX4_sources 125 = .ok (.goto 4, 3) := by decide +kernel
theorem dX4_sources_128 : decode cX4_sources 128 = .ok (.iload_n 3, 1) := by decide +kernel
theorem dX4_sources_129 : decode cX4_sources 129 = .ok (.istore_n 3, 1) := by decide +kernel
theorem dX4_sources_130 : decode cX4_sources 130 = .ok (.iinc 5 1, 3) := by decide +kernel
theorem dX4_sources_133 : decode cX4_sources 133 = .ok (.goto (-115), 3) := by decide +kernel
theorem dX4_sources_136 : decode cX4_sources 136 = .ok (.goto (-130), 3) := by decide +kernel
theorem dX4_sources_139 : decode cX4_sources 139 = .ok (.iload_n 3, 1) := by decide +kernel
theorem dX4_sources_140 : decode cX4_sources 140 = .ok (.ireturn, 1) := by decide +kernel
theorem dX4_setsIt_0 : decode cX4_setsIt 0 = .ok (.iload_n 2, 1) := by decide +kernel
theorem dX4_setsIt_1 : decode cX4_setsIt 1 = .ok (.ifCond .lt 49, 3) := by decide +kernel
theorem dX4_setsIt_4 : decode cX4_setsIt 4 = .ok (.iload_n 2, 1) := by decide +kernel
theorem dX4_setsIt_5 : decode cX4_setsIt 5 = .ok (.bipush 8, 2) := by decide +kernel
theorem dX4_setsIt_7 : decode cX4_setsIt 7 = .ok (.if_icmp .ge 15, 3) := by decide +kernel
theorem dX4_setsIt_10 : decode cX4_setsIt 10 = .ok (.aload_n 0, 1) := by decide +kernel
theorem dX4_setsIt_11 : decode cX4_setsIt 11 = .ok (.iload_n 1, 1) := by decide +kernel
theorem dX4_setsIt_12 : decode cX4_setsIt 12 = .ok (.invokevirtual 140, 3) := by decide +kernel
theorem dX4_setsIt_15 : decode cX4_setsIt 15 = .ok (.iload_n 2, 1) := by decide +kernel
theorem dX4_setsIt_16 : decode cX4_setsIt 16 = .ok (.if_icmp .ne 34, 3) := by decide +kernel
theorem dX4_setsIt_19 : decode cX4_setsIt 19 = .ok (.goto 27, 3) := by decide +kernel
theorem dX4_setsIt_22 : decode cX4_setsIt 22 = .ok (.aload_n 0, 1) := by decide +kernel
theorem dX4_setsIt_23 : decode cX4_setsIt 23 = .ok (.getfield 7, 3) := by decide +kernel
theorem dX4_setsIt_26 : decode cX4_setsIt 26 = .ok (.iload_n 1, 1) := by decide +kernel
theorem dX4_setsIt_27 : decode cX4_setsIt 27 = .ok (.iaload, 1) := by decide +kernel
theorem dX4_setsIt_28 : decode cX4_setsIt 28 = .ok (.bipush 10, 2) := by decide +kernel
theorem dX4_setsIt_30 : decode cX4_setsIt 30 = .ok (.if_icmp .ne 20, 3) := by decide +kernel
theorem dX4_setsIt_33 : decode cX4_setsIt 33 = .ok (.aload_n 0, 1) := by decide +kernel
theorem dX4_setsIt_34 : decode cX4_setsIt 34 = .ok (.getfield 16, 3) := by decide +kernel
theorem dX4_setsIt_37 : decode cX4_setsIt 37 = .ok (.iload_n 1, 1) := by decide +kernel
theorem dX4_setsIt_38 : decode cX4_setsIt 38 = .ok (.iaload, 1) := by decide +kernel
theorem dX4_setsIt_39 : decode cX4_setsIt 39 = .ok (.iload_n 2, 1) := by decide +kernel
theorem dX4_setsIt_40 : decode cX4_setsIt 40 = .ok (.bipush 8, 2) := by decide +kernel
theorem dX4_setsIt_42 : decode cX4_setsIt 42 = .ok (.isub, 1) := by decide +kernel
theorem dX4_setsIt_43 : decode cX4_setsIt 43 = .ok (.if_icmp .ne 7, 3) := by decide +kernel
theorem dX4_setsIt_46 : decode cX4_setsIt 46 = .ok (.iconst 1, 1) := by decide +kernel
theorem dX4_setsIt_47 : decode cX4_setsIt 47 = .ok (.goto 4, 3) := by decide +kernel
theorem dX4_setsIt_50 : decode cX4_setsIt 50 = .ok (.iconst 0, 1) := by decide +kernel
theorem dX4_setsIt_51 : decode cX4_setsIt 51 = .ok (.ireturn, 1) := by decide +kernel
theorem dX4_settersOf_0 : decode cX4_settersOf 0 = .ok (.aload_n 0, 1) := by decide +kernel
theorem dX4_settersOf_1 : decode cX4_settersOf 1 = .ok (.iload_n 1, 1) := by decide +kernel
theorem dX4_settersOf_2 : decode cX4_settersOf 2 = .ok (.iload_n 2, 1) := by decide +kernel
theorem dX4_settersOf_3 : decode cX4_settersOf 3 = .ok (.invokevirtual 143, 3) := by decide +kernel
theorem dX4_settersOf_6 : decode cX4_settersOf 6 = .ok (.istore_n 3, 1) := by decide +kernel
theorem dX4_settersOf_7 : decode cX4_settersOf 7 = .ok (.iconst 0, 1) := by decide +kernel
theorem dX4_settersOf_8 : decode cX4_settersOf 8 = .ok (.istore 4, 2) := by decide +kernel
theorem dX4_settersOf_10 : decode cX4_settersOf 10 = .ok (.iconst 0, 1) := by decide +kernel
theorem dX4_settersOf_11 : decode cX4_settersOf 11 = .ok (.istore 5, 2) := by decide +kernel
theorem dX4_settersOf_13 : decode cX4_settersOf 13 = .ok (.iload 5, 2) := by decide +kernel
theorem dX4_settersOf_15 : decode cX4_settersOf 15 = .ok (.aload_n 0, 1) := by decide +kernel
theorem dX4_settersOf_16 : decode cX4_settersOf 16 = .ok (.getfield 81, 3) := by decide +kernel
theorem dX4_settersOf_19 : decode cX4_settersOf 19 = .ok (.if_icmp .ge 43, 3) := by decide +kernel
theorem dX4_settersOf_22 : decode cX4_settersOf 22 = .ok (.iload_n 3, 1) := by decide +kernel
theorem dX4_settersOf_23 : decode cX4_settersOf 23 = .ok (.iload 5, 2) := by decide +kernel
theorem dX4_settersOf_25 : decode cX4_settersOf 25 = .ok (.ishr, 1) := by decide +kernel
theorem dX4_settersOf_26 : decode cX4_settersOf 26 = .ok (.iconst 1, 1) := by decide +kernel
theorem dX4_settersOf_27 : decode cX4_settersOf 27 = .ok (.iand, 1) := by decide +kernel
theorem dX4_settersOf_28 : decode cX4_settersOf 28 = .ok (.iconst 1, 1) := by decide +kernel
theorem dX4_settersOf_29 : decode cX4_settersOf 29 = .ok (.if_icmp .ne 23, 3) := by decide +kernel
theorem dX4_settersOf_32 : decode cX4_settersOf 32 = .ok (.aload_n 0, 1) := by decide +kernel
theorem dX4_settersOf_33 : decode cX4_settersOf 33 = .ok (.iload 5, 2) := by decide +kernel
theorem dX4_settersOf_35 : decode cX4_settersOf 35 = .ok (.iload_n 2, 1) := by decide +kernel
theorem dX4_settersOf_36 : decode cX4_settersOf 36 = .ok (.invokevirtual 136, 3) := by decide +kernel
theorem dX4_settersOf_39 : decode cX4_settersOf 39 = .ok (.ifCond .eq 13, 3) := by decide +kernel
theorem dX4_settersOf_42 : decode cX4_settersOf 42 = .ok (.iload 4, 2) := by decide +kernel
theorem dX4_settersOf_44 : decode cX4_settersOf 44 = .ok (.iconst 1, 1) := by decide +kernel
theorem dX4_settersOf_45 : decode cX4_settersOf 45 = .ok (.iload 5, 2) := by decide +kernel
theorem dX4_settersOf_47 : decode cX4_settersOf 47 = .ok (.ishl, 1) := by decide +kernel
theorem dX4_settersOf_48 : decode cX4_settersOf 48 = .ok (.ior, 1) := by decide +kernel
theorem dX4_settersOf_49 : decode cX4_settersOf 49 = .ok (.goto 5, 3) := by decide +kernel
theorem dX4_settersOf_52 : decode cX4_settersOf 52 = .ok (.iload 4, 2) := by decide +kernel
theorem dX4_settersOf_54 : decode cX4_settersOf 54 = .ok (.istore 4, 2) := by decide +kernel
theorem dX4_settersOf_56 : decode cX4_settersOf 56 = .ok (.iinc 5 1, 3) := by decide +kernel
theorem dX4_settersOf_59 : decode cX4_settersOf 59 = .ok (.goto (-46), 3) := by decide +kernel
theorem dX4_settersOf_62 : decode cX4_settersOf 62 = .ok (.iload 4, 2) := by decide +kernel
theorem dX4_settersOf_64 : decode cX4_settersOf 64 = .ok (.ireturn, 1) := by decide +kernel
theorem dX4_hangs_0 : decode cX4_hangs 0 = .ok (.iconst 0, 1) := by decide +kernel
theorem dX4_hangs_1 : decode cX4_hangs 1 = .ok (.istore 4, 2) := by decide +kernel
theorem dX4_hangs_3 : decode cX4_hangs 3 = .ok (.iload_n 2, 1) := by decide +kernel
theorem dX4_hangs_4 : decode cX4_hangs 4 = .ok (.iconst 1, 1) := by decide +kernel
theorem dX4_hangs_5 : decode cX4_hangs 5 = .ok (.if_icmp .ne 58, 3) := by decide +kernel
theorem dX4_hangs_8 : decode cX4_hangs 8 = .ok (.aload_n 0, 1) := by decide +kernel
theorem dX4_hangs_9 : decode cX4_hangs 9 = .ok (.iload_n 1, 1) := by decide +kernel
theorem dX4_hangs_10 : decode cX4_hangs 10 = .ok (.iload_n 3, 1) := by decide +kernel
theorem dX4_hangs_11 : decode cX4_hangs 11 = .ok (.invokevirtual 147, 3) := by decide +kernel
theorem dX4_hangs_14 : decode cX4_hangs 14 = .ok (.istore 5, 2) := by decide +kernel
theorem dX4_hangs_16 : decode cX4_hangs 16 = .ok (.iconst 0, 1) := by decide +kernel
theorem dX4_hangs_17 : decode cX4_hangs 17 = .ok (.istore 6, 2) := by decide +kernel
theorem dX4_hangs_19 : decode cX4_hangs 19 = .ok (.iload 6, 2) := by decide +kernel
theorem dX4_hangs_21 : decode cX4_hangs 21 = .ok (.bipush 8, 2) := by decide +kernel
theorem dX4_hangs_23 : decode cX4_hangs 23 = .ok (.if_icmp .ge 37, 3) := by decide +kernel
theorem dX4_hangs_26 : decode cX4_hangs 26 = .ok (.iload 5, 2) := by decide +kernel
theorem dX4_hangs_28 : decode cX4_hangs 28 = .ok (.iload 6, 2) := by decide +kernel
theorem dX4_hangs_30 : decode cX4_hangs 30 = .ok (.ishr, 1) := by decide +kernel
theorem dX4_hangs_31 : decode cX4_hangs 31 = .ok (.iconst 1, 1) := by decide +kernel
theorem dX4_hangs_32 : decode cX4_hangs 32 = .ok (.iand, 1) := by decide +kernel
theorem dX4_hangs_33 : decode cX4_hangs 33 = .ok (.iconst 1, 1) := by decide +kernel
theorem dX4_hangs_34 : decode cX4_hangs 34 = .ok (.if_icmp .ne 16, 3) := by decide +kernel
theorem dX4_hangs_37 : decode cX4_hangs 37 = .ok (.iload 4, 2) := by decide +kernel
theorem dX4_hangs_39 : decode cX4_hangs 39 = .ok (.aload_n 0, 1) := by decide +kernel
theorem dX4_hangs_40 : decode cX4_hangs 40 = .ok (.iload_n 1, 1) := by decide +kernel
theorem dX4_hangs_41 : decode cX4_hangs 41 = .ok (.iload 6, 2) := by decide +kernel
theorem dX4_hangs_43 : decode cX4_hangs 43 = .ok (.invokevirtual 150, 3) := by decide +kernel
theorem dX4_hangs_46 : decode cX4_hangs 46 = .ok (.ior, 1) := by decide +kernel
theorem dX4_hangs_47 : decode cX4_hangs 47 = .ok (.goto 5, 3) := by decide +kernel
theorem dX4_hangs_50 : decode cX4_hangs 50 = .ok (.iload 4, 2) := by decide +kernel
theorem dX4_hangs_52 : decode cX4_hangs 52 = .ok (.istore 4, 2) := by decide +kernel
theorem dX4_hangs_54 : decode cX4_hangs 54 = .ok (.iinc 6 1, 3) := by decide +kernel
theorem dX4_hangs_57 : decode cX4_hangs 57 = .ok (.goto (-38), 3) := by decide +kernel
theorem dX4_hangs_60 : decode cX4_hangs 60 = .ok (.goto 172, 3) := by decide +kernel
theorem dX4_hangs_63 : decode cX4_hangs 63 = .ok (.iload_n 2, 1) := by decide +kernel
theorem dX4_hangs_64 : decode cX4_hangs 64 = .ok (.iconst 2, 1) := by decide +kernel
theorem dX4_hangs_65 : decode cX4_hangs 65 = .ok (.if_icmp .ne 120, 3) := by decide +kernel
theorem dX4_hangs_68 : decode cX4_hangs 68 = .ok (.aload_n 0, 1) := by decide +kernel
theorem dX4_hangs_69 : decode cX4_hangs 69 = .ok (.getfield 7, 3) := by decide +kernel
theorem dX4_hangs_72 : decode cX4_hangs 72 = .ok (.iload_n 1, 1) := by decide +kernel
theorem dX4_hangs_73 : decode cX4_hangs 73 = .ok (.iaload, 1) := by decide +kernel
theorem dX4_hangs_74 : decode cX4_hangs 74 = .ok (.bipush 8, 2) := by decide +kernel
theorem dX4_hangs_76 : decode cX4_hangs 76 = .ok (.if_icmp .ne 109, 3) := by decide +kernel
theorem dX4_hangs_79 : decode cX4_hangs 79 = .ok (.aload_n 0, 1) := by decide +kernel
theorem dX4_hangs_80 : decode cX4_hangs 80 = .ok (.iload_n 1, 1) := by decide +kernel
theorem dX4_hangs_81 : decode cX4_hangs 81 = .ok (.bipush (-4), 2) := by decide +kernel
theorem dX4_hangs_83 : decode cX4_hangs 83 = .ok (.invokevirtual 143, 3) := by decide +kernel
theorem dX4_hangs_86 : decode cX4_hangs 86 = .ok (.istore 5, 2) := by decide +kernel
theorem dX4_hangs_88 : decode cX4_hangs 88 = .ok (.iconst 0, 1) := by decide +kernel
theorem dX4_hangs_89 : decode cX4_hangs 89 = .ok (.istore 6, 2) := by decide +kernel
theorem dX4_hangs_91 : decode cX4_hangs 91 = .ok (.iload 6, 2) := by decide +kernel
theorem dX4_hangs_93 : decode cX4_hangs 93 = .ok (.aload_n 0, 1) := by decide +kernel
theorem dX4_hangs_94 : decode cX4_hangs 94 = .ok (.getfield 81, 3) := by decide +kernel
theorem dX4_hangs_97 : decode cX4_hangs 97 = .ok (.if_icmp .ge 85, 3) := by decide +kernel
theorem dX4_hangs_100 : decode cX4_hangs 100 = .ok (.iload 5, 2) := by decide +kernel
theorem dX4_hangs_102 : decode cX4_hangs 102 = .ok (.iload 6, 2) := by decide +kernel
theorem dX4_hangs_104 : decode cX4_hangs 104 = .ok (.ishr, 1) := by decide +kernel
theorem dX4_hangs_105 : decode cX4_hangs 105 = .ok (.iconst 1, 1) := by decide +kernel
theorem dX4_hangs_106 : decode cX4_hangs 106 = .ok (.iand, 1) := by decide +kernel
theorem dX4_hangs_107 : decode cX4_hangs 107 = .ok (.iconst 1, 1) := by decide +kernel
theorem dX4_hangs_108 : decode cX4_hangs 108 = .ok (.if_icmp .ne 46, 3) := by decide +kernel
theorem dX4_hangs_111 : decode cX4_hangs 111 = .ok (.aload_n 0, 1) := by decide +kernel
theorem dX4_hangs_112 : decode cX4_hangs 112 = .ok (.getfield 7, 3) := by decide +kernel
theorem dX4_hangs_115 : decode cX4_hangs 115 = .ok (.iload 6, 2) := by decide +kernel
theorem dX4_hangs_117 : decode cX4_hangs 117 = .ok (.iaload, 1) := by decide +kernel
theorem dX4_hangs_118 : decode cX4_hangs 118 = .ok (.bipush 7, 2) := by decide +kernel
theorem dX4_hangs_120 : decode cX4_hangs 120 = .ok (.if_icmp .ne 34, 3) := by decide +kernel
theorem dX4_hangs_123 : decode cX4_hangs 123 = .ok (.aload_n 0, 1) := by decide +kernel
theorem dX4_hangs_124 : decode cX4_hangs 124 = .ok (.getfield 32, 3) := by decide +kernel
theorem dX4_hangs_127 : decode cX4_hangs 127 = .ok (.aload_n 0, 1) := by decide +kernel
theorem dX4_hangs_128 : decode cX4_hangs 128 = .ok (.getfield 19, 3) := by decide +kernel
theorem dX4_hangs_131 : decode cX4_hangs 131 = .ok (.iload 6, 2) := by decide +kernel
theorem dX4_hangs_133 : decode cX4_hangs 133 = .ok (.iaload, 1) := by decide +kernel
theorem dX4_hangs_134 : decode cX4_hangs 134 = .ok (.iaload, 1) := by decide +kernel
theorem dX4_hangs_135 : decode cX4_hangs 135 = .ok (.aload_n 0, 1) := by decide +kernel
theorem dX4_hangs_136 : decode cX4_hangs 136 = .ok (.getfield 32, 3) := by decide +kernel
theorem dX4_hangs_139 : decode cX4_hangs 139 = .ok (.aload_n 0, 1) := by decide +kernel
theorem dX4_hangs_140 : decode cX4_hangs 140 = .ok (.getfield 19, 3) := by decide +kernel
theorem dX4_hangs_143 : decode cX4_hangs 143 = .ok (.iload_n 1, 1) := by decide +kernel
theorem dX4_hangs_144 : decode cX4_hangs 144 = .ok (.iaload, 1) := by decide +kernel
theorem dX4_hangs_145 : decode cX4_hangs 145 = .ok (.iaload, 1) := by decide +kernel
theorem dX4_hangs_146 : decode cX4_hangs 146 = .ok (.iand, 1) := by decide +kernel
theorem dX4_hangs_147 : decode cX4_hangs 147 = .ok (.ifCond .eq 7, 3) := by decide +kernel
theorem dX4_hangs_150 : decode cX4_hangs 150 = .ok (.iconst 1, 1) := by decide +kernel
theorem dX4_hangs_151 : decode cX4_hangs 151 = .ok (.goto 4, 3) := by decide +kernel
theorem dX4_hangs_154 : decode cX4_hangs 154 = .ok (.iconst 0, 1) := by decide +kernel
theorem dX4_hangs_155 : decode cX4_hangs 155 = .ok (.istore 7, 2) := by decide +kernel
theorem dX4_hangs_157 : decode cX4_hangs 157 = .ok (.iload 7, 2) := by decide +kernel
theorem dX4_hangs_159 : decode cX4_hangs 159 = .ok (.ifCond .eq 13, 3) := by decide +kernel
theorem dX4_hangs_162 : decode cX4_hangs 162 = .ok (.iload 4, 2) := by decide +kernel
theorem dX4_hangs_164 : decode cX4_hangs 164 = .ok (.iconst 1, 1) := by decide +kernel
theorem dX4_hangs_165 : decode cX4_hangs 165 = .ok (.iload 6, 2) := by decide +kernel
theorem dX4_hangs_167 : decode cX4_hangs 167 = .ok (.ishl, 1) := by decide +kernel
theorem dX4_hangs_168 : decode cX4_hangs 168 = .ok (.ior, 1) := by decide +kernel
theorem dX4_hangs_169 : decode cX4_hangs 169 = .ok (.goto 5, 3) := by decide +kernel
theorem dX4_hangs_172 : decode cX4_hangs 172 = .ok (.iload 4, 2) := by decide +kernel
theorem dX4_hangs_174 : decode cX4_hangs 174 = .ok (.istore 4, 2) := by decide +kernel
theorem dX4_hangs_176 : decode cX4_hangs 176 = .ok (.iinc 6 1, 3) := by decide +kernel
theorem dX4_hangs_179 : decode cX4_hangs 179 = .ok (.goto (-88), 3) := by decide +kernel
theorem dX4_hangs_182 : decode cX4_hangs 182 = .ok (.goto 50, 3) := by decide +kernel
theorem dX4_hangs_185 : decode cX4_hangs 185 = .ok (.iload_n 2, 1) := by decide +kernel
theorem dX4_hangs_186 : decode cX4_hangs 186 = .ok (.iconst 3, 1) := by decide +kernel
theorem dX4_hangs_187 : decode cX4_hangs 187 = .ok (.if_icmp .ne 33, 3) := by decide +kernel
theorem dX4_hangs_190 : decode cX4_hangs 190 = .ok (.aload_n 0, 1) := by decide +kernel
theorem dX4_hangs_191 : decode cX4_hangs 191 = .ok (.getfield 7, 3) := by decide +kernel
theorem dX4_hangs_194 : decode cX4_hangs 194 = .ok (.iload_n 1, 1) := by decide +kernel
theorem dX4_hangs_195 : decode cX4_hangs 195 = .ok (.iaload, 1) := by decide +kernel
theorem dX4_hangs_196 : decode cX4_hangs 196 = .ok (.bipush 9, 2) := by decide +kernel
theorem dX4_hangs_198 : decode cX4_hangs 198 = .ok (.if_icmp .ne 22, 3) := by decide +kernel
theorem dX4_hangs_201 : decode cX4_hangs 201 = .ok (.aload_n 0, 1) := by decide +kernel
theorem dX4_hangs_202 : decode cX4_hangs 202 = .ok (.iload_n 1, 1) := by decide +kernel
theorem dX4_hangs_203 : decode cX4_hangs 203 = .ok (.bipush 8, 2) := by decide +kernel
theorem dX4_hangs_205 : decode cX4_hangs 205 = .ok (.aload_n 0, 1) := by decide +kernel
theorem dX4_hangs_206 : decode cX4_hangs 206 = .ok (.getfield 16, 3) := by decide +kernel
theorem dX4_hangs_209 : decode cX4_hangs 209 = .ok (.iload_n 1, 1) := by decide +kernel
theorem dX4_hangs_210 : decode cX4_hangs 210 = .ok (.iaload, 1) := by decide +kernel
theorem dX4_hangs_211 : decode cX4_hangs 211 = .ok (.iadd, 1) := by decide +kernel
theorem dX4_hangs_212 : decode cX4_hangs 212 = .ok (.invokevirtual 150, 3) := by decide +kernel
theorem dX4_hangs_215 : decode cX4_hangs 215 = .ok (.istore 4, 2) := by decide +kernel
theorem dX4_hangs_217 : decode cX4_hangs 217 = .ok (.goto 15, 3) := by decide +kernel
theorem dX4_hangs_220 : decode cX4_hangs 220 = .ok (.iload_n 2, 1) := by decide +kernel
theorem dX4_hangs_221 : decode cX4_hangs 221 = .ok (.iconst 4, 1) := by decide +kernel
theorem dX4_hangs_222 : decode cX4_hangs 222 = .ok (.if_icmp .ne 10, 3) := by decide +kernel
theorem dX4_hangs_225 : decode cX4_hangs 225 = .ok (.aload_n 0, 1) := by decide +kernel
theorem dX4_hangs_226 : decode cX4_hangs 226 = .ok (.iload_n 1, 1) := by decide +kernel
theorem dX4_hangs_227 : decode cX4_hangs 227 = .ok (.invokevirtual 153, 3) := by decide +kernel
theorem dX4_hangs_230 : decode cX4_hangs 230 = .ok (.istore 4, 2) := by decide +kernel
theorem dX4_hangs_232 : decode cX4_hangs 232 = .ok (.iload 4, 2) := by decide +kernel
theorem dX4_hangs_234 : decode cX4_hangs 234 = .ok (.ireturn, 1) := by decide +kernel
theorem dX4_controls_0 : decode cX4_controls 0 = .ok (.iconst 0, 1) := by decide +kernel
theorem dX4_controls_1 : decode cX4_controls 1 = .ok (.istore_n 2, 1) := by decide +kernel
theorem dX4_controls_2 : decode cX4_controls 2 = .ok (.iconst 0, 1) := by decide +kernel
theorem dX4_controls_3 : decode cX4_controls 3 = .ok (.istore_n 3, 1) := by decide +kernel
theorem dX4_controls_4 : decode cX4_controls 4 = .ok (.iconst 0, 1) := by decide +kernel
theorem dX4_controls_5 : decode cX4_controls 5 = .ok (.istore 4, 2) := by decide +kernel
theorem dX4_controls_7 : decode cX4_controls 7 = .ok (.iload 4, 2) := by decide +kernel
theorem dX4_controls_9 : decode cX4_controls 9 = .ok (.aload_n 0, 1) := by decide +kernel
theorem dX4_controls_10 : decode cX4_controls 10 = .ok (.getfield 81, 3) := by decide +kernel
theorem dX4_controls_13 : decode cX4_controls 13 = .ok (.if_icmp .ge 35, 3) := by decide +kernel
theorem dX4_controls_16 : decode cX4_controls 16 = .ok (.aload_n 0, 1) := by decide +kernel
theorem dX4_controls_17 : decode cX4_controls 17 = .ok (.getfield 51, 3) := by decide +kernel
theorem dX4_controls_20 : decode cX4_controls 20 = .ok (.iload 4, 2) := by decide +kernel
theorem dX4_controls_22 : decode cX4_controls 22 = .ok (.iaload, 1) := by decide +kernel
theorem dX4_controls_23 : decode cX4_controls 23 = .ok (.iload_n 1, 1) := by decide +kernel
theorem dX4_controls_24 : decode cX4_controls 24 = .ok (.ishr, 1) := by decide +kernel
theorem dX4_controls_25 : decode cX4_controls 25 = .ok (.iconst 1, 1) := by decide +kernel
theorem dX4_controls_26 : decode cX4_controls 26 = .ok (.iand, 1) := by decide +kernel
theorem dX4_controls_27 : decode cX4_controls 27 = .ok (.iconst 1, 1) := by decide +kernel
theorem dX4_controls_28 : decode cX4_controls 28 = .ok (.if_icmp .ne 12, 3) := by decide +kernel
theorem dX4_controls_31 : decode cX4_controls 31 = .ok (.iload_n 3, 1) := by decide +kernel
theorem dX4_controls_32 : decode cX4_controls 32 = .ok (.iconst 1, 1) := by decide +kernel
theorem dX4_controls_33 : decode cX4_controls 33 = .ok (.iload 4, 2) := by decide +kernel
theorem dX4_controls_35 : decode cX4_controls 35 = .ok (.ishl, 1) := by decide +kernel
theorem dX4_controls_36 : decode cX4_controls 36 = .ok (.ior, 1) := by decide +kernel
theorem dX4_controls_37 : decode cX4_controls 37 = .ok (.goto 4, 3) := by decide +kernel
theorem dX4_controls_40 : decode cX4_controls 40 = .ok (.iload_n 3, 1) := by decide +kernel
theorem dX4_controls_41 : decode cX4_controls 41 = .ok (.istore_n 3, 1) := by decide +kernel
theorem dX4_controls_42 : decode cX4_controls 42 = .ok (.iinc 4 1, 3) := by decide +kernel
theorem dX4_controls_45 : decode cX4_controls 45 = .ok (.goto (-38), 3) := by decide +kernel
theorem dX4_controls_48 : decode cX4_controls 48 = .ok (.iconst 0, 1) := by decide +kernel
theorem dX4_controls_49 : decode cX4_controls 49 = .ok (.istore 4, 2) := by decide +kernel
theorem dX4_controls_51 : decode cX4_controls 51 = .ok (.iload 4, 2) := by decide +kernel
theorem dX4_controls_53 : decode cX4_controls 53 = .ok (.aload_n 0, 1) := by decide +kernel
theorem dX4_controls_54 : decode cX4_controls 54 = .ok (.getfield 81, 3) := by decide +kernel
theorem dX4_controls_57 : decode cX4_controls 57 = .ok (.if_icmp .ge 57, 3) := by decide +kernel
theorem dX4_controls_60 : decode cX4_controls 60 = .ok (.aload_n 0, 1) := by decide +kernel
theorem dX4_controls_61 : decode cX4_controls 61 = .ok (.iload 4, 2) := by decide +kernel
theorem dX4_controls_63 : decode cX4_controls 63 = .ok (.iconst 1, 1) := by decide +kernel
theorem dX4_controls_64 : decode cX4_controls 64 = .ok (.invokevirtual 123, 3) := by decide +kernel
theorem dX4_controls_67 : decode cX4_controls 67 = .ok (.iload_n 3, 1) := by decide +kernel
theorem dX4_controls_68 : decode cX4_controls 68 = .ok (.iconst 1, 1) := by decide +kernel
theorem dX4_controls_69 : decode cX4_controls 69 = .ok (.iload_n 1, 1) := by decide +kernel
theorem dX4_controls_70 : decode cX4_controls 70 = .ok (.ishl, 1) := by decide +kernel
theorem dX4_controls_71 : decode cX4_controls 71 = .ok (.ior, 1) := by decide +kernel
theorem dX4_controls_72 : decode cX4_controls 72 = .ok (.iand, 1) := by decide +kernel
theorem dX4_controls_73 : decode cX4_controls 73 = .ok (.ifCond .eq 16, 3) := by decide +kernel
theorem dX4_controls_76 : decode cX4_controls 76 = .ok (.iload_n 3, 1) := by decide +kernel
theorem dX4_controls_77 : decode cX4_controls 77 = .ok (.iload 4, 2) := by decide +kernel
theorem dX4_controls_79 : decode cX4_controls 79 = .ok (.ishr, 1) := by decide +kernel
theorem dX4_controls_80 : decode cX4_controls 80 = .ok (.iconst 1, 1) := by decide +kernel
theorem dX4_controls_81 : decode cX4_controls 81 = .ok (.iand, 1) := by decide +kernel
theorem dX4_controls_82 : decode cX4_controls 82 = .ok (.ifCond .ne 7, 3) := by decide +kernel
theorem dX4_controls_85 : decode cX4_controls 85 = .ok (.iconst 1, 1) := by decide +kernel
theorem dX4_controls_86 : decode cX4_controls 86 = .ok (.goto 4, 3) := by decide +kernel
theorem dX4_controls_89 : decode cX4_controls 89 = .ok (.iconst 0, 1) := by decide +kernel
theorem dX4_controls_90 : decode cX4_controls 90 = .ok (.istore 5, 2) := by decide +kernel
theorem dX4_controls_92 : decode cX4_controls 92 = .ok (.iload 5, 2) := by decide +kernel
theorem dX4_controls_94 : decode cX4_controls 94 = .ok (.ifCond .eq 12, 3) := by decide +kernel
theorem dX4_controls_97 : decode cX4_controls 97 = .ok (.iload_n 2, 1) := by decide +kernel
theorem dX4_controls_98 : decode cX4_controls 98 = .ok (.iconst 1, 1) := by decide +kernel
theorem dX4_controls_99 : decode cX4_controls 99 = .ok (.iload 4, 2) := by decide +kernel
theorem dX4_controls_101 : decode cX4_controls 101 = .ok (.ishl, 1) := by decide +kernel
theorem dX4_controls_102 : decode cX4_controls 102 = .ok (.ior, 1) := by decide +kernel
theorem dX4_controls_103 : decode cX4_controls 103 = .ok (.goto 4, 3) := by decide +kernel
theorem dX4_controls_106 : decode cX4_controls 106 = .ok (.iload_n 2, 1) := by decide +kernel
theorem dX4_controls_107 : decode cX4_controls 107 = .ok (.istore_n 2, 1) := by decide +kernel
theorem dX4_controls_108 : decode cX4_controls 108 = .ok (.iinc 4 1, 3) := by decide +kernel
theorem dX4_controls_111 : decode cX4_controls 111 = .ok (.goto (-60), 3) := by decide +kernel
theorem dX4_controls_114 : decode cX4_controls 114 = .ok (.iload_n 2, 1) := by decide +kernel
theorem dX4_controls_115 : decode cX4_controls 115 = .ok (.ireturn, 1) := by decide +kernel
theorem dX4_look_0 : decode cX4_look 0 = .ok (.aload_n 0, 1) := by decide +kernel
theorem dX4_look_1 : decode cX4_look 1 = .ok (.getfield 98, 3) := by decide +kernel
theorem dX4_look_4 : decode cX4_look 4 = .ok (.ifCond .eq 4, 3) := by decide +kernel
theorem dX4_look_7 : decode cX4_look 7 = .ok (.return_, 1) := by decide +kernel
theorem dX4_look_8 : decode cX4_look 8 = .ok (.aload_n 0, 1) := by decide +kernel
theorem dX4_look_9 : decode cX4_look 9 = .ok (.iconst 1, 1) := by decide +kernel
theorem dX4_look_10 : decode cX4_look 10 = .ok (.putfield 98, 3) := by decide +kernel
theorem dX4_look_13 : decode cX4_look 13 = .ok (.iconst 0, 1) := by decide +kernel
theorem dX4_look_14 : decode cX4_look 14 = .ok (.istore_n 1, 1) := by decide +kernel
theorem dX4_look_15 : decode cX4_look 15 = .ok (.iload_n 1, 1) := by decide +kernel
theorem dX4_look_16 : decode cX4_look 16 = .ok (.aload_n 0, 1) := by decide +kernel
theorem dX4_look_17 : decode cX4_look 17 = .ok (.getfield 81, 3) := by decide +kernel
theorem dX4_look_20 : decode cX4_look 20 = .ok (.if_icmp .ge 20, 3) := by decide +kernel
theorem dX4_look_23 : decode cX4_look 23 = .ok (.aload_n 0, 1) := by decide +kernel
theorem dX4_look_24 : decode cX4_look 24 = .ok (.getfield 51, 3) := by decide +kernel
theorem dX4_look_27 : decode cX4_look 27 = .ok (.iload_n 1, 1) := by decide +kernel
theorem dX4_look_28 : decode cX4_look 28 = .ok (.aload_n 0, 1) := by decide +kernel
theorem dX4_look_29 : decode cX4_look 29 = .ok (.iload_n 1, 1) := by decide +kernel
theorem dX4_look_30 : decode cX4_look 30 = .ok (.invokevirtual 131, 3) := by decide +kernel
theorem dX4_look_33 : decode cX4_look 33 = .ok (.iastore, 1) := by decide +kernel
theorem dX4_look_34 : decode cX4_look 34 = .ok (.iinc 1 1, 3) := by decide +kernel
theorem dX4_look_37 : decode cX4_look 37 = .ok (.goto (-22), 3) := by decide +kernel
theorem dX4_look_40 : decode cX4_look 40 = .ok (.iconst 0, 1) := by decide +kernel
theorem dX4_look_41 : decode cX4_look 41 = .ok (.istore_n 1, 1) := by decide +kernel
theorem dX4_look_42 : decode cX4_look 42 = .ok (.iload_n 1, 1) := by decide +kernel
theorem dX4_look_43 : decode cX4_look 43 = .ok (.aload_n 0, 1) := by decide +kernel
theorem dX4_look_44 : decode cX4_look 44 = .ok (.getfield 81, 3) := by decide +kernel
theorem dX4_look_47 : decode cX4_look 47 = .ok (.if_icmp .ge 73, 3) := by decide +kernel
theorem dX4_look_50 : decode cX4_look 50 = .ok (.iconst 1, 1) := by decide +kernel
theorem dX4_look_51 : decode cX4_look 51 = .ok (.istore_n 2, 1) := by decide +kernel
theorem dX4_look_52 : decode cX4_look 52 = .ok (.iload_n 2, 1) := by decide +kernel
theorem dX4_look_53 : decode cX4_look 53 = .ok (.iconst 5, 1) := by decide +kernel
theorem dX4_look_54 : decode cX4_look 54 = .ok (.if_icmp .ge 28, 3) := by decide +kernel
theorem dX4_look_57 : decode cX4_look 57 = .ok (.aload_n 0, 1) := by decide +kernel
theorem dX4_look_58 : decode cX4_look 58 = .ok (.getfield 54, 3) := by decide +kernel
theorem dX4_look_61 : decode cX4_look 61 = .ok (.iconst 4, 1) := by decide +kernel
theorem dX4_look_62 : decode cX4_look 62 = .ok (.iload_n 1, 1) := by decide +kernel
theorem dX4_look_63 : decode cX4_look 63 = .ok (.imul, 1) := by decide +kernel
theorem dX4_look_64 : decode cX4_look 64 = .ok (.iload_n 2, 1) := by decide +kernel
theorem dX4_look_65 : decode cX4_look 65 = .ok (.iadd, 1) := by decide +kernel
theorem dX4_look_66 : decode cX4_look 66 = .ok (.iconst 1, 1) := by decide +kernel
theorem dX4_look_67 : decode cX4_look 67 = .ok (.isub, 1) := by decide +kernel
theorem dX4_look_68 : decode cX4_look 68 = .ok (.aload_n 0, 1) := by decide +kernel
theorem dX4_look_69 : decode cX4_look 69 = .ok (.iload_n 1, 1) := by decide +kernel
theorem dX4_look_70 : decode cX4_look 70 = .ok (.iload_n 2, 1) := by decide +kernel
theorem dX4_look_71 : decode cX4_look 71 = .ok (.iconst 0, 1) := by decide +kernel
theorem dX4_look_72 : decode cX4_look 72 = .ok (.invokevirtual 156, 3) := by decide +kernel
theorem dX4_look_75 : decode cX4_look 75 = .ok (.iastore, 1) := by decide +kernel
theorem dX4_look_76 : decode cX4_look 76 = .ok (.iinc 2 1, 3) := by decide +kernel
theorem dX4_look_79 : decode cX4_look 79 = .ok (.goto (-27), 3) := by decide +kernel
theorem dX4_look_82 : decode cX4_look 82 = .ok (.iconst 1, 1) := by decide +kernel
theorem dX4_look_83 : decode cX4_look 83 = .ok (.istore_n 2, 1) := by decide +kernel
theorem dX4_look_84 : decode cX4_look 84 = .ok (.iload_n 2, 1) := by decide +kernel
theorem dX4_look_85 : decode cX4_look 85 = .ok (.iconst 4, 1) := by decide +kernel
theorem dX4_look_86 : decode cX4_look 86 = .ok (.if_icmp .ge 28, 3) := by decide +kernel
theorem dX4_look_89 : decode cX4_look 89 = .ok (.aload_n 0, 1) := by decide +kernel
theorem dX4_look_90 : decode cX4_look 90 = .ok (.getfield 57, 3) := by decide +kernel
theorem dX4_look_93 : decode cX4_look 93 = .ok (.iconst 3, 1) := by decide +kernel
theorem dX4_look_94 : decode cX4_look 94 = .ok (.iload_n 1, 1) := by decide +kernel
theorem dX4_look_95 : decode cX4_look 95 = .ok (.imul, 1) := by decide +kernel
theorem dX4_look_96 : decode cX4_look 96 = .ok (.iload_n 2, 1) := by decide +kernel
theorem dX4_look_97 : decode cX4_look 97 = .ok (.iadd, 1) := by decide +kernel
theorem dX4_look_98 : decode cX4_look 98 = .ok (.iconst 1, 1) := by decide +kernel
theorem dX4_look_99 : decode cX4_look 99 = .ok (.isub, 1) := by decide +kernel
theorem dX4_look_100 : decode cX4_look 100 = .ok (.aload_n 0, 1) := by decide +kernel
theorem dX4_look_101 : decode cX4_look 101 = .ok (.iload_n 1, 1) := by decide +kernel
theorem dX4_look_102 : decode cX4_look 102 = .ok (.iload_n 2, 1) := by decide +kernel
theorem dX4_look_103 : decode cX4_look 103 = .ok (.iconst 1, 1) := by decide +kernel
theorem dX4_look_104 : decode cX4_look 104 = .ok (.invokevirtual 156, 3) := by decide +kernel
theorem dX4_look_107 : decode cX4_look 107 = .ok (.iastore, 1) := by decide +kernel
theorem dX4_look_108 : decode cX4_look 108 = .ok (.iinc 2 1, 3) := by decide +kernel
theorem dX4_look_111 : decode cX4_look 111 = .ok (.goto (-27), 3) := by decide +kernel
theorem dX4_look_114 : decode cX4_look 114 = .ok (.iinc 1 1, 3) := by decide +kernel
theorem dX4_look_117 : decode cX4_look 117 = .ok (.goto (-75), 3) := by decide +kernel
theorem dX4_look_120 : decode cX4_look 120 = .ok (.return_, 1) := by decide +kernel
theorem dX4_on_0 : decode cX4_on 0 = .ok (.iconst 0, 1) := by decide +kernel
theorem dX4_on_1 : decode cX4_on 1 = .ok (.istore_n 3, 1) := by decide +kernel
theorem dX4_on_2 : decode cX4_on 2 = .ok (.iconst 0, 1) := by decide +kernel
theorem dX4_on_3 : decode cX4_on 3 = .ok (.istore 4, 2) := by decide +kernel
theorem dX4_on_5 : decode cX4_on 5 = .ok (.iload 4, 2) := by decide +kernel
theorem dX4_on_7 : decode cX4_on 7 = .ok (.iload_n 2, 1) := by decide +kernel
theorem dX4_on_8 : decode cX4_on 8 = .ok (.ifCond .eq 7, 3) := by decide +kernel
theorem dX4_on_11 : decode cX4_on 11 = .ok (.iconst 3, 1) := by decide +kernel
theorem dX4_on_12 : decode cX4_on 12 = .ok (.goto 4, 3) := by decide +kernel
theorem dX4_on_15 : decode cX4_on 15 = .ok (.iconst 4, 1) := by decide +kernel
theorem dX4_on_16 : decode cX4_on 16 = .ok (.if_icmp .ge 41, 3) := by decide +kernel
theorem dX4_on_19 : decode cX4_on 19 = .ok (.iload_n 3, 1) := by decide +kernel
theorem dX4_on_20 : decode cX4_on 20 = .ok (.iload_n 2, 1) := by decide +kernel
theorem dX4_on_21 : decode cX4_on 21 = .ok (.ifCond .eq 17, 3) := by decide +kernel
theorem dX4_on_24 : decode cX4_on 24 = .ok (.aload_n 0, 1) := by decide +kernel
theorem dX4_on_25 : decode cX4_on 25 = .ok (.getfield 57, 3) := by decide +kernel
theorem dX4_on_28 : decode cX4_on 28 = .ok (.iconst 3, 1) := by decide +kernel
theorem dX4_on_29 : decode cX4_on 29 = .ok (.iload_n 1, 1) := by decide +kernel
theorem dX4_on_30 : decode cX4_on 30 = .ok (.imul, 1) := by decide +kernel
theorem dX4_on_31 : decode cX4_on 31 = .ok (.iload 4, 2) := by decide +kernel
theorem dX4_on_33 : decode cX4_on 33 = .ok (.iadd, 1) := by decide +kernel
theorem dX4_on_34 : decode cX4_on 34 = .ok (.iaload, 1) := by decide +kernel
theorem dX4_on_35 : decode cX4_on 35 = .ok (.goto 14, 3) := by decide +kernel
theorem dX4_on_38 : decode cX4_on 38 = .ok (.aload_n 0, 1) := by decide +kernel
theorem dX4_on_39 : decode cX4_on 39 = .ok (.getfield 54, 3) := by decide +kernel
theorem dX4_on_42 : decode cX4_on 42 = .ok (.iconst 4, 1) := by decide +kernel
theorem dX4_on_43 : decode cX4_on 43 = .ok (.iload_n 1, 1) := by decide +kernel
theorem dX4_on_44 : decode cX4_on 44 = .ok (.imul, 1) := by decide +kernel
theorem dX4_on_45 : decode cX4_on 45 = .ok (.iload 4, 2) := by decide +kernel
theorem dX4_on_47 : decode cX4_on 47 = .ok (.iadd, 1) := by decide +kernel
theorem dX4_on_48 : decode cX4_on 48 = .ok (.iaload, 1) := by decide +kernel
theorem dX4_on_49 : decode cX4_on 49 = .ok (.ior, 1) := by decide +kernel
theorem dX4_on_50 : decode cX4_on 50 = .ok (.istore_n 3, 1) := by decide +kernel
theorem dX4_on_51 : decode cX4_on 51 = .ok (.iinc 4 1, 3) := by decide +kernel
theorem dX4_on_54 : decode cX4_on 54 = .ok (.goto (-49), 3) := by decide +kernel
theorem dX4_on_57 : decode cX4_on 57 = .ok (.iload_n 3, 1) := by decide +kernel
theorem dX4_on_58 : decode cX4_on 58 = .ok (.ireturn, 1) := by decide +kernel
theorem dX4_back_0 : decode cX4_back 0 = .ok (.iconst 1, 1) := by decide +kernel
theorem dX4_back_1 : decode cX4_back 1 = .ok (.iload_n 1, 1) := by decide +kernel
theorem dX4_back_2 : decode cX4_back 2 = .ok (.ishl, 1) := by decide +kernel
theorem dX4_back_3 : decode cX4_back 3 = .ok (.istore_n 3, 1) := by decide +kernel
theorem dX4_back_4 : decode cX4_back 4 = .ok (.iconst 0, 1) := by decide +kernel
theorem dX4_back_5 : decode cX4_back 5 = .ok (.istore 4, 2) := by decide +kernel
theorem dX4_back_7 : decode cX4_back 7 = .ok (.iload_n 3, 1) := by decide +kernel
theorem dX4_back_8 : decode cX4_back 8 = .ok (.iload 4, 2) := by decide +kernel
theorem dX4_back_10 : decode cX4_back 10 = .ok (.if_icmp .eq 51, 3) := by decide +kernel
theorem dX4_back_13 : decode cX4_back 13 = .ok (.iload_n 3, 1) := by decide +kernel
theorem dX4_back_14 : decode cX4_back 14 = .ok (.istore 4, 2) := by decide +kernel
theorem dX4_back_16 : decode cX4_back 16 = .ok (.iconst 0, 1) := by decide +kernel
theorem dX4_back_17 : decode cX4_back 17 = .ok (.istore 5, 2) := by decide +kernel
theorem dX4_back_19 : decode cX4_back 19 = .ok (.iload 5, 2) := by decide +kernel
theorem dX4_back_21 : decode cX4_back 21 = .ok (.aload_n 0, 1) := by decide +kernel
theorem dX4_back_22 : decode cX4_back 22 = .ok (.getfield 81, 3) := by decide +kernel
theorem dX4_back_25 : decode cX4_back 25 = .ok (.if_icmp .ge 33, 3) := by decide +kernel
theorem dX4_back_28 : decode cX4_back 28 = .ok (.iload_n 3, 1) := by decide +kernel
theorem dX4_back_29 : decode cX4_back 29 = .ok (.iload 5, 2) := by decide +kernel
theorem dX4_back_31 : decode cX4_back 31 = .ok (.ishr, 1) := by decide +kernel
theorem dX4_back_32 : decode cX4_back 32 = .ok (.iconst 1, 1) := by decide +kernel
theorem dX4_back_33 : decode cX4_back 33 = .ok (.iand, 1) := by decide +kernel
theorem dX4_back_34 : decode cX4_back 34 = .ok (.iconst 1, 1) := by decide +kernel
theorem dX4_back_35 : decode cX4_back 35 = .ok (.if_icmp .ne 15, 3) := by decide +kernel
theorem dX4_back_38 : decode cX4_back 38 = .ok (.iload_n 3, 1) := by decide +kernel
theorem dX4_back_39 : decode cX4_back 39 = .ok (.aload_n 0, 1) := by decide +kernel
theorem dX4_back_40 : decode cX4_back 40 = .ok (.iload 5, 2) := by decide +kernel
theorem dX4_back_42 : decode cX4_back 42 = .ok (.iload_n 2, 1) := by decide +kernel
theorem dX4_back_43 : decode cX4_back 43 = .ok (.invokevirtual 159, 3) := by decide +kernel
theorem dX4_back_46 : decode cX4_back 46 = .ok (.ior, 1) := by decide +kernel
theorem dX4_back_47 : decode cX4_back 47 = .ok (.goto 4, 3) := by decide +kernel
theorem dX4_back_50 : decode cX4_back 50 = .ok (.iload_n 3, 1) := by decide +kernel
theorem dX4_back_51 : decode cX4_back 51 = .ok (.istore_n 3, 1) := by decide +kernel
theorem dX4_back_52 : decode cX4_back 52 = .ok (.iinc 5 1, 3) := by decide +kernel
theorem dX4_back_55 : decode cX4_back 55 = .ok (.goto (-36), 3) := by decide +kernel
theorem dX4_back_58 : decode cX4_back 58 = .ok (.goto (-51), 3) := by decide +kernel
theorem dX4_back_61 : decode cX4_back 61 = .ok (.iload_n 3, 1) := by decide +kernel
theorem dX4_back_62 : decode cX4_back 62 = .ok (.ireturn, 1) := by decide +kernel
theorem dX4_forward_0 : decode cX4_forward 0 = .ok (.iconst 0, 1) := by decide +kernel
theorem dX4_forward_1 : decode cX4_forward 1 = .ok (.istore_n 3, 1) := by decide +kernel
theorem dX4_forward_2 : decode cX4_forward 2 = .ok (.iconst 0, 1) := by decide +kernel
theorem dX4_forward_3 : decode cX4_forward 3 = .ok (.istore 4, 2) := by decide +kernel
theorem dX4_forward_5 : decode cX4_forward 5 = .ok (.iload 4, 2) := by decide +kernel
theorem dX4_forward_7 : decode cX4_forward 7 = .ok (.aload_n 0, 1) := by decide +kernel
theorem dX4_forward_8 : decode cX4_forward 8 = .ok (.getfield 81, 3) := by decide +kernel
theorem dX4_forward_11 : decode cX4_forward 11 = .ok (.if_icmp .ge 35, 3) := by decide +kernel
theorem dX4_forward_14 : decode cX4_forward 14 = .ok (.aload_n 0, 1) := by decide +kernel
theorem dX4_forward_15 : decode cX4_forward 15 = .ok (.iload 4, 2) := by decide +kernel
theorem dX4_forward_17 : decode cX4_forward 17 = .ok (.iload_n 2, 1) := by decide +kernel
theorem dX4_forward_18 : decode cX4_forward 18 = .ok (.invokevirtual 162, 3) := by decide +kernel
theorem dX4_forward_21 : decode cX4_forward 21 = .ok (.iload_n 1, 1) := by decide +kernel
theorem dX4_forward_22 : decode cX4_forward 22 = .ok (.ishr, 1) := by decide +kernel
theorem dX4_forward_23 : decode cX4_forward 23 = .ok (.iconst 1, 1) := by decide +kernel
theorem dX4_forward_24 : decode cX4_forward 24 = .ok (.iand, 1) := by decide +kernel
theorem dX4_forward_25 : decode cX4_forward 25 = .ok (.iconst 1, 1) := by decide +kernel
theorem dX4_forward_26 : decode cX4_forward 26 = .ok (.if_icmp .ne 12, 3) := by decide +kernel
theorem dX4_forward_29 : decode cX4_forward 29 = .ok (.iload_n 3, 1) := by decide +kernel
theorem dX4_forward_30 : decode cX4_forward 30 = .ok (.iconst 1, 1) := by decide +kernel
theorem dX4_forward_31 : decode cX4_forward 31 = .ok (.iload 4, 2) := by decide +kernel
theorem dX4_forward_33 : decode cX4_forward 33 = .ok (.ishl, 1) := by decide +kernel
theorem dX4_forward_34 : decode cX4_forward 34 = .ok (.ior, 1) := by decide +kernel
theorem dX4_forward_35 : decode cX4_forward 35 = .ok (.goto 4, 3) := by decide +kernel
theorem dX4_forward_38 : decode cX4_forward 38 = .ok (.iload_n 3, 1) := by decide +kernel
theorem dX4_forward_39 : decode cX4_forward 39 = .ok (.istore_n 3, 1) := by decide +kernel
theorem dX4_forward_40 : decode cX4_forward 40 = .ok (.iinc 4 1, 3) := by decide +kernel
theorem dX4_forward_43 : decode cX4_forward 43 = .ok (.goto (-38), 3) := by decide +kernel
theorem dX4_forward_46 : decode cX4_forward 46 = .ok (.iload_n 3, 1) := by decide +kernel
theorem dX4_forward_47 : decode cX4_forward 47 = .ok (.ireturn, 1) := by decide +kernel
theorem dX4_slice_0 : decode cX4_slice 0 = .ok (.aload_n 0, 1) := by decide +kernel
theorem dX4_slice_1 : decode cX4_slice 1 = .ok (.iload_n 1, 1) := by decide +kernel
theorem dX4_slice_2 : decode cX4_slice 2 = .ok (.invokevirtual 110, 3) := by decide +kernel
theorem dX4_slice_5 : decode cX4_slice 5 = .ok (.ifCond .eq 15, 3) := by decide +kernel
theorem dX4_slice_8 : decode cX4_slice 8 = .ok (.iload_n 2, 1) := by decide +kernel
theorem dX4_slice_9 : decode cX4_slice 9 = .ok (.i2l, 1) := by decide +kernel
theorem dX4_slice_10 : decode cX4_slice 10 = .ok (.lconst 0, 1) := by decide +kernel
theorem dX4_slice_11 : decode cX4_slice 11 = .ok (.ldc2_w 94, 3) := by decide +kernel
theorem dX4_slice_14 : decode cX4_slice 14 = .ok (.invokestatic 84, 3) := by decide +kernel
theorem dX4_slice_17 : decode cX4_slice 17 = .ok (.ifCond .ne 5, 3) := by decide +kernel
theorem dX4_slice_20 : decode cX4_slice 20 = .ok (.iconst (-1), 1) := by decide +kernel
theorem dX4_slice_21 : decode cX4_slice 21 = .ok (.ireturn, 1) := by decide +kernel
theorem dX4_slice_22 : decode cX4_slice 22 = .ok (.aload_n 0, 1) := by decide +kernel
theorem dX4_slice_23 : decode cX4_slice 23 = .ok (.invokevirtual 165, 3) := by decide +kernel
theorem dX4_slice_26 : decode cX4_slice 26 = .ok (.iload_n 2, 1) := by decide +kernel
theorem dX4_slice_27 : decode cX4_slice 27 = .ok (.iconst 2, 1) := by decide +kernel
theorem dX4_slice_28 : decode cX4_slice 28 = .ok (.if_icmp .ge 21, 3) := by decide +kernel
theorem dX4_slice_31 : decode cX4_slice 31 = .ok (.aload_n 0, 1) := by decide +kernel
theorem dX4_slice_32 : decode cX4_slice 32 = .ok (.iload_n 1, 1) := by decide +kernel
theorem dX4_slice_33 : decode cX4_slice 33 = .ok (.iload_n 2, 1) := by decide +kernel
theorem dX4_slice_34 : decode cX4_slice 34 = .ok (.iconst 1, 1) := by decide +kernel
theorem dX4_slice_35 : decode cX4_slice 35 = .ok (.if_icmp .ne 7, 3) := by decide +kernel
theorem dX4_slice_38 : decode cX4_slice 38 = .ok (.iconst 1, 1) := by decide +kernel
theorem dX4_slice_39 : decode cX4_slice 39 = .ok (.goto 4, 3) := by decide +kernel
theorem dX4_slice_42 : decode cX4_slice 42 = .ok (.iconst 0, 1) := by decide +kernel
theorem dX4_slice_43 : decode cX4_slice 43 = .ok (.invokevirtual 162, 3) := by decide +kernel
theorem dX4_slice_46 : decode cX4_slice 46 = .ok (.goto 18, 3) := by decide +kernel
theorem dX4_slice_49 : decode cX4_slice 49 = .ok (.aload_n 0, 1) := by decide +kernel
theorem dX4_slice_50 : decode cX4_slice 50 = .ok (.iload_n 1, 1) := by decide +kernel
theorem dX4_slice_51 : decode cX4_slice 51 = .ok (.iload_n 2, 1) := by decide +kernel
theorem dX4_slice_52 : decode cX4_slice 52 = .ok (.iconst 3, 1) := by decide +kernel
theorem dX4_slice_53 : decode cX4_slice 53 = .ok (.if_icmp .ne 7, 3) := by decide +kernel
theorem dX4_slice_56 : decode cX4_slice 56 = .ok (.iconst 1, 1) := by decide +kernel
theorem dX4_slice_57 : decode cX4_slice 57 = .ok (.goto 4, 3) := by decide +kernel
theorem dX4_slice_60 : decode cX4_slice 60 = .ok (.iconst 0, 1) := by decide +kernel
theorem dX4_slice_61 : decode cX4_slice 61 = .ok (.invokevirtual 168, 3) := by decide +kernel
theorem dX4_slice_64 : decode cX4_slice 64 = .ok (.ireturn, 1) := by decide +kernel
theorem dX4_causes_0 : decode cX4_causes 0 = .ok (.aload_n 0, 1) := by decide +kernel
theorem dX4_causes_1 : decode cX4_causes 1 = .ok (.iload_n 1, 1) := by decide +kernel
theorem dX4_causes_2 : decode cX4_causes 2 = .ok (.invokevirtual 110, 3) := by decide +kernel
theorem dX4_causes_5 : decode cX4_causes 5 = .ok (.ifCond .ne 5, 3) := by decide +kernel
theorem dX4_causes_8 : decode cX4_causes 8 = .ok (.iconst (-1), 1) := by decide +kernel
theorem dX4_causes_9 : decode cX4_causes 9 = .ok (.ireturn, 1) := by decide +kernel
theorem dX4_causes_10 : decode cX4_causes 10 = .ok (.aload_n 0, 1) := by decide +kernel
theorem dX4_causes_11 : decode cX4_causes 11 = .ok (.invokevirtual 165, 3) := by decide +kernel
theorem dX4_causes_14 : decode cX4_causes 14 = .ok (.iconst 0, 1) := by decide +kernel
theorem dX4_causes_15 : decode cX4_causes 15 = .ok (.istore_n 2, 1) := by decide +kernel
theorem dX4_causes_16 : decode cX4_causes 16 = .ok (.iconst 0, 1) := by decide +kernel
theorem dX4_causes_17 : decode cX4_causes 17 = .ok (.istore_n 3, 1) := by decide +kernel
theorem dX4_causes_18 : decode cX4_causes 18 = .ok (.iload_n 3, 1) := by decide +kernel
theorem dX4_causes_19 : decode cX4_causes 19 = .ok (.bipush 96, 2) := by decide +kernel
theorem dX4_causes_21 : decode cX4_causes 21 = .ok (.if_icmp .ge 30, 3) := by decide +kernel
theorem dX4_causes_24 : decode cX4_causes 24 = .ok (.iload_n 2, 1) := by decide +kernel
theorem dX4_causes_25 : decode cX4_causes 25 = .ok (.aload_n 0, 1) := by decide +kernel
theorem dX4_causes_26 : decode cX4_causes 26 = .ok (.getfield 54, 3) := by decide +kernel
theorem dX4_causes_29 : decode cX4_causes 29 = .ok (.iconst 4, 1) := by decide +kernel
theorem dX4_causes_30 : decode cX4_causes 30 = .ok (.iload_n 1, 1) := by decide +kernel
theorem dX4_causes_31 : decode cX4_causes 31 = .ok (.imul, 1) := by decide +kernel
theorem dX4_causes_32 : decode cX4_causes 32 = .ok (.iload_n 3, 1) := by decide +kernel
theorem dX4_causes_33 : decode cX4_causes 33 = .ok (.iconst 3, 1) := by decide +kernel
theorem dX4_causes_34 : decode cX4_causes 34 = .ok (.iand, 1) := by decide +kernel
theorem dX4_causes_35 : decode cX4_causes 35 = .ok (.iadd, 1) := by decide +kernel
theorem dX4_causes_36 : decode cX4_causes 36 = .ok (.iaload, 1) := by decide +kernel
theorem dX4_causes_37 : decode cX4_causes 37 = .ok (.iload_n 3, 1) := by decide +kernel
theorem dX4_causes_38 : decode cX4_causes 38 = .ok (.iconst 2, 1) := by decide +kernel
theorem dX4_causes_39 : decode cX4_causes 39 = .ok (.ishr, 1) := by decide +kernel
theorem dX4_causes_40 : decode cX4_causes 40 = .ok (.ishr, 1) := by decide +kernel
theorem dX4_causes_41 : decode cX4_causes 41 = .ok (.iconst 1, 1) := by decide +kernel
theorem dX4_causes_42 : decode cX4_causes 42 = .ok (.iand, 1) := by decide +kernel
theorem dX4_causes_43 : decode cX4_causes 43 = .ok (.iadd, 1) := by decide +kernel
theorem dX4_causes_44 : decode cX4_causes 44 = .ok (.istore_n 2, 1) := by decide +kernel
theorem dX4_causes_45 : decode cX4_causes 45 = .ok (.iinc 3 1, 3) := by decide +kernel
theorem dX4_causes_48 : decode cX4_causes 48 = .ok (.goto (-30), 3) := by decide +kernel
theorem dX4_causes_51 : decode cX4_causes 51 = .ok (.iload_n 2, 1) := by decide +kernel
theorem dX4_causes_52 : decode cX4_causes 52 = .ok (.ireturn, 1) := by decide +kernel
theorem dX4_cause_0 : decode cX4_cause 0 = .ok (.aload_n 0, 1) := by decide +kernel
theorem dX4_cause_1 : decode cX4_cause 1 = .ok (.iload_n 1, 1) := by decide +kernel
theorem dX4_cause_2 : decode cX4_cause 2 = .ok (.invokevirtual 110, 3) := by decide +kernel
theorem dX4_cause_5 : decode cX4_cause 5 = .ok (.ifCond .eq 17, 3) := by decide +kernel
theorem dX4_cause_8 : decode cX4_cause 8 = .ok (.iload_n 2, 1) := by decide +kernel
theorem dX4_cause_9 : decode cX4_cause 9 = .ok (.ifCond .lt 13, 3) := by decide +kernel
theorem dX4_cause_12 : decode cX4_cause 12 = .ok (.iload_n 3, 1) := by decide +kernel
theorem dX4_cause_13 : decode cX4_cause 13 = .ok (.i2l, 1) := by decide +kernel
theorem dX4_cause_14 : decode cX4_cause 14 = .ok (.lconst 0, 1) := by decide +kernel
theorem dX4_cause_15 : decode cX4_cause 15 = .ok (.lconst 1, 1) := by decide +kernel
theorem dX4_cause_16 : decode cX4_cause 16 = .ok (.invokestatic 84, 3) := by decide +kernel
theorem dX4_cause_19 : decode cX4_cause 19 = .ok (.ifCond .ne 5, 3) := by decide +kernel
theorem dX4_cause_22 : decode cX4_cause 22 = .ok (.iconst (-1), 1) := by decide +kernel
theorem dX4_cause_23 : decode cX4_cause 23 = .ok (.ireturn, 1) := by decide +kernel
theorem dX4_cause_24 : decode cX4_cause 24 = .ok (.aload_n 0, 1) := by decide +kernel
theorem dX4_cause_25 : decode cX4_cause 25 = .ok (.invokevirtual 165, 3) := by decide +kernel
theorem dX4_cause_28 : decode cX4_cause 28 = .ok (.iload_n 2, 1) := by decide +kernel
theorem dX4_cause_29 : decode cX4_cause 29 = .ok (.istore 4, 2) := by decide +kernel
theorem dX4_cause_31 : decode cX4_cause 31 = .ok (.iconst 0, 1) := by decide +kernel
theorem dX4_cause_32 : decode cX4_cause 32 = .ok (.istore 5, 2) := by decide +kernel
theorem dX4_cause_34 : decode cX4_cause 34 = .ok (.iload 5, 2) := by decide +kernel
theorem dX4_cause_36 : decode cX4_cause 36 = .ok (.bipush 96, 2) := by decide +kernel
theorem dX4_cause_38 : decode cX4_cause 38 = .ok (.if_icmp .ge 59, 3) := by decide +kernel
theorem dX4_cause_41 : decode cX4_cause 41 = .ok (.aload_n 0, 1) := by decide +kernel
theorem dX4_cause_42 : decode cX4_cause 42 = .ok (.getfield 54, 3) := by decide +kernel
theorem dX4_cause_45 : decode cX4_cause 45 = .ok (.iconst 4, 1) := by decide +kernel
theorem dX4_cause_46 : decode cX4_cause 46 = .ok (.iload_n 1, 1) := by decide +kernel
theorem dX4_cause_47 : decode cX4_cause 47 = .ok (.imul, 1) := by decide +kernel
theorem dX4_cause_48 : decode cX4_cause 48 = .ok (.iload 5, 2) := by decide +kernel
theorem dX4_cause_50 : decode cX4_cause 50 = .ok (.iconst 3, 1) := by decide +kernel
theorem dX4_cause_51 : decode cX4_cause 51 = .ok (.iand, 1) := by decide +kernel
theorem dX4_cause_52 : decode cX4_cause 52 = .ok (.iadd, 1) := by decide +kernel
theorem dX4_cause_53 : decode cX4_cause 53 = .ok (.iaload, 1) := by decide +kernel
