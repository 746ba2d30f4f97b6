theorem dX4_cause_54 : decode cX4_cause 54 = .ok (.iload 5, 2) := by decide +kernel
theorem dX4_cause_56 : decode cX4_cause 56 = .ok (.iconst 2, 1) := by decide +kernel
theorem dX4_cause_57 : decode cX4_cause 57 = .ok (.ishr, 1) := by decide +kernel
theorem dX4_cause_58 : decode cX4_cause 58 = .ok (.ishr, 1) := by decide +kernel
theorem dX4_cause_59 : decode cX4_cause 59 = .ok (.iconst 1, 1) := by decide +kernel
theorem dX4_cause_60 : decode cX4_cause 60 = .ok (.iand, 1) := by decide +kernel
theorem dX4_cause_61 : decode cX4_cause 61 = .ok (.iconst 1, 1) := by decide +kernel
theorem dX4_cause_62 : decode cX4_cause 62 = .ok (.if_icmp .ne 29, 3) := by decide +kernel
theorem dX4_cause_65 : decode cX4_cause 65 = .ok (.iload 4, 2) := by decide +kernel
theorem dX4_cause_67 : decode cX4_cause 67 = .ok (.ifCond .ne 21, 3) := by decide +kernel
theorem dX4_cause_70 : decode cX4_cause 70 = .ok (.iload_n 3, 1) := by decide +kernel
theorem dX4_cause_71 : decode cX4_cause 71 = .ok (.ifCond .ne 10, 3) := by decide +kernel
theorem dX4_cause_74 : decode cX4_cause 74 = .ok (.iload 5, 2) := by decide +kernel
theorem dX4_cause_76 : decode cX4_cause 76 = .ok (.iconst 2, 1) := by decide +kernel
theorem dX4_cause_77 : decode cX4_cause 77 = .ok (.ishr, 1) := by decide +kernel
theorem dX4_cause_78 : decode cX4_cause 78 = .ok (.goto 9, 3) := by decide +kernel
theorem dX4_cause_81 : decode cX4_cause 81 = .ok (.iconst 1, 1) := by decide +kernel
theorem dX4_cause_82 : decode cX4_cause 82 = .ok (.iload 5, 2) := by decide +kernel
theorem dX4_cause_84 : decode cX4_cause 84 = .ok (.iconst 3, 1) := by decide +kernel
theorem dX4_cause_85 : decode cX4_cause 85 = .ok (.iand, 1) := by decide +kernel
theorem dX4_cause_86 : decode cX4_cause 86 = .ok (.iadd, 1) := by decide +kernel
theorem dX4_cause_87 : decode cX4_cause 87 = .ok (.ireturn, 1) := by decide +kernel
theorem dX4_cause_88 : decode cX4_cause 88 = .ok (.iinc 4 (-1), 3) := by decide +kernel
theorem dX4_cause_91 : decode cX4_cause 91 = .ok (.iinc 5 1, 3) := by decide +kernel
theorem dX4_cause_94 : decode cX4_cause 94 = .ok (.goto (-60), 3) := by decide +kernel
theorem dX4_cause_97 : decode cX4_cause 97 = .ok (.bipush (-4), 2) := by decide +kernel
theorem dX4_cause_99 : decode cX4_cause 99 = .ok (.ireturn, 1) := by decide +kernel
theorem dX4_chop_0 : decode cX4_chop 0 = .ok (.aload_n 0, 1) := by decide +kernel
theorem dX4_chop_1 : decode cX4_chop 1 = .ok (.iload_n 1, 1) := by decide +kernel
theorem dX4_chop_2 : decode cX4_chop 2 = .ok (.invokevirtual 110, 3) := by decide +kernel
theorem dX4_chop_5 : decode cX4_chop 5 = .ok (.ifCond .eq 11, 3) := by decide +kernel
theorem dX4_chop_8 : decode cX4_chop 8 = .ok (.aload_n 0, 1) := by decide +kernel
theorem dX4_chop_9 : decode cX4_chop 9 = .ok (.iload_n 2, 1) := by decide +kernel
theorem dX4_chop_10 : decode cX4_chop 10 = .ok (.invokevirtual 110, 3) := by decide +kernel
theorem dX4_chop_13 : decode cX4_chop 13 = .ok (.ifCond .ne 5, 3) := by decide +kernel
theorem dX4_chop_16 : decode cX4_chop 16 = .ok (.iconst (-1), 1) := by decide +kernel
theorem dX4_chop_17 : decode cX4_chop 17 = .ok (.ireturn, 1) := by decide +kernel
theorem dX4_chop_18 : decode cX4_chop 18 = .ok (.aload_n 0, 1) := by decide +kernel
theorem dX4_chop_19 : decode cX4_chop 19 = .ok (.invokevirtual 165, 3) := by decide +kernel
theorem dX4_chop_22 : decode cX4_chop 22 = .ok (.aload_n 0, 1) := by decide +kernel
theorem dX4_chop_23 : decode cX4_chop 23 = .ok (.iload_n 1, 1) := by decide +kernel
theorem dX4_chop_24 : decode cX4_chop 24 = .ok (.iconst 0, 1) := by decide +kernel
theorem dX4_chop_25 : decode cX4_chop 25 = .ok (.invokevirtual 168, 3) := by decide +kernel
theorem dX4_chop_28 : decode cX4_chop 28 = .ok (.aload_n 0, 1) := by decide +kernel
theorem dX4_chop_29 : decode cX4_chop 29 = .ok (.iload_n 2, 1) := by decide +kernel
theorem dX4_chop_30 : decode cX4_chop 30 = .ok (.iconst 0, 1) := by decide +kernel
theorem dX4_chop_31 : decode cX4_chop 31 = .ok (.invokevirtual 162, 3) := by decide +kernel
theorem dX4_chop_34 : decode cX4_chop 34 = .ok (.iand, 1) := by decide +kernel
theorem dX4_chop_35 : decode cX4_chop 35 = .ok (.ireturn, 1) := by decide +kernel
theorem dX4_way_0 : decode cX4_way 0 = .ok (.aload_n 0, 1) := by decide +kernel
theorem dX4_way_1 : decode cX4_way 1 = .ok (.iload_n 1, 1) := by decide +kernel
theorem dX4_way_2 : decode cX4_way 2 = .ok (.invokevirtual 110, 3) := by decide +kernel
theorem dX4_way_5 : decode cX4_way 5 = .ok (.ifCond .eq 11, 3) := by decide +kernel
theorem dX4_way_8 : decode cX4_way 8 = .ok (.aload_n 0, 1) := by decide +kernel
theorem dX4_way_9 : decode cX4_way 9 = .ok (.iload_n 2, 1) := by decide +kernel
theorem dX4_way_10 : decode cX4_way 10 = .ok (.invokevirtual 110, 3) := by decide +kernel
theorem dX4_way_13 : decode cX4_way 13 = .ok (.ifCond .ne 5, 3) := by decide +kernel
theorem dX4_way_16 : decode cX4_way 16 = .ok (.iconst (-1), 1) := by decide +kernel
theorem dX4_way_17 : decode cX4_way 17 = .ok (.ireturn, 1) := by decide +kernel
theorem dX4_way_18 : decode cX4_way 18 = .ok (.aload_n 0, 1) := by decide +kernel
theorem dX4_way_19 : decode cX4_way 19 = .ok (.invokevirtual 165, 3) := by decide +kernel
theorem dX4_way_22 : decode cX4_way 22 = .ok (.iconst 0, 1) := by decide +kernel
theorem dX4_way_23 : decode cX4_way 23 = .ok (.istore_n 3, 1) := by decide +kernel
theorem dX4_way_24 : decode cX4_way 24 = .ok (.iload_n 3, 1) := by decide +kernel
theorem dX4_way_25 : decode cX4_way 25 = .ok (.bipush 24, 2) := by decide +kernel
theorem dX4_way_27 : decode cX4_way 27 = .ok (.if_icmp .ge 26, 3) := by decide +kernel
theorem dX4_way_30 : decode cX4_way 30 = .ok (.aload_n 0, 1) := by decide +kernel
theorem dX4_way_31 : decode cX4_way 31 = .ok (.getfield 60, 3) := by decide +kernel
theorem dX4_way_34 : decode cX4_way 34 = .ok (.iload_n 3, 1) := by decide +kernel
theorem dX4_way_35 : decode cX4_way 35 = .ok (.iload_n 3, 1) := by decide +kernel
theorem dX4_way_36 : decode cX4_way 36 = .ok (.iload_n 2, 1) := by decide +kernel
theorem dX4_way_37 : decode cX4_way 37 = .ok (.if_icmp .ne 7, 3) := by decide +kernel
theorem dX4_way_40 : decode cX4_way 40 = .ok (.iconst 0, 1) := by decide +kernel
theorem dX4_way_41 : decode cX4_way 41 = .ok (.goto 5, 3) := by decide +kernel
theorem dX4_way_44 : decode cX4_way 44 = .ok (.bipush 99, 2) := by decide +kernel
theorem dX4_way_46 : decode cX4_way 46 = .ok (.iastore, 1) := by decide +kernel
theorem dX4_way_47 : decode cX4_way 47 = .ok (.iinc 3 1, 3) := by decide +kernel
theorem dX4_way_50 : decode cX4_way 50 = .ok (.goto (-26), 3) := by decide +kernel
theorem dX4_way_53 : decode cX4_way 53 = .ok (.iconst 1, 1) := by decide +kernel
theorem dX4_way_54 : decode cX4_way 54 = .ok (.istore_n 3, 1) := by decide +kernel
theorem dX4_way_55 : decode cX4_way 55 = .ok (.iload_n 3, 1) := by decide +kernel
theorem dX4_way_56 : decode cX4_way 56 = .ok (.bipush 24, 2) := by decide +kernel
theorem dX4_way_58 : decode cX4_way 58 = .ok (.if_icmp .ge 103, 3) := by decide +kernel
theorem dX4_way_61 : decode cX4_way 61 = .ok (.iconst 0, 1) := by decide +kernel
theorem dX4_way_62 : decode cX4_way 62 = .ok (.istore 4, 2) := by decide +kernel
theorem dX4_way_64 : decode cX4_way 64 = .ok (.iload 4, 2) := by decide +kernel
theorem dX4_way_66 : decode cX4_way 66 = .ok (.aload_n 0, 1) := by decide +kernel
theorem dX4_way_67 : decode cX4_way 67 = .ok (.getfield 81, 3) := by decide +kernel
theorem dX4_way_70 : decode cX4_way 70 = .ok (.if_icmp .ge 85, 3) := by decide +kernel
theorem dX4_way_73 : decode cX4_way 73 = .ok (.aload_n 0, 1) := by decide +kernel
theorem dX4_way_74 : decode cX4_way 74 = .ok (.iload 4, 2) := by decide +kernel
theorem dX4_way_76 : decode cX4_way 76 = .ok (.iconst 0, 1) := by decide +kernel
theorem dX4_way_77 : decode cX4_way 77 = .ok (.invokevirtual 159, 3) := by decide +kernel
theorem dX4_way_80 : decode cX4_way 80 = .ok (.istore 5, 2) := by decide +kernel
theorem dX4_way_82 : decode cX4_way 82 = .ok (.iconst 0, 1) := by decide +kernel
theorem dX4_way_83 : decode cX4_way 83 = .ok (.istore 6, 2) := by decide +kernel
theorem dX4_way_85 : decode cX4_way 85 = .ok (.iload 6, 2) := by decide +kernel
theorem dX4_way_87 : decode cX4_way 87 = .ok (.aload_n 0, 1) := by decide +kernel
theorem dX4_way_88 : decode cX4_way 88 = .ok (.getfield 81, 3) := by decide +kernel
theorem dX4_way_91 : decode cX4_way 91 = .ok (.if_icmp .ge 58, 3) := by decide +kernel
theorem dX4_way_94 : decode cX4_way 94 = .ok (.aload_n 0, 1) := by decide +kernel
theorem dX4_way_95 : decode cX4_way 95 = .ok (.getfield 60, 3) := by decide +kernel
theorem dX4_way_98 : decode cX4_way 98 = .ok (.iload 4, 2) := by decide +kernel
theorem dX4_way_100 : decode cX4_way 100 = .ok (.iaload, 1) := by decide +kernel
theorem dX4_way_101 : decode cX4_way 101 = .ok (.bipush 99, 2) := by decide +kernel
theorem dX4_way_103 : decode cX4_way 103 = .ok (.if_icmp .ne 46, 3) := by decide +kernel
theorem dX4_way_106 : decode cX4_way 106 = .ok (.aload_n 0, 1) := by decide +kernel
theorem dX4_way_107 : decode cX4_way 107 = .ok (.getfield 60, 3) := by decide +kernel
theorem dX4_way_110 : decode cX4_way 110 = .ok (.iload 4, 2) := by decide +kernel
theorem dX4_way_112 : decode cX4_way 112 = .ok (.iload 5, 2) := by decide +kernel
theorem dX4_way_114 : decode cX4_way 114 = .ok (.iload 6, 2) := by decide +kernel
theorem dX4_way_116 : decode cX4_way 116 = .ok (.ishr, 1) := by decide +kernel
theorem dX4_way_117 : decode cX4_way 117 = .ok (.iconst 1, 1) := by decide +kernel
theorem dX4_way_118 : decode cX4_way 118 = .ok (.iand, 1) := by decide +kernel
theorem dX4_way_119 : decode cX4_way 119 = .ok (.iconst 1, 1) := by decide +kernel
theorem dX4_way_120 : decode cX4_way 120 = .ok (.if_icmp .ne 20, 3) := by decide +kernel
theorem dX4_way_123 : decode cX4_way 123 = .ok (.aload_n 0, 1) := by decide +kernel
theorem dX4_way_124 : decode cX4_way 124 = .ok (.getfield 60, 3) := by decide +kernel
theorem dX4_way_127 : decode cX4_way 127 = .ok (.iload 6, 2) := by decide +kernel
theorem dX4_way_129 : decode cX4_way 129 = .ok (.iaload, 1) := by decide +kernel
theorem dX4_way_130 : decode cX4_way 130 = .ok (.iload_n 3, 1) := by decide +kernel
theorem dX4_way_131 : decode cX4_way 131 = .ok (.iconst 1, 1) := by decide +kernel
theorem dX4_way_132 : decode cX4_way 132 = .ok (.isub, 1) := by decide +kernel
theorem dX4_way_133 : decode cX4_way 133 = .ok (.if_icmp .ne 7, 3) := by decide +kernel
theorem dX4_way_136 : decode cX4_way 136 = .ok (.iload_n 3, 1) := by decide +kernel
theorem dX4_way_137 : decode cX4_way 137 = .ok (.goto 5, 3) := by decide +kernel
theorem dX4_way_140 : decode cX4_way 140 = .ok (.bipush 99, 2) := by decide +kernel
theorem dX4_way_142 : decode cX4_way 142 = .ok (.iastore, 1) := by decide +kernel
theorem dX4_way_143 : decode cX4_way 143 = .ok (.iinc 6 1, 3) := by decide +kernel
theorem dX4_way_146 : decode cX4_way 146 = .ok (.goto (-61), 3) := by decide +kernel
theorem dX4_way_149 : decode cX4_way 149 = .ok (.iinc 4 1, 3) := by decide +kernel
theorem dX4_way_152 : decode cX4_way 152 = .ok (.goto (-88), 3) := by decide +kernel
theorem dX4_way_155 : decode cX4_way 155 = .ok (.iinc 3 1, 3) := by decide +kernel
theorem dX4_way_158 : decode cX4_way 158 = .ok (.goto (-103), 3) := by decide +kernel
theorem dX4_way_161 : decode cX4_way 161 = .ok (.aload_n 0, 1) := by decide +kernel
theorem dX4_way_162 : decode cX4_way 162 = .ok (.getfield 60, 3) := by decide +kernel
theorem dX4_way_165 : decode cX4_way 165 = .ok (.iload_n 1, 1) := by decide +kernel
theorem dX4_way_166 : decode cX4_way 166 = .ok (.iaload, 1) := by decide +kernel
theorem dX4_way_167 : decode cX4_way 167 = .ok (.bipush 99, 2) := by decide +kernel
theorem dX4_way_169 : decode cX4_way 169 = .ok (.if_icmp .ne 6, 3) := by decide +kernel
theorem dX4_way_172 : decode cX4_way 172 = .ok (.bipush (-4), 2) := by decide +kernel
theorem dX4_way_174 : decode cX4_way 174 = .ok (.ireturn, 1) := by decide +kernel
theorem dX4_way_175 : decode cX4_way 175 = .ok (.aload_n 0, 1) := by decide +kernel
theorem dX4_way_176 : decode cX4_way 176 = .ok (.iconst 0, 1) := by decide +kernel
theorem dX4_way_177 : decode cX4_way 177 = .ok (.putfield 171, 3) := by decide +kernel
theorem dX4_way_180 : decode cX4_way 180 = .ok (.iload_n 1, 1) := by decide +kernel
theorem dX4_way_181 : decode cX4_way 181 = .ok (.istore_n 3, 1) := by decide +kernel
theorem dX4_way_182 : decode cX4_way 182 = .ok (.aload_n 0, 1) := by decide +kernel
theorem dX4_way_183 : decode cX4_way 183 = .ok (.getfield 48, 3) := by decide +kernel
theorem dX4_way_186 : decode cX4_way 186 = .ok (.iconst 0, 1) := by decide +kernel
theorem dX4_way_187 : decode cX4_way 187 = .ok (.iload_n 1, 1) := by decide +kernel
theorem dX4_way_188 : decode cX4_way 188 = .ok (.iastore, 1) := by decide +kernel
theorem dX4_way_189 : decode cX4_way 189 = .ok (.aload_n 0, 1) := by decide +kernel
theorem dX4_way_190 : decode cX4_way 190 = .ok (.iconst 1, 1) := by decide +kernel
theorem dX4_way_191 : decode cX4_way 191 = .ok (.putfield 171, 3) := by decide +kernel
theorem dX4_way_194 : decode cX4_way 194 = .ok (.iload_n 3, 1) := by decide +kernel
theorem dX4_way_195 : decode cX4_way 195 = .ok (.iload_n 2, 1) := by decide +kernel
theorem dX4_way_196 : decode cX4_way 196 = .ok (.if_icmp .eq 75, 3) := by decide +kernel
theorem dX4_way_199 : decode cX4_way 199 = .ok (.aload_n 0, 1) := by decide +kernel
theorem dX4_way_200 : decode cX4_way 200 = .ok (.iload_n 3, 1) := by decide +kernel
theorem dX4_way_201 : decode cX4_way 201 = .ok (.iconst 0, 1) := by decide +kernel
theorem dX4_way_202 : decode cX4_way 202 = .ok (.invokevirtual 159, 3) := by decide +kernel
theorem dX4_way_205 : decode cX4_way 205 = .ok (.istore 4, 2) := by decide +kernel
theorem dX4_way_207 : decode cX4_way 207 = .ok (.iconst 0, 1) := by decide +kernel
theorem dX4_way_208 : decode cX4_way 208 = .ok (.istore 5, 2) := by decide +kernel
theorem dX4_way_210 : decode cX4_way 210 = .ok (.iload 4, 2) := by decide +kernel
theorem dX4_way_212 : decode cX4_way 212 = .ok (.iload 5, 2) := by decide +kernel
theorem dX4_way_214 : decode cX4_way 214 = .ok (.ishr, 1) := by decide +kernel
theorem dX4_way_215 : decode cX4_way 215 = .ok (.iconst 1, 1) := by decide +kernel
theorem dX4_way_216 : decode cX4_way 216 = .ok (.iand, 1) := by decide +kernel
theorem dX4_way_217 : decode cX4_way 217 = .ok (.ifCond .eq 21, 3) := by decide +kernel
theorem dX4_way_220 : decode cX4_way 220 = .ok (.aload_n 0, 1) := by decide +kernel
theorem dX4_way_221 : decode cX4_way 221 = .ok (.getfield 60, 3) := by decide +kernel
theorem dX4_way_224 : decode cX4_way 224 = .ok (.iload 5, 2) := by decide +kernel
theorem dX4_way_226 : decode cX4_way 226 = .ok (.iaload, 1) := by decide +kernel
theorem dX4_way_227 : decode cX4_way 227 = .ok (.aload_n 0, 1) := by decide +kernel
theorem dX4_way_228 : decode cX4_way 228 = .ok (.getfield 60, 3) := by decide +kernel
theorem dX4_way_231 : decode cX4_way 231 = .ok (.iload_n 3, 1) := by decide +kernel
theorem dX4_way_232 : decode cX4_way 232 = .ok (.iaload, 1) := by decide +kernel
theorem dX4_way_233 : decode cX4_way 233 = .ok (.iconst 1, 1) := by decide +kernel
theorem dX4_way_234 : decode cX4_way 234 = .ok (.isub, 1) := by decide +kernel
theorem dX4_way_235 : decode cX4_way 235 = .ok (.if_icmp .eq 9, 3) := by decide +kernel
theorem dX4_way_238 : decode cX4_way 238 = .ok (.iinc 5 1, 3) := by decide +kernel
theorem dX4_way_241 : decode cX4_way 241 = .ok (.goto (-31), 3) := by decide +kernel
theorem dX4_way_244 : decode cX4_way 244 = .ok (.iload 5, 2) := by decide +kernel
theorem dX4_way_246 : decode cX4_way 246 = .ok (.istore_n 3, 1) := by decide +kernel
theorem dX4_way_247 : decode cX4_way 247 = .ok (.aload_n 0, 1) := by decide +kernel
theorem dX4_way_248 : decode cX4_way 248 = .ok (.getfield 48, 3) := by decide +kernel
theorem dX4_way_251 : decode cX4_way 251 = .ok (.aload_n 0, 1) := by decide +kernel
theorem dX4_way_252 : decode cX4_way 252 = .ok (.getfield 171, 3) := by decide +kernel
theorem dX4_way_255 : decode cX4_way 255 = .ok (.iload 5, 2) := by decide +kernel
theorem dX4_way_257 : decode cX4_way 257 = .ok (.iastore, 1) := by decide +kernel
theorem dX4_way_258 : decode cX4_way 258 = .ok (.aload_n 0, 1) := by decide +kernel
theorem dX4_way_259 : decode cX4_way 259 = .ok (.dup, 1) := by decide +kernel
theorem dX4_way_260 : decode cX4_way 260 = .ok (.getfield 171, 3) := by decide +kernel
theorem dX4_way_263 : decode cX4_way 263 = .ok (.iconst 1, 1) := by decide +kernel
theorem dX4_way_264 : decode cX4_way 264 = .ok (.iadd, 1) := by decide +kernel
theorem dX4_way_265 : decode cX4_way 265 = .ok (.putfield 171, 3) := by decide +kernel
theorem dX4_way_268 : decode cX4_way 268 = .ok (.goto (-74), 3) := by decide +kernel
theorem dX4_way_271 : decode cX4_way 271 = .ok (.aload_n 0, 1) := by decide +kernel
theorem dX4_way_272 : decode cX4_way 272 = .ok (.getfield 171, 3) := by decide +kernel
theorem dX4_way_275 : decode cX4_way 275 = .ok (.ireturn, 1) := by decide +kernel
theorem dX4_on__0 : decode cX4_on_ 0 = .ok (.iload_n 1, 1) := by decide +kernel
theorem dX4_on__1 : decode cX4_on_ 1 = .ok (.i2l, 1) := by decide +kernel
theorem dX4_on__2 : decode cX4_on_ 2 = .ok (.lconst 0, 1) := by decide +kernel
theorem dX4_on__3 : decode cX4_on_ 3 = .ok (.aload_n 0, 1) := by decide +kernel
theorem dX4_on__4 : decode cX4_on_ 4 = .ok (.getfield 171, 3) := by decide +kernel
theorem dX4_on__7 : decode cX4_on_ 7 = .ok (.iconst 1, 1) := by decide +kernel
theorem dX4_on__8 : decode cX4_on_ 8 = .ok (.isub, 1) := by decide +kernel
theorem dX4_on__9 : decode cX4_on_ 9 = .ok (.i2l, 1) := by decide +kernel
theorem dX4_on__10 : decode cX4_on_ 10 = .ok (.invokestatic 84, 3) := by decide +kernel
theorem dX4_on__13 : decode cX4_on_ 13 = .ok (.ifCond .eq 12, 3) := by decide +kernel
theorem dX4_on__16 : decode cX4_on_ 16 = .ok (.aload_n 0, 1) := by decide +kernel
theorem dX4_on__17 : decode cX4_on_ 17 = .ok (.getfield 48, 3) := by decide +kernel
theorem dX4_on__20 : decode cX4_on_ 20 = .ok (.iload_n 1, 1) := by decide +kernel
theorem dX4_on__21 : decode cX4_on_ 21 = .ok (.iaload, 1) := by decide +kernel
theorem dX4_on__22 : decode cX4_on_ 22 = .ok (.goto 5, 3) := by decide +kernel
theorem dX4_on__25 : decode cX4_on_ 25 = .ok (.bipush (-4), 2) := by decide +kernel
theorem dX4_on__27 : decode cX4_on_ 27 = .ok (.ireturn, 1) := by decide +kernel
theorem dX4_many_0 : decode cX4_many 0 = .ok (.iconst 0, 1) := by decide +kernel
theorem dX4_many_1 : decode cX4_many 1 = .ok (.istore_n 1, 1) := by decide +kernel
theorem dX4_many_2 : decode cX4_many 2 = .ok (.iconst 0, 1) := by decide +kernel
theorem dX4_many_3 : decode cX4_many 3 = .ok (.istore_n 2, 1) := by decide +kernel
theorem dX4_many_4 : decode cX4_many 4 = .ok (.iload_n 2, 1) := by decide +kernel
theorem dX4_many_5 : decode cX4_many 5 = .ok (.iconst 4, 1) := by decide +kernel
theorem dX4_many_6 : decode cX4_many 6 = .ok (.if_icmp .ge 17, 3) := by decide +kernel
theorem dX4_many_9 : decode cX4_many 9 = .ok (.iload_n 1, 1) := by decide +kernel
theorem dX4_many_10 : decode cX4_many 10 = .ok (.iload_n 0, 1) := by decide +kernel
theorem dX4_many_11 : decode cX4_many 11 = .ok (.iload_n 2, 1) := by decide +kernel
theorem dX4_many_12 : decode cX4_many 12 = .ok (.ishr, 1) := by decide +kernel
theorem dX4_many_13 : decode cX4_many 13 = .ok (.iconst 1, 1) := by decide +kernel
theorem dX4_many_14 : decode cX4_many 14 = .ok (.iand, 1) := by decide +kernel
theorem dX4_many_15 : decode cX4_many 15 = .ok (.iadd, 1) := by decide +kernel
theorem dX4_many_16 : decode cX4_many 16 = .ok (.istore_n 1, 1) := by decide +kernel
theorem dX4_many_17 : decode cX4_many 17 = .ok (.iinc 2 1, 3) := by decide +kernel
theorem dX4_many_20 : decode cX4_many 20 = .ok (.goto (-16), 3) := by decide +kernel
theorem dX4_many_23 : decode cX4_many 23 = .ok (.iload_n 1, 1) := by decide +kernel
theorem dX4_many_24 : decode cX4_many 24 = .ok (.ireturn, 1) := by decide +kernel
theorem dX4_begin_0 : decode cX4_begin 0 = .ok (.iconst 0, 1) := by decide +kernel
theorem dX4_begin_1 : decode cX4_begin 1 = .ok (.istore_n 3, 1) := by decide +kernel
theorem dX4_begin_2 : decode cX4_begin 2 = .ok (.iload_n 3, 1) := by decide +kernel
theorem dX4_begin_3 : decode cX4_begin 3 = .ok (.bipush 8, 2) := by decide +kernel
theorem dX4_begin_5 : decode cX4_begin 5 = .ok (.if_icmp .ge 16, 3) := by decide +kernel
theorem dX4_begin_8 : decode cX4_begin 8 = .ok (.aload_n 0, 1) := by decide +kernel
theorem dX4_begin_9 : decode cX4_begin 9 = .ok (.getfield 63, 3) := by decide +kernel
theorem dX4_begin_12 : decode cX4_begin 12 = .ok (.iload_n 3, 1) := by decide +kernel
theorem dX4_begin_13 : decode cX4_begin 13 = .ok (.iconst 0, 1) := by decide +kernel
theorem dX4_begin_14 : decode cX4_begin 14 = .ok (.iastore, 1) := by decide +kernel
theorem dX4_begin_15 : decode cX4_begin 15 = .ok (.iinc 3 1, 3) := by decide +kernel
theorem dX4_begin_18 : decode cX4_begin 18 = .ok (.goto (-16), 3) := by decide +kernel
theorem dX4_begin_21 : decode cX4_begin 21 = .ok (.iconst 0, 1) := by decide +kernel
theorem dX4_begin_22 : decode cX4_begin 22 = .ok (.istore_n 3, 1) := by decide +kernel
theorem dX4_begin_23 : decode cX4_begin 23 = .ok (.iload_n 3, 1) := by decide +kernel
theorem dX4_begin_24 : decode cX4_begin 24 = .ok (.bipush 32, 2) := by decide +kernel
theorem dX4_begin_26 : decode cX4_begin 26 = .ok (.if_icmp .ge 16, 3) := by decide +kernel
theorem dX4_begin_29 : decode cX4_begin 29 = .ok (.aload_n 0, 1) := by decide +kernel
theorem dX4_begin_30 : decode cX4_begin 30 = .ok (.getfield 66, 3) := by decide +kernel
theorem dX4_begin_33 : decode cX4_begin 33 = .ok (.iload_n 3, 1) := by decide +kernel
theorem dX4_begin_34 : decode cX4_begin 34 = .ok (.iconst 0, 1) := by decide +kernel
theorem dX4_begin_35 : decode cX4_begin 35 = .ok (.iastore, 1) := by decide +kernel
theorem dX4_begin_36 : decode cX4_begin 36 = .ok (.iinc 3 1, 3) := by decide +kernel
theorem dX4_begin_39 : decode cX4_begin 39 = .ok (.goto (-16), 3) := by decide +kernel
theorem dX4_begin_42 : decode cX4_begin 42 = .ok (.iconst 0, 1) := by decide +kernel
theorem dX4_begin_43 : decode cX4_begin 43 = .ok (.istore_n 3, 1) := by decide +kernel
theorem dX4_begin_44 : decode cX4_begin 44 = .ok (.iload_n 3, 1) := by decide +kernel
theorem dX4_begin_45 : decode cX4_begin 45 = .ok (.iconst 4, 1) := by decide +kernel
theorem dX4_begin_46 : decode cX4_begin 46 = .ok (.if_icmp .ge 93, 3) := by decide +kernel
theorem dX4_begin_49 : decode cX4_begin 49 = .ok (.aload_n 0, 1) := by decide +kernel
theorem dX4_begin_50 : decode cX4_begin 50 = .ok (.getfield 69, 3) := by decide +kernel
theorem dX4_begin_53 : decode cX4_begin 53 = .ok (.iload_n 3, 1) := by decide +kernel
theorem dX4_begin_54 : decode cX4_begin 54 = .ok (.aload_n 0, 1) := by decide +kernel
theorem dX4_begin_55 : decode cX4_begin 55 = .ok (.getfield 25, 3) := by decide +kernel
theorem dX4_begin_58 : decode cX4_begin 58 = .ok (.iload_n 3, 1) := by decide +kernel
theorem dX4_begin_59 : decode cX4_begin 59 = .ok (.iaload, 1) := by decide +kernel
theorem dX4_begin_60 : decode cX4_begin 60 = .ok (.iastore, 1) := by decide +kernel
theorem dX4_begin_61 : decode cX4_begin 61 = .ok (.aload_n 1, 1) := by decide +kernel
theorem dX4_begin_62 : decode cX4_begin 62 = .ok (.iload_n 2, 1) := by decide +kernel
theorem dX4_begin_63 : decode cX4_begin 63 = .ok (.iconst 3, 1) := by decide +kernel
theorem dX4_begin_64 : decode cX4_begin 64 = .ok (.iadd, 1) := by decide +kernel
theorem dX4_begin_65 : decode cX4_begin 65 = .ok (.iaload, 1) := by decide +kernel
theorem dX4_begin_66 : decode cX4_begin 66 = .ok (.ldc 174, 2) := by decide +kernel
theorem dX4_begin_68 : decode cX4_begin 68 = .ok (.iand, 1) := by decide +kernel
theorem dX4_begin_69 : decode cX4_begin 69 = .ok (.aload_n 0, 1) := by decide +kernel
theorem dX4_begin_70 : decode cX4_begin 70 = .ok (.getfield 32, 3) := by decide +kernel
theorem dX4_begin_73 : decode cX4_begin 73 = .ok (.iload_n 3, 1) := by decide +kernel
theorem dX4_begin_74 : decode cX4_begin 74 = .ok (.iaload, 1) := by decide +kernel
theorem dX4_begin_75 : decode cX4_begin 75 = .ok (.invokestatic 175, 3) := by decide +kernel
theorem dX4_begin_78 : decode cX4_begin 78 = .ok (.irem, 1) := by decide +kernel
theorem dX4_begin_79 : decode cX4_begin 79 = .ok (.istore 4, 2) := by decide +kernel
theorem dX4_begin_81 : decode cX4_begin 81 = .ok (.iconst 0, 1) := by decide +kernel
theorem dX4_begin_82 : decode cX4_begin 82 = .ok (.istore 5, 2) := by decide +kernel
theorem dX4_begin_84 : decode cX4_begin 84 = .ok (.iload 4, 2) := by decide +kernel
theorem dX4_begin_86 : decode cX4_begin 86 = .ok (.ifCond .gt 17, 3) := by decide +kernel
theorem dX4_begin_89 : decode cX4_begin 89 = .ok (.aload_n 0, 1) := by decide +kernel
theorem dX4_begin_90 : decode cX4_begin 90 = .ok (.getfield 32, 3) := by decide +kernel
theorem dX4_begin_93 : decode cX4_begin 93 = .ok (.iload_n 3, 1) := by decide +kernel
theorem dX4_begin_94 : decode cX4_begin 94 = .ok (.iaload, 1) := by decide +kernel
theorem dX4_begin_95 : decode cX4_begin 95 = .ok (.iload 5, 2) := by decide +kernel
theorem dX4_begin_97 : decode cX4_begin 97 = .ok (.ishr, 1) := by decide +kernel
theorem dX4_begin_98 : decode cX4_begin 98 = .ok (.iconst 1, 1) := by decide +kernel
theorem dX4_begin_99 : decode cX4_begin 99 = .ok (.iand, 1) := by decide +kernel
theorem dX4_begin_100 : decode cX4_begin 100 = .ok (.ifCond .ne 25, 3) := by decide +kernel
theorem dX4_begin_103 : decode cX4_begin 103 = .ok (.iload 4, 2) := by decide +kernel
theorem dX4_begin_105 : decode cX4_begin 105 = .ok (.aload_n 0, 1) := by decide +kernel
theorem dX4_begin_106 : decode cX4_begin 106 = .ok (.getfield 32, 3) := by decide +kernel
theorem dX4_begin_109 : decode cX4_begin 109 = .ok (.iload_n 3, 1) := by decide +kernel
theorem dX4_begin_110 : decode cX4_begin 110 = .ok (.iaload, 1) := by decide +kernel
theorem dX4_begin_111 : decode cX4_begin 111 = .ok (.iload 5, 2) := by decide +kernel
theorem dX4_begin_113 : decode cX4_begin 113 = .ok (.ishr, 1) := by decide +kernel
theorem dX4_begin_114 : decode cX4_begin 114 = .ok (.iconst 1, 1) := by decide +kernel
theorem dX4_begin_115 : decode cX4_begin 115 = .ok (.iand, 1) := by decide +kernel
theorem dX4_begin_116 : decode cX4_begin 116 = .ok (.isub, 1) := by decide +kernel
theorem dX4_begin_117 : decode cX4_begin 117 = .ok (.istore 4, 2) := by decide +kernel
theorem dX4_begin_119 : decode cX4_begin 119 = .ok (.iinc 5 1, 3) := by decide +kernel
theorem dX4_begin_122 : decode cX4_begin 122 = .ok (.goto (-38), 3) := by decide +kernel
theorem dX4_begin_125 : decode cX4_begin 125 = .ok (.aload_n 0, 1) := by decide +kernel
theorem dX4_begin_126 : decode cX4_begin 126 = .ok (.getfield 72, 3) := by decide +kernel
theorem dX4_begin_129 : decode cX4_begin 129 = .ok (.iload_n 3, 1) := by decide +kernel
theorem dX4_begin_130 : decode cX4_begin 130 = .ok (.iload 5, 2) := by decide +kernel
theorem dX4_begin_132 : decode cX4_begin 132 = .ok (.iastore, 1) := by decide +kernel
theorem dX4_begin_133 : decode cX4_begin 133 = .ok (.iinc 3 1, 3) := by decide +kernel
theorem dX4_begin_136 : decode cX4_begin 136 = .ok (.goto (-92), 3) := by decide +kernel
theorem dX4_begin_139 : decode cX4_begin 139 = .ok (.aload_n 0, 1) := by decide +kernel
theorem dX4_begin_140 : decode cX4_begin 140 = .ok (.iconst 0, 1) := by decide +kernel
theorem dX4_begin_141 : decode cX4_begin 141 = .ok (.putfield 178, 3) := by decide +kernel
theorem dX4_begin_144 : decode cX4_begin 144 = .ok (.aload_n 0, 1) := by decide +kernel
theorem dX4_begin_145 : decode cX4_begin 145 = .ok (.bipush (-4), 2) := by decide +kernel
theorem dX4_begin_147 : decode cX4_begin 147 = .ok (.putfield 181, 3) := by decide +kernel
theorem dX4_begin_150 : decode cX4_begin 150 = .ok (.aload_n 0, 1) := by decide +kernel
theorem dX4_begin_151 : decode cX4_begin 151 = .ok (.iconst 0, 1) := by decide +kernel
theorem dX4_begin_152 : decode cX4_begin 152 = .ok (.putfield 184, 3) := by decide +kernel
theorem dX4_begin_155 : decode cX4_begin 155 = .ok (.return_, 1) := by decide +kernel
theorem dX4_does_0 : decode cX4_does 0 = .ok (.aload_n 0, 1) := by decide +kernel
theorem dX4_does_1 : decode cX4_does 1 = .ok (.getfield 13, 3) := by decide +kernel
theorem dX4_does_4 : decode cX4_does 4 = .ok (.iload_n 1, 1) := by decide +kernel
theorem dX4_does_5 : decode cX4_does 5 = .ok (.iaload, 1) := by decide +kernel
theorem dX4_does_6 : decode cX4_does 6 = .ok (.istore 4, 2) := by decide +kernel
theorem dX4_does_8 : decode cX4_does 8 = .ok (.aload_n 0, 1) := by decide +kernel
theorem dX4_does_9 : decode cX4_does 9 = .ok (.getfield 16, 3) := by decide +kernel
theorem dX4_does_12 : decode cX4_does 12 = .ok (.iload_n 1, 1) := by decide +kernel
theorem dX4_does_13 : decode cX4_does 13 = .ok (.iaload, 1) := by decide +kernel
theorem dX4_does_14 : decode cX4_does 14 = .ok (.istore 5, 2) := by decide +kernel
theorem dX4_does_16 : decode cX4_does 16 = .ok (.aload_n 0, 1) := by decide +kernel
theorem dX4_does_17 : decode cX4_does 17 = .ok (.getfield 19, 3) := by decide +kernel
theorem dX4_does_20 : decode cX4_does 20 = .ok (.iload_n 1, 1) := by decide +kernel
theorem dX4_does_21 : decode cX4_does 21 = .ok (.iaload, 1) := by decide +kernel
theorem dX4_does_22 : decode cX4_does 22 = .ok (.istore 6, 2) := by decide +kernel
theorem dX4_does_24 : decode cX4_does 24 = .ok (.iconst 0, 1) := by decide +kernel
theorem dX4_does_25 : decode cX4_does 25 = .ok (.istore 7, 2) := by decide +kernel
theorem dX4_does_27 : decode cX4_does 27 = .ok (.aload_n 0, 1) := by decide +kernel
theorem dX4_does_28 : decode cX4_does 28 = .ok (.getfield 7, 3) := by decide +kernel
theorem dX4_does_31 : decode cX4_does 31 = .ok (.iload_n 1, 1) := by decide +kernel
theorem dX4_does_32 : decode cX4_does 32 = .ok (.iaload, 1) := by decide +kernel
theorem dX4_does_33 : decode cX4_does 33 = .ok (.bipush 6, 2) := by decide +kernel
theorem dX4_does_35 : decode cX4_does 35 = .ok (.if_icmp .ne 13, 3) := by decide +kernel
theorem dX4_does_38 : decode cX4_does 38 = .ok (.aload_n 0, 1) := by decide +kernel
theorem dX4_does_39 : decode cX4_does 39 = .ok (.getfield 63, 3) := by decide +kernel
theorem dX4_does_42 : decode cX4_does 42 = .ok (.iload 6, 2) := by decide +kernel
theorem dX4_does_44 : decode cX4_does 44 = .ok (.iaload, 1) := by decide +kernel
theorem dX4_does_45 : decode cX4_does 45 = .ok (.ifCond .eq 35, 3) := by decide +kernel
theorem dX4_does_48 : decode cX4_does 48 = .ok (.aload_n 0, 1) := by decide +kernel
theorem dX4_does_49 : decode cX4_does 49 = .ok (.getfield 7, 3) := by decide +kernel
theorem dX4_does_52 : decode cX4_does 52 = .ok (.iload_n 1, 1) := by decide +kernel
theorem dX4_does_53 : decode cX4_does 53 = .ok (.iaload, 1) := by decide +kernel
theorem dX4_does_54 : decode cX4_does 54 = .ok (.bipush 9, 2) := by decide +kernel
theorem dX4_does_56 : decode cX4_does 56 = .ok (.if_icmp .eq 14, 3) := by decide +kernel
theorem dX4_does_59 : decode cX4_does 59 = .ok (.aload_n 0, 1) := by decide +kernel
theorem dX4_does_60 : decode cX4_does 60 = .ok (.getfield 7, 3) := by decide +kernel
theorem dX4_does_63 : decode cX4_does 63 = .ok (.iload_n 1, 1) := by decide +kernel
theorem dX4_does_64 : decode cX4_does 64 = .ok (.iaload, 1) := by decide +kernel
theorem dX4_does_65 : decode cX4_does 65 = .ok (.bipush 10, 2) := by decide +kernel
theorem dX4_does_67 : decode cX4_does 67 = .ok (.if_icmp .ne 21, 3) := by decide +kernel
theorem dX4_does_70 : decode cX4_does 70 = .ok (.aload_n 0, 1) := by decide +kernel
theorem dX4_does_71 : decode cX4_does 71 = .ok (.getfield 28, 3) := by decide +kernel
theorem dX4_does_74 : decode cX4_does 74 = .ok (.iload 5, 2) := by decide +kernel
theorem dX4_does_76 : decode cX4_does 76 = .ok (.baload, 1) := by decide +kernel
theorem dX4_does_77 : decode cX4_does 77 = .ok (.ifCond .eq 11, 3) := by decide +kernel
theorem dX4_does_80 : decode cX4_does 80 = .ok (.aload_n 0, 1) := by decide +kernel
theorem dX4_does_81 : decode cX4_does 81 = .ok (.ldc 187, 2) := by decide +kernel
theorem dX4_does_83 : decode cX4_does 83 = .ok (.putfield 188, 3) := by decide +kernel
theorem dX4_does_86 : decode cX4_does 86 = .ok (.iconst 0, 1) := by decide +kernel
theorem dX4_does_87 : decode cX4_does 87 = .ok (.ireturn, 1) := by decide +kernel
theorem dX4_does_88 : decode cX4_does 88 = .ok (.aload_n 0, 1) := by decide +kernel
theorem dX4_does_89 : decode cX4_does 89 = .ok (.getfield 7, 3) := by decide +kernel
theorem dX4_does_92 : decode cX4_does 92 = .ok (.iload_n 1, 1) := by decide +kernel
theorem dX4_does_93 : decode cX4_does 93 = .ok (.iaload, 1) := by decide +kernel
theorem dX4_does_94 : decode cX4_does 94 = .ok (.tableswitch 290 1 11 #[58, 65, 76, 96, 123, 143, 166, 206, 237, 249, 270], 58) := by decide +kernel
theorem dX4_does_152 : decode cX4_does 152 = .ok (.iload 5, 2) := by decide +kernel
theorem dX4_does_154 : decode cX4_does 154 = .ok (.istore 7, 2) := by decide +kernel
theorem dX4_does_156 : decode cX4_does 156 = .ok (.goto 228, 3) := by decide +kernel
theorem dX4_does_159 : decode cX4_does 159 = .ok (.aload_n 2, 1) := by decide +kernel
theorem dX4_does_160 : decode cX4_does 160 = .ok (.iload_n 3, 1) := by decide +kernel
theorem dX4_does_161 : decode cX4_does 161 = .ok (.iload 5, 2) := by decide +kernel
theorem dX4_does_163 : decode cX4_does 163 = .ok (.iadd, 1) := by decide +kernel
theorem dX4_does_164 : decode cX4_does 164 = .ok (.iaload, 1) := by decide +kernel
theorem dX4_does_165 : decode cX4_does 165 = .ok (.istore 7, 2) := by decide +kernel
theorem dX4_does_167 : decode cX4_does 167 = .ok (.goto 217, 3) := by decide +kernel
theorem dX4_does_170 : decode cX4_does 170 = .ok (.aload_n 0, 1) := by decide +kernel
theorem dX4_does_171 : decode cX4_does 171 = .ok (.getfield 63, 3) := by decide +kernel
theorem dX4_does_174 : decode cX4_does 174 = .ok (.iload 5, 2) := by decide +kernel
theorem dX4_does_176 : decode cX4_does 176 = .ok (.iaload, 1) := by decide +kernel
theorem dX4_does_177 : decode cX4_does 177 = .ok (.aload_n 0, 1) := by decide +kernel
theorem dX4_does_178 : decode cX4_does 178 = .ok (.getfield 63, 3) := by decide +kernel
theorem dX4_does_181 : decode cX4_does 181 = .ok (.iload 6, 2) := by decide +kernel
theorem dX4_does_183 : decode cX4_does 183 = .ok (.iaload, 1) := by decide +kernel
theorem dX4_does_184 : decode cX4_does 184 = .ok (.iadd, 1) := by decide +kernel
theorem dX4_does_185 : decode cX4_does 185 = .ok (.istore 7, 2) := by decide +kernel
theorem dX4_does_187 : decode cX4_does 187 = .ok (.goto 197, 3) := by decide +kernel
theorem dX4_does_190 : decode cX4_does 190 = .ok (.aload_n 0, 1) := by decide +kernel
theorem dX4_does_191 : decode cX4_does 191 = .ok (.getfield 63, 3) := by decide +kernel
theorem dX4_does_194 : decode cX4_does 194 = .ok (.iload 5, 2) := by decide +kernel
theorem dX4_does_196 : decode cX4_does 196 = .ok (.iaload, 1) := by decide +kernel
theorem dX4_does_197 : decode cX4_does 197 = .ok (.aload_n 0, 1) := by decide +kernel
theorem dX4_does_198 : decode cX4_does 198 = .ok (.getfield 63, 3) := by decide +kernel
theorem dX4_does_201 : decode cX4_does 201 = .ok (.iload 6, 2) := by decide +kernel
theorem dX4_does_203 : decode cX4_does 203 = .ok (.iaload, 1) := by decide +kernel
theorem dX4_does_204 : decode cX4_does 204 = .ok (.if_icmp .ge 7, 3) := by decide +kernel
theorem dX4_does_207 : decode cX4_does 207 = .ok (.iconst 1, 1) := by decide +kernel
theorem dX4_does_208 : decode cX4_does 208 = .ok (.goto 4, 3) := by decide +kernel
theorem dX4_does_211 : decode cX4_does 211 = .ok (.iconst 0, 1) := by decide +kernel
theorem dX4_does_212 : decode cX4_does 212 = .ok (.istore 7, 2) := by decide +kernel
theorem dX4_does_214 : decode cX4_does 214 = .ok (.goto 170, 3) := by decide +kernel
theorem dX4_does_217 : decode cX4_does 217 = .ok (.aload_n 0, 1) := by decide +kernel
theorem dX4_does_218 : decode cX4_does 218 = .ok (.getfield 63, 3) := by decide +kernel
theorem dX4_does_221 : decode cX4_does 221 = .ok (.iload 5, 2) := by decide +kernel
theorem dX4_does_223 : decode cX4_does 223 = .ok (.iaload, 1) := by decide +kernel
theorem dX4_does_224 : decode cX4_does 224 = .ok (.aload_n 0, 1) := by decide +kernel
theorem dX4_does_225 : decode cX4_does 225 = .ok (.getfield 63, 3) := by decide +kernel
theorem dX4_does_228 : decode cX4_does 228 = .ok (.iload 6, 2) := by decide +kernel
theorem dX4_does_230 : decode cX4_does 230 = .ok (.iaload, 1) := by decide +kernel
theorem dX4_does_231 : decode cX4_does 231 = .ok (.imul, 1) := by decide +kernel
theorem dX4_does_232 : decode cX4_does 232 = .ok (.istore 7, 2) := by decide +kernel
theorem dX4_does_234 : decode cX4_does 234 = .ok (.goto 150, 3) := by decide +kernel
theorem dX4_does_237 : decode cX4_does 237 = .ok (.aload_n 0, 1) := by decide +kernel
theorem dX4_does_238 : decode cX4_does 238 = .ok (.getfield 63, 3) := by decide +kernel
theorem dX4_does_241 : decode cX4_does 241 = .ok (.iload 5, 2) := by decide +kernel
theorem dX4_does_243 : decode cX4_does 243 = .ok (.iaload, 1) := by decide +kernel
theorem dX4_does_244 : decode cX4_does 244 = .ok (.i2l, 1) := by decide +kernel
theorem dX4_does_245 : decode cX4_does 245 = .ok (.aload_n 0, 1) := by decide +kernel
theorem dX4_does_246 : decode cX4_does 246 = .ok (.getfield 63, 3) := by decide +kernel
theorem dX4_does_249 : decode cX4_does 249 = .ok (.iload 6, 2) := by decide +kernel
theorem dX4_does_251 : decode cX4_does 251 = .ok (.iaload, 1) := by decide +kernel
theorem dX4_does_252 : decode cX4_does 252 = .ok (.i2l, 1) := by decide +kernel
theorem dX4_does_253 : decode cX4_does 253 = .ok (.ldiv, 1) := by decide +kernel
theorem dX4_does_254 : decode cX4_does 254 = .ok (.l2i, 1) := by decide +kernel
theorem dX4_does_255 : decode cX4_does 255 = .ok (.istore 7, 2) := by decide +kernel
theorem dX4_does_257 : decode cX4_does 257 = .ok (.goto 127, 3) := by decide +kernel
theorem dX4_does_260 : decode cX4_does 260 = .ok (.aload_n 0, 1) := by decide +kernel
theorem dX4_does_261 : decode cX4_does 261 = .ok (.getfield 63, 3) := by decide +kernel
theorem dX4_does_264 : decode cX4_does 264 = .ok (.iload 4, 2) := by decide +kernel
theorem dX4_does_266 : decode cX4_does 266 = .ok (.iaload, 1) := by decide +kernel
theorem dX4_does_267 : decode cX4_does 267 = .ok (.istore 7, 2) := by decide +kernel
theorem dX4_does_269 : decode cX4_does 269 = .ok (.aload_n 0, 1) := by decide +kernel
theorem dX4_does_270 : decode cX4_does 270 = .ok (.getfield 66, 3) := by decide +kernel
theorem dX4_does_273 : decode cX4_does 273 = .ok (.bipush 8, 2) := by decide +kernel
theorem dX4_does_275 : decode cX4_does 275 = .ok (.aload_n 0, 1) := by decide +kernel
theorem dX4_does_276 : decode cX4_does 276 = .ok (.getfield 72, 3) := by decide +kernel
theorem dX4_does_279 : decode cX4_does 279 = .ok (.iload 6, 2) := by decide +kernel
theorem dX4_does_281 : decode cX4_does 281 = .ok (.iaload, 1) := by decide +kernel
theorem dX4_does_282 : decode cX4_does 282 = .ok (.imul, 1) := by decide +kernel
theorem dX4_does_283 : decode cX4_does 283 = .ok (.aload_n 0, 1) := by decide +kernel
theorem dX4_does_284 : decode cX4_does 284 = .ok (.getfield 63, 3) := by decide +kernel
theorem dX4_does_287 : decode cX4_does 287 = .ok (.iload 5, 2) := by decide +kernel
theorem dX4_does_289 : decode cX4_does 289 = .ok (.iaload, 1) := by decide +kernel
theorem dX4_does_290 : decode cX4_does 290 = .ok (.bipush 7, 2) := by decide +kernel
theorem dX4_does_292 : decode cX4_does 292 = .ok (.iand, 1) := by decide +kernel
theorem dX4_does_293 : decode cX4_does 293 = .ok (.iadd, 1) := by decide +kernel
theorem dX4_does_294 : decode cX4_does 294 = .ok (.iload 7, 2) := by decide +kernel
theorem dX4_does_296 : decode cX4_does 296 = .ok (.iastore, 1) := by decide +kernel
theorem dX4_does_297 : decode cX4_does 297 = .ok (.goto 87, 3) := by decide +kernel
theorem dX4_does_300 : decode cX4_does 300 = .ok (.aload_n 0, 1) := by decide +kernel
theorem dX4_does_301 : decode cX4_does 301 = .ok (.getfield 66, 3) := by decide +kernel
theorem dX4_does_304 : decode cX4_does 304 = .ok (.bipush 8, 2) := by decide +kernel
theorem dX4_does_306 : decode cX4_does 306 = .ok (.aload_n 0, 1) := by decide +kernel
theorem dX4_does_307 : decode cX4_does 307 = .ok (.getfield 72, 3) := by decide +kernel
theorem dX4_does_310 : decode cX4_does 310 = .ok (.iload 6, 2) := by decide +kernel
theorem dX4_does_312 : decode cX4_does 312 = .ok (.iaload, 1) := by decide +kernel
theorem dX4_does_313 : decode cX4_does 313 = .ok (.imul, 1) := by decide +kernel
theorem dX4_does_314 : decode cX4_does 314 = .ok (.aload_n 0, 1) := by decide +kernel
theorem dX4_does_315 : decode cX4_does 315 = .ok (.getfield 63, 3) := by decide +kernel
theorem dX4_does_318 : decode cX4_does 318 = .ok (.iload 5, 2) := by decide +kernel
theorem dX4_does_320 : decode cX4_does 320 = .ok (.iaload, 1) := by decide +kernel
theorem dX4_does_321 : decode cX4_does 321 = .ok (.bipush 7, 2) := by decide +kernel
theorem dX4_does_323 : decode cX4_does 323 = .ok (.iand, 1) := by decide +kernel
theorem dX4_does_324 : decode cX4_does 324 = .ok (.iadd, 1) := by decide +kernel
theorem dX4_does_325 : decode cX4_does 325 = .ok (.iaload, 1) := by decide +kernel
theorem dX4_does_326 : decode cX4_does 326 = .ok (.istore 7, 2) := by decide +kernel
theorem dX4_does_328 : decode cX4_does 328 = .ok (.goto 56, 3) := by decide +kernel
theorem dX4_does_331 : decode cX4_does 331 = .ok (.aload_n 0, 1) := by decide +kernel
theorem dX4_does_332 : decode cX4_does 332 = .ok (.getfield 69, 3) := by decide +kernel
theorem dX4_does_335 : decode cX4_does 335 = .ok (.iload 5, 2) := by decide +kernel
theorem dX4_does_337 : decode cX4_does 337 = .ok (.iaload, 1) := by decide +kernel
theorem dX4_does_338 : decode cX4_does 338 = .ok (.istore 7, 2) := by decide +kernel
theorem dX4_does_340 : decode cX4_does 340 = .ok (.goto 44, 3) := by decide +kernel
theorem dX4_does_343 : decode cX4_does 343 = .ok (.aload_n 0, 1) := by decide +kernel
theorem dX4_does_344 : decode cX4_does 344 = .ok (.getfield 63, 3) := by decide +kernel
theorem dX4_does_347 : decode cX4_does 347 = .ok (.iload 4, 2) := by decide +kernel
theorem dX4_does_349 : decode cX4_does 349 = .ok (.iaload, 1) := by decide +kernel
theorem dX4_does_350 : decode cX4_does 350 = .ok (.istore 7, 2) := by decide +kernel
theorem dX4_does_352 : decode cX4_does 352 = .ok (.aload_n 0, 1) := by decide +kernel
theorem dX4_does_353 : decode cX4_does 353 = .ok (.getfield 69, 3) := by decide +kernel
theorem dX4_does_356 : decode cX4_does 356 = .ok (.iload 5, 2) := by decide +kernel
theorem dX4_does_358 : decode cX4_does 358 = .ok (.iload 7, 2) := by decide +kernel
theorem dX4_does_360 : decode cX4_does 360 = .ok (.iastore, 1) := by decide +kernel
theorem dX4_does_361 : decode cX4_does 361 = .ok (.goto 23, 3) := by decide +kernel
theorem dX4_does_364 : decode cX4_does 364 = .ok (.aload_n 0, 1) := by decide +kernel
theorem dX4_does_365 : decode cX4_does 365 = .ok (.getfield 63, 3) := by decide +kernel
theorem dX4_does_368 : decode cX4_does 368 = .ok (.iload 4, 2) := by decide +kernel
theorem dX4_does_370 : decode cX4_does 370 = .ok (.iaload, 1) := by decide +kernel
theorem dX4_does_371 : decode cX4_does 371 = .ok (.ifCond .ne 7, 3) := by decide +kernel
theorem dX4_does_374 : decode cX4_does 374 = .ok (.iconst 1, 1) := by decide +kernel
theorem dX4_does_375 : decode cX4_does 375 = .ok (.goto 4, 3) := by decide +kernel
theorem dX4_does_378 : decode cX4_does 378 = .ok (.iconst 0, 1) := by decide +kernel
theorem dX4_does_379 : decode cX4_does 379 = .ok (.istore 7, 2) := by decide +kernel
theorem dX4_does_381 : decode cX4_does 381 = .ok (.goto 3, 3) := by decide +kernel
theorem dX4_does_384 : decode cX4_does 384 = .ok (.aload_n 0, 1) := by decide +kernel
theorem dX4_does_385 : decode cX4_does 385 = .ok (.iload_n 1, 1) := by decide +kernel
theorem dX4_does_386 : decode cX4_does 386 = .ok (.invokevirtual 140, 3) := by decide +kernel
theorem dX4_does_389 : decode cX4_does 389 = .ok (.ifCond .lt 12, 3) := by decide +kernel
theorem dX4_does_392 : decode cX4_does 392 = .ok (.aload_n 0, 1) := by decide +kernel
theorem dX4_does_393 : decode cX4_does 393 = .ok (.getfield 63, 3) := by decide +kernel
theorem dX4_does_396 : decode cX4_does 396 = .ok (.iload 4, 2) := by decide +kernel
theorem dX4_does_398 : decode cX4_does 398 = .ok (.iload 7, 2) := by decide +kernel
theorem dX4_does_400 : decode cX4_does 400 = .ok (.iastore, 1) := by decide +kernel
theorem dX4_does_401 : decode cX4_does 401 = .ok (.aload_n 0, 1) := by decide +kernel
theorem dX4_does_402 : decode cX4_does 402 = .ok (.iload 7, 2) := by decide +kernel
theorem dX4_does_404 : decode cX4_does 404 = .ok (.putfield 188, 3) := by decide +kernel
theorem dX4_does_407 : decode cX4_does 407 = .ok (.iconst 1, 1) := by decide +kernel
theorem dX4_does_408 : decode cX4_does 408 = .ok (.ireturn, 1) := by decide +kernel
theorem dX4_go_0 : decode cX4_go 0 = .ok (.aload_n 0, 1) := by decide +kernel
theorem dX4_go_1 : decode cX4_go 1 = .ok (.aload_n 3, 1) := by decide +kernel
theorem dX4_go_2 : decode cX4_go 2 = .ok (.iload 4, 2) := by decide +kernel
theorem dX4_go_4 : decode cX4_go 4 = .ok (.invokevirtual 191, 3) := by decide +kernel
theorem dX4_go_7 : decode cX4_go 7 = .ok (.iconst 0, 1) := by decide +kernel
theorem dX4_go_8 : decode cX4_go 8 = .ok (.istore 5, 2) := by decide +kernel
theorem dX4_go_10 : decode cX4_go 10 = .ok (.iload 5, 2) := by decide +kernel
theorem dX4_go_12 : decode cX4_go 12 = .ok (.aload_n 0, 1) := by decide +kernel
theorem dX4_go_13 : decode cX4_go 13 = .ok (.getfield 81, 3) := by decide +kernel
theorem dX4_go_16 : decode cX4_go 16 = .ok (.if_icmp .ge 174, 3) := by decide +kernel
theorem dX4_go_19 : decode cX4_go 19 = .ok (.iload_n 1, 1) := by decide +kernel
theorem dX4_go_20 : decode cX4_go 20 = .ok (.iload 5, 2) := by decide +kernel
theorem dX4_go_22 : decode cX4_go 22 = .ok (.ishr, 1) := by decide +kernel
theorem dX4_go_23 : decode cX4_go 23 = .ok (.iconst 1, 1) := by decide +kernel
theorem dX4_go_24 : decode cX4_go 24 = .ok (.iand, 1) := by decide +kernel
theorem dX4_go_25 : decode cX4_go 25 = .ok (.ifCond .ne 9, 3) := by decide +kernel
theorem dX4_go_28 : decode cX4_go 28 = .ok (.iinc 5 1, 3) := by decide +kernel
theorem dX4_go_31 : decode cX4_go 31 = .ok (.goto (-21), 3) := by decide +kernel
theorem dX4_go_34 : decode cX4_go 34 = .ok (.aload_n 0, 1) := by decide +kernel
theorem dX4_go_35 : decode cX4_go 35 = .ok (.getfield 178, 3) := by decide +kernel
theorem dX4_go_38 : decode cX4_go 38 = .ok (.bipush 100, 2) := by decide +kernel
theorem dX4_go_40 : decode cX4_go 40 = .ok (.if_icmp .ne 5, 3) := by decide +kernel
theorem dX4_go_43 : decode cX4_go 43 = .ok (.iconst 2, 1) := by decide +kernel
theorem dX4_go_44 : decode cX4_go 44 = .ok (.ireturn, 1) := by decide +kernel
theorem dX4_go_45 : decode cX4_go 45 = .ok (.aload_n 0, 1) := by decide +kernel
theorem dX4_go_46 : decode cX4_go 46 = .ok (.dup, 1) := by decide +kernel
theorem dX4_go_47 : decode cX4_go 47 = .ok (.getfield 178, 3) := by decide +kernel
theorem dX4_go_50 : decode cX4_go 50 = .ok (.iconst 1, 1) := by decide +kernel
theorem dX4_go_51 : decode cX4_go 51 = .ok (.iadd, 1) := by decide +kernel
theorem dX4_go_52 : decode cX4_go 52 = .ok (.putfield 178, 3) := by decide +kernel
theorem dX4_go_55 : decode cX4_go 55 = .ok (.aload_n 0, 1) := by decide +kernel
theorem dX4_go_56 : decode cX4_go 56 = .ok (.iload 5, 2) := by decide +kernel
theorem dX4_go_58 : decode cX4_go 58 = .ok (.aload_n 3, 1) := by decide +kernel
theorem dX4_go_59 : decode cX4_go 59 = .ok (.iload 4, 2) := by decide +kernel
theorem dX4_go_61 : decode cX4_go 61 = .ok (.invokevirtual 195, 3) := by decide +kernel
theorem dX4_go_64 : decode cX4_go 64 = .ok (.istore 6, 2) := by decide +kernel
theorem dX4_go_66 : decode cX4_go 66 = .ok (.iload 5, 2) := by decide +kernel
theorem dX4_go_68 : decode cX4_go 68 = .ok (.iload_n 2, 1) := by decide +kernel
theorem dX4_go_69 : decode cX4_go 69 = .ok (.if_icmp .ne 26, 3) := by decide +kernel
theorem dX4_go_72 : decode cX4_go 72 = .ok (.aload_n 0, 1) := by decide +kernel
theorem dX4_go_73 : decode cX4_go 73 = .ok (.getfield 75, 3) := by decide +kernel
theorem dX4_go_76 : decode cX4_go 76 = .ok (.aload_n 0, 1) := by decide +kernel
theorem dX4_go_77 : decode cX4_go 77 = .ok (.getfield 184, 3) := by decide +kernel
theorem dX4_go_80 : decode cX4_go 80 = .ok (.aload_n 0, 1) := by decide +kernel
theorem dX4_go_81 : decode cX4_go 81 = .ok (.getfield 188, 3) := by decide +kernel
theorem dX4_go_84 : decode cX4_go 84 = .ok (.iastore, 1) := by decide +kernel
theorem dX4_go_85 : decode cX4_go 85 = .ok (.aload_n 0, 1) := by decide +kernel
theorem dX4_go_86 : decode cX4_go 86 = .ok (.dup, 1) := by decide +kernel
theorem dX4_go_87 : decode cX4_go 87 = .ok (.getfield 184, 3) := by decide +kernel
theorem dX4_go_90 : decode cX4_go 90 = .ok (.iconst 1, 1) := by decide +kernel
theorem dX4_go_91 : decode cX4_go 91 = .ok (.iadd, 1) := by decide +kernel
theorem dX4_go_92 : decode cX4_go 92 = .ok (.putfield 184, 3) := by decide +kernel
theorem dX4_go_95 : decode cX4_go 95 = .ok (.iload 6, 2) := by decide +kernel
theorem dX4_go_97 : decode cX4_go 97 = .ok (.ifCond .ne 11, 3) := by decide +kernel
theorem dX4_go_100 : decode cX4_go 100 = .ok (.aload_n 0, 1) := by decide +kernel
theorem dX4_go_101 : decode cX4_go 101 = .ok (.iload 5, 2) := by decide +kernel
theorem dX4_go_103 : decode cX4_go 103 = .ok (.putfield 181, 3) := by decide +kernel
theorem dX4_go_106 : decode cX4_go 106 = .ok (.iconst 1, 1) := by decide +kernel
theorem dX4_go_107 : decode cX4_go 107 = .ok (.ireturn, 1) := by decide +kernel
theorem dX4_go_108 : decode cX4_go 108 = .ok (.aload_n 0, 1) := by decide +kernel
theorem dX4_go_109 : decode cX4_go 109 = .ok (.getfield 7, 3) := by decide +kernel
theorem dX4_go_112 : decode cX4_go 112 = .ok (.iload 5, 2) := by decide +kernel
theorem dX4_go_114 : decode cX4_go 114 = .ok (.iaload, 1) := by decide +kernel
theorem dX4_go_115 : decode cX4_go 115 = .ok (.bipush 12, 2) := by decide +kernel
theorem dX4_go_117 : decode cX4_go 117 = .ok (.if_icmp .eq 23, 3) := by decide +kernel
theorem dX4_go_120 : decode cX4_go 120 = .ok (.aload_n 0, 1) := by decide +kernel
theorem dX4_go_121 : decode cX4_go 121 = .ok (.getfield 7, 3) := by decide +kernel
theorem dX4_go_124 : decode cX4_go 124 = .ok (.iload 5, 2) := by decide +kernel
theorem dX4_go_126 : decode cX4_go 126 = .ok (.iaload, 1) := by decide +kernel
theorem dX4_go_127 : decode cX4_go 127 = .ok (.bipush 11, 2) := by decide +kernel
theorem dX4_go_129 : decode cX4_go 129 = .ok (.if_icmp .ne 15, 3) := by decide +kernel
theorem dX4_go_132 : decode cX4_go 132 = .ok (.aload_n 0, 1) := by decide +kernel
theorem dX4_go_133 : decode cX4_go 133 = .ok (.getfield 188, 3) := by decide +kernel
theorem dX4_go_136 : decode cX4_go 136 = .ok (.iconst 1, 1) := by decide +kernel
theorem dX4_go_137 : decode cX4_go 137 = .ok (.if_icmp .ne 7, 3) := by decide +kernel
theorem dX4_go_140 : decode cX4_go 140 = .ok (.iconst 1, 1) := by decide +kernel
theorem dX4_go_141 : decode cX4_go 141 = .ok (.goto 4, 3) := by decide +kernel
theorem dX4_go_144 : decode cX4_go 144 = .ok (.iconst 0, 1) := by decide +kernel
theorem dX4_go_145 : decode cX4_go 145 = .ok (.istore 7, 2) := by decide +kernel
theorem dX4_go_147 : decode cX4_go 147 = .ok (.aload_n 0, 1) := by decide +kernel
theorem dX4_go_148 : decode cX4_go 148 = .ok (.getfield 7, 3) := by decide +kernel
theorem dX4_go_151 : decode cX4_go 151 = .ok (.iload 5, 2) := by decide +kernel
theorem dX4_go_153 : decode cX4_go 153 = .ok (.iaload, 1) := by decide +kernel
theorem dX4_go_154 : decode cX4_go 154 = .ok (.bipush 13, 2) := by decide +kernel
theorem dX4_go_156 : decode cX4_go 156 = .ok (.if_icmp .ne 10, 3) := by decide +kernel
theorem dX4_go_159 : decode cX4_go 159 = .ok (.aload_n 0, 1) := by decide +kernel
theorem dX4_go_160 : decode cX4_go 160 = .ok (.getfield 81, 3) := by decide +kernel
theorem dX4_go_163 : decode cX4_go 163 = .ok (.goto 22, 3) := by decide +kernel
theorem dX4_go_166 : decode cX4_go 166 = .ok (.iload 7, 2) := by decide +kernel
theorem dX4_go_168 : decode cX4_go 168 = .ok (.ifCond .eq 13, 3) := by decide +kernel
theorem dX4_go_171 : decode cX4_go 171 = .ok (.aload_n 0, 1) := by decide +kernel
theorem dX4_go_172 : decode cX4_go 172 = .ok (.getfield 16, 3) := by decide +kernel
theorem dX4_go_175 : decode cX4_go 175 = .ok (.iload 5, 2) := by decide +kernel
theorem dX4_go_177 : decode cX4_go 177 = .ok (.iaload, 1) := by decide +kernel
theorem dX4_go_178 : decode cX4_go 178 = .ok (.goto 7, 3) := by decide +kernel
theorem dX4_go_181 : decode cX4_go 181 = .ok (.iload 5, 2) := by decide +kernel
theorem dX4_go_183 : decode cX4_go 183 = .ok (.iconst 1, 1) := by decide +kernel
theorem dX4_go_184 : decode cX4_go 184 = .ok (.iadd, 1) := by decide +kernel
theorem dX4_go_185 : decode cX4_go 185 = .ok (.istore 5, 2) := by decide +kernel
theorem dX4_go_187 : decode cX4_go 187 = .ok (.goto (-177), 3) := by decide +kernel
theorem dX4_go_190 : decode cX4_go 190 = .ok (.iconst 0, 1) := by decide +kernel
theorem dX4_go_191 : decode cX4_go 191 = .ok (.ireturn, 1) := by decide +kernel
theorem dX4_run_0 : decode cX4_run 0 = .ok (.iload_n 1, 1) := by decide +kernel
theorem dX4_run_1 : decode cX4_run 1 = .ok (.bipush (-4), 2) := by decide +kernel
theorem dX4_run_3 : decode cX4_run 3 = .ok (.if_icmp .eq 11, 3) := by decide +kernel
theorem dX4_run_6 : decode cX4_run 6 = .ok (.aload_n 0, 1) := by decide +kernel
theorem dX4_run_7 : decode cX4_run 7 = .ok (.iload_n 1, 1) := by decide +kernel
theorem dX4_run_8 : decode cX4_run 8 = .ok (.invokevirtual 110, 3) := by decide +kernel
theorem dX4_run_11 : decode cX4_run 11 = .ok (.ifCond .eq 11, 3) := by decide +kernel
theorem dX4_run_14 : decode cX4_run 14 = .ok (.aload_n 0, 1) := by decide +kernel
theorem dX4_run_15 : decode cX4_run 15 = .ok (.iload_n 2, 1) := by decide +kernel
theorem dX4_run_16 : decode cX4_run 16 = .ok (.invokevirtual 110, 3) := by decide +kernel
theorem dX4_run_19 : decode cX4_run 19 = .ok (.ifCond .ne 5, 3) := by decide +kernel
theorem dX4_run_22 : decode cX4_run 22 = .ok (.iconst (-1), 1) := by decide +kernel
theorem dX4_run_23 : decode cX4_run 23 = .ok (.ireturn, 1) := by decide +kernel
theorem dX4_run_24 : decode cX4_run 24 = .ok (.aload_n 0, 1) := by decide +kernel
theorem dX4_run_25 : decode cX4_run 25 = .ok (.invokevirtual 165, 3) := by decide +kernel
theorem dX4_run_28 : decode cX4_run 28 = .ok (.aload_n 0, 1) := by decide +kernel
theorem dX4_run_29 : decode cX4_run 29 = .ok (.dup, 1) := by decide +kernel
theorem dX4_run_30 : decode cX4_run 30 = .ok (.getfield 199, 3) := by decide +kernel
theorem dX4_run_33 : decode cX4_run 33 = .ok (.iconst 1, 1) := by decide +kernel
