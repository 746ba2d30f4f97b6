theorem dX4_init_0 : decode cX4_init 0 = .ok (.aload_n 0, 1) := by decide +kernel
theorem dX4_init_1 : decode cX4_init 1 = .ok (.invokespecial 1, 3) := by decide +kernel
theorem dX4_init_4 : decode cX4_init 4 = .ok (.aload_n 0, 1) := by decide +kernel
theorem dX4_init_5 : decode cX4_init 5 = .ok (.bipush 24, 2) := by decide +kernel
theorem dX4_init_7 : decode cX4_init 7 = .ok (.newarray .int, 2) := by decide +kernel
theorem dX4_init_9 : decode cX4_init 9 = .ok (.putfield 7, 3) := by decide +kernel
theorem dX4_init_12 : decode cX4_init 12 = .ok (.aload_n 0, 1) := by decide +kernel
theorem dX4_init_13 : decode cX4_init 13 = .ok (.bipush 24, 2) := by decide +kernel
theorem dX4_init_15 : decode cX4_init 15 = .ok (.newarray .int, 2) := by decide +kernel
theorem dX4_init_17 : decode cX4_init 17 = .ok (.putfield 13, 3) := by decide +kernel
theorem dX4_init_20 : decode cX4_init 20 = .ok (.aload_n 0, 1) := by decide +kernel
theorem dX4_init_21 : decode cX4_init 21 = .ok (.bipush 24, 2) := by decide +kernel
theorem dX4_init_23 : decode cX4_init 23 = .ok (.newarray .int, 2) := by decide +kernel
theorem dX4_init_25 : decode cX4_init 25 = .ok (.putfield 16, 3) := by decide +kernel
theorem dX4_init_28 : decode cX4_init 28 = .ok (.aload_n 0, 1) := by decide +kernel
theorem dX4_init_29 : decode cX4_init 29 = .ok (.bipush 24, 2) := by decide +kernel
theorem dX4_init_31 : decode cX4_init 31 = .ok (.newarray .int, 2) := by decide +kernel
theorem dX4_init_33 : decode cX4_init 33 = .ok (.putfield 19, 3) := by decide +kernel
theorem dX4_init_36 : decode cX4_init 36 = .ok (.aload_n 0, 1) := by decide +kernel
theorem dX4_init_37 : decode cX4_init 37 = .ok (.iconst 4, 1) := by decide +kernel
theorem dX4_init_38 : decode cX4_init 38 = .ok (.newarray .int, 2) := by decide +kernel
theorem dX4_init_40 : decode cX4_init 40 = .ok (.putfield 22, 3) := by decide +kernel
theorem dX4_init_43 : decode cX4_init 43 = .ok (.aload_n 0, 1) := by decide +kernel
theorem dX4_init_44 : decode cX4_init 44 = .ok (.iconst 4, 1) := by decide +kernel
theorem dX4_init_45 : decode cX4_init 45 = .ok (.newarray .int, 2) := by decide +kernel
theorem dX4_init_47 : decode cX4_init 47 = .ok (.putfield 25, 3) := by decide +kernel
theorem dX4_init_50 : decode cX4_init 50 = .ok (.aload_n 0, 1) := by decide +kernel
theorem dX4_init_51 : decode cX4_init 51 = .ok (.iconst 4, 1) := by decide +kernel
theorem dX4_init_52 : decode cX4_init 52 = .ok (.newarray .boolean, 2) := by decide +kernel
theorem dX4_init_54 : decode cX4_init 54 = .ok (.putfield 28, 3) := by decide +kernel
theorem dX4_init_57 : decode cX4_init 57 = .ok (.aload_n 0, 1) := by decide +kernel
theorem dX4_init_58 : decode cX4_init 58 = .ok (.iconst 4, 1) := by decide +kernel
theorem dX4_init_59 : decode cX4_init 59 = .ok (.newarray .int, 2) := by decide +kernel
theorem dX4_init_61 : decode cX4_init 61 = .ok (.putfield 32, 3) := by decide +kernel
theorem dX4_init_64 : decode cX4_init 64 = .ok (.aload_n 0, 1) := by decide +kernel
theorem dX4_init_65 : decode cX4_init 65 = .ok (.bipush 12, 2) := by decide +kernel
theorem dX4_init_67 : decode cX4_init 67 = .ok (.newarray .int, 2) := by decide +kernel
theorem dX4_init_69 : decode cX4_init 69 = .ok (.putfield 35, 3) := by decide +kernel
theorem dX4_init_72 : decode cX4_init 72 = .ok (.aload_n 0, 1) := by decide +kernel
theorem dX4_init_73 : decode cX4_init 73 = .ok (.bipush 100, 2) := by decide +kernel
theorem dX4_init_75 : decode cX4_init 75 = .ok (.newarray .int, 2) := by decide +kernel
theorem dX4_init_77 : decode cX4_init 77 = .ok (.putfield 38, 3) := by decide +kernel
theorem dX4_init_80 : decode cX4_init 80 = .ok (.aload_n 0, 1) := by decide +kernel
theorem dX4_init_81 : decode cX4_init 81 = .ok (.bipush (-4), 2) := by decide +kernel
theorem dX4_init_83 : decode cX4_init 83 = .ok (.putfield 41, 3) := by decide +kernel
theorem dX4_init_86 : decode cX4_init 86 = .ok (.aload_n 0, 1) := by decide +kernel
theorem dX4_init_87 : decode cX4_init 87 = .ok (.bipush 8, 2) := by decide +kernel
theorem dX4_init_89 : decode cX4_init 89 = .ok (.newarray .int, 2) := by decide +kernel
theorem dX4_init_91 : decode cX4_init 91 = .ok (.putfield 45, 3) := by decide +kernel
theorem dX4_init_94 : decode cX4_init 94 = .ok (.aload_n 0, 1) := by decide +kernel
theorem dX4_init_95 : decode cX4_init 95 = .ok (.bipush 24, 2) := by decide +kernel
theorem dX4_init_97 : decode cX4_init 97 = .ok (.newarray .int, 2) := by decide +kernel
theorem dX4_init_99 : decode cX4_init 99 = .ok (.putfield 48, 3) := by decide +kernel
theorem dX4_init_102 : decode cX4_init 102 = .ok (.aload_n 0, 1) := by decide +kernel
theorem dX4_init_103 : decode cX4_init 103 = .ok (.bipush 24, 2) := by decide +kernel
theorem dX4_init_105 : decode cX4_init 105 = .ok (.newarray .int, 2) := by decide +kernel
theorem dX4_init_107 : decode cX4_init 107 = .ok (.putfield 51, 3) := by decide +kernel
theorem dX4_init_110 : decode cX4_init 110 = .ok (.aload_n 0, 1) := by decide +kernel
theorem dX4_init_111 : decode cX4_init 111 = .ok (.bipush 96, 2) := by decide +kernel
theorem dX4_init_113 : decode cX4_init 113 = .ok (.newarray .int, 2) := by decide +kernel
theorem dX4_init_115 : decode cX4_init 115 = .ok (.putfield 54, 3) := by decide +kernel
theorem dX4_init_118 : decode cX4_init 118 = .ok (.aload_n 0, 1) := by decide +kernel
theorem dX4_init_119 : decode cX4_init 119 = .ok (.bipush 72, 2) := by decide +kernel
theorem dX4_init_121 : decode cX4_init 121 = .ok (.newarray .int, 2) := by decide +kernel
theorem dX4_init_123 : decode cX4_init 123 = .ok (.putfield 57, 3) := by decide +kernel
theorem dX4_init_126 : decode cX4_init 126 = .ok (.aload_n 0, 1) := by decide +kernel
theorem dX4_init_127 : decode cX4_init 127 = .ok (.bipush 24, 2) := by decide +kernel
theorem dX4_init_129 : decode cX4_init 129 = .ok (.newarray .int, 2) := by decide +kernel
theorem dX4_init_131 : decode cX4_init 131 = .ok (.putfield 60, 3) := by decide +kernel
theorem dX4_init_134 : decode cX4_init 134 = .ok (.aload_n 0, 1) := by decide +kernel
theorem dX4_init_135 : decode cX4_init 135 = .ok (.bipush 8, 2) := by decide +kernel
theorem dX4_init_137 : decode cX4_init 137 = .ok (.newarray .int, 2) := by decide +kernel
theorem dX4_init_139 : decode cX4_init 139 = .ok (.putfield 63, 3) := by decide +kernel
theorem dX4_init_142 : decode cX4_init 142 = .ok (.aload_n 0, 1) := by decide +kernel
theorem dX4_init_143 : decode cX4_init 143 = .ok (.bipush 32, 2) := by decide +kernel
theorem dX4_init_145 : decode cX4_init 145 = .ok (.newarray .int, 2) := by decide +kernel
theorem dX4_init_147 : decode cX4_init 147 = .ok (.putfield 66, 3) := by decide +kernel
theorem dX4_init_150 : decode cX4_init 150 = .ok (.aload_n 0, 1) := by decide +kernel
theorem dX4_init_151 : decode cX4_init 151 = .ok (.iconst 4, 1) := by decide +kernel
theorem dX4_init_152 : decode cX4_init 152 = .ok (.newarray .int, 2) := by decide +kernel
theorem dX4_init_154 : decode cX4_init 154 = .ok (.putfield 69, 3) := by decide +kernel
theorem dX4_init_157 : decode cX4_init 157 = .ok (.aload_n 0, 1) := by decide +kernel
theorem dX4_init_158 : decode cX4_init 158 = .ok (.iconst 4, 1) := by decide +kernel
theorem dX4_init_159 : decode cX4_init 159 = .ok (.newarray .int, 2) := by decide +kernel
theorem dX4_init_161 : decode cX4_init 161 = .ok (.putfield 72, 3) := by decide +kernel
theorem dX4_init_164 : decode cX4_init 164 = .ok (.aload_n 0, 1) := by decide +kernel
theorem dX4_init_165 : decode cX4_init 165 = .ok (.bipush 100, 2) := by decide +kernel
theorem dX4_init_167 : decode cX4_init 167 = .ok (.newarray .int, 2) := by decide +kernel
theorem dX4_init_169 : decode cX4_init 169 = .ok (.putfield 75, 3) := by decide +kernel
theorem dX4_init_172 : decode cX4_init 172 = .ok (.aload_n 0, 1) := by decide +kernel
theorem dX4_init_173 : decode cX4_init 173 = .ok (.bipush 100, 2) := by decide +kernel
theorem dX4_init_175 : decode cX4_init 175 = .ok (.newarray .int, 2) := by decide +kernel
theorem dX4_init_177 : decode cX4_init 177 = .ok (.putfield 78, 3) := by decide +kernel
theorem dX4_init_180 : decode cX4_init 180 = .ok (.iconst 0, 1) := by decide +kernel
theorem dX4_init_181 : decode cX4_init 181 = .ok (.istore_n 1, 1) := by decide +kernel
theorem dX4_init_182 : decode cX4_init 182 = .ok (.iload_n 1, 1) := by decide +kernel
theorem dX4_init_183 : decode cX4_init 183 = .ok (.iconst 4, 1) := by decide +kernel
theorem dX4_init_184 : decode cX4_init 184 = .ok (.if_icmp .ge 16, 3) := by decide +kernel
theorem dX4_init_187 : decode cX4_init 187 = .ok (.aload_n 0, 1) := by decide +kernel
theorem dX4_init_188 : decode cX4_init 188 = .ok (.getfield 32, 3) := by decide +kernel
theorem dX4_init_191 : decode cX4_init 191 = .ok (.iload_n 1, 1) := by decide +kernel
theorem dX4_init_192 : decode cX4_init 192 = .ok (.iconst 1, 1) := by decide +kernel
theorem dX4_init_193 : decode cX4_init 193 = .ok (.iastore, 1) := by decide +kernel
theorem dX4_init_194 : decode cX4_init 194 = .ok (.iinc 1 1, 3) := by decide +kernel
theorem dX4_init_197 : decode cX4_init 197 = .ok (.goto (-15), 3) := by decide +kernel
theorem dX4_init_200 : decode cX4_init 200 = .ok (.return_, 1) := by decide +kernel
theorem dX4_in_0 : decode cX4_in 0 = .ok (.lload_n 0, 1) := by decide +kernel
theorem dX4_in_1 : decode cX4_in 1 = .ok (.lload_n 2, 1) := by decide +kernel
theorem dX4_in_2 : decode cX4_in 2 = .ok (.lcmp, 1) := by decide +kernel
theorem dX4_in_3 : decode cX4_in 3 = .ok (.ifCond .lt 14, 3) := by decide +kernel
theorem dX4_in_6 : decode cX4_in 6 = .ok (.lload_n 0, 1) := by decide +kernel
theorem dX4_in_7 : decode cX4_in 7 = .ok (.lload 4, 2) := by decide +kernel
theorem dX4_in_9 : decode cX4_in 9 = .ok (.lcmp, 1) := by decide +kernel
theorem dX4_in_10 : decode cX4_in 10 = .ok (.ifCond .gt 7, 3) := by decide +kernel
theorem dX4_in_13 : decode cX4_in 13 = .ok (.iconst 1, 1) := by decide +kernel
theorem dX4_in_14 : decode cX4_in 14 = .ok (.goto 4, 3) := by decide +kernel
theorem dX4_in_17 : decode cX4_in 17 = .ok (.iconst 0, 1) := by decide +kernel
theorem dX4_in_18 : decode cX4_in 18 = .ok (.ireturn, 1) := by decide +kernel
theorem dX4_isPlace_0 : decode cX4_isPlace 0 = .ok (.iload_n 1, 1) := by decide +kernel
theorem dX4_isPlace_1 : decode cX4_isPlace 1 = .ok (.i2l, 1) := by decide +kernel
theorem dX4_isPlace_2 : decode cX4_isPlace 2 = .ok (.lconst 0, 1) := by decide +kernel
theorem dX4_isPlace_3 : decode cX4_isPlace 3 = .ok (.aload_n 0, 1) := by decide +kernel
theorem dX4_isPlace_4 : decode cX4_isPlace 4 = .ok (.getfield 81, 3) := by decide +kernel
theorem dX4_isPlace_7 : decode cX4_isPlace 7 = .ok (.iconst 1, 1) := by decide +kernel
theorem dX4_isPlace_8 : decode cX4_isPlace 8 = .ok (.isub, 1) := by decide +kernel
theorem dX4_isPlace_9 : decode cX4_isPlace 9 = .ok (.i2l, 1) := by decide +kernel
theorem dX4_isPlace_10 : decode cX4_isPlace 10 = .ok (.invokestatic 84, 3) := by decide +kernel
theorem dX4_isPlace_13 : decode cX4_isPlace 13 = .ok (.ireturn, 1) := by decide +kernel
theorem dX4_isRegister_0 : decode cX4_isRegister 0 = .ok (.iload_n 0, 1) := by decide +kernel
theorem dX4_isRegister_1 : decode cX4_isRegister 1 = .ok (.i2l, 1) := by decide +kernel
theorem dX4_isRegister_2 : decode cX4_isRegister 2 = .ok (.lconst 0, 1) := by decide +kernel
theorem dX4_isRegister_3 : decode cX4_isRegister 3 = .ok (.ldc2_w 88, 3) := by decide +kernel
theorem dX4_isRegister_6 : decode cX4_isRegister 6 = .ok (.invokestatic 84, 3) := by decide +kernel
theorem dX4_isRegister_9 : decode cX4_isRegister 9 = .ok (.ireturn, 1) := by decide +kernel
theorem dX4_fits_0 : decode cX4_fits 0 = .ok (.iload_n 0, 1) := by decide +kernel
theorem dX4_fits_1 : decode cX4_fits 1 = .ok (.tableswitch 197 0 13 #[71, 73, 78, 103, 103, 103, 103, 130, 130, 78, 78, 162, 187, 71], 71) := by decide +kernel
theorem dX4_fits_72 : decode cX4_fits 72 = .ok (.iconst 1, 1) := by decide +kernel
theorem dX4_fits_73 : decode cX4_fits 73 = .ok (.ireturn, 1) := by decide +kernel
theorem dX4_fits_74 : decode cX4_fits 74 = .ok (.iload_n 1, 1) := by decide +kernel
theorem dX4_fits_75 : decode cX4_fits 75 = .ok (.invokestatic 90, 3) := by decide +kernel
theorem dX4_fits_78 : decode cX4_fits 78 = .ok (.ireturn, 1) := by decide +kernel
theorem dX4_fits_79 : decode cX4_fits 79 = .ok (.iload_n 1, 1) := by decide +kernel
theorem dX4_fits_80 : decode cX4_fits 80 = .ok (.invokestatic 90, 3) := by decide +kernel
theorem dX4_fits_83 : decode cX4_fits 83 = .ok (.ifCond .eq 19, 3) := by decide +kernel
theorem dX4_fits_86 : decode cX4_fits 86 = .ok (.iload_n 2, 1) := by decide +kernel
theorem dX4_fits_87 : decode cX4_fits 87 = .ok (.i2l, 1) := by decide +kernel
theorem dX4_fits_88 : decode cX4_fits 88 = .ok (.lconst 0, 1) := by decide +kernel
theorem dX4_fits_89 : decode cX4_fits 89 = .ok (.ldc2_w 94, 3) := by decide +kernel
theorem dX4_fits_92 : decode cX4_fits 92 = .ok (.invokestatic 84, 3) := by decide +kernel
theorem dX4_fits_95 : decode cX4_fits 95 = .ok (.ifCond .eq 7, 3) := by decide +kernel
theorem dX4_fits_98 : decode cX4_fits 98 = .ok (.iconst 1, 1) := by decide +kernel
theorem dX4_fits_99 : decode cX4_fits 99 = .ok (.goto 4, 3) := by decide +kernel
theorem dX4_fits_102 : decode cX4_fits 102 = .ok (.iconst 0, 1) := by decide +kernel
theorem dX4_fits_103 : decode cX4_fits 103 = .ok (.ireturn, 1) := by decide +kernel
theorem dX4_fits_104 : decode cX4_fits 104 = .ok (.iload_n 1, 1) := by decide +kernel
theorem dX4_fits_105 : decode cX4_fits 105 = .ok (.invokestatic 90, 3) := by decide +kernel
theorem dX4_fits_108 : decode cX4_fits 108 = .ok (.ifCond .eq 21, 3) := by decide +kernel
theorem dX4_fits_111 : decode cX4_fits 111 = .ok (.iload_n 2, 1) := by decide +kernel
theorem dX4_fits_112 : decode cX4_fits 112 = .ok (.invokestatic 90, 3) := by decide +kernel
theorem dX4_fits_115 : decode cX4_fits 115 = .ok (.ifCond .eq 14, 3) := by decide +kernel
theorem dX4_fits_118 : decode cX4_fits 118 = .ok (.iload_n 3, 1) := by decide +kernel
theorem dX4_fits_119 : decode cX4_fits 119 = .ok (.invokestatic 90, 3) := by decide +kernel
theorem dX4_fits_122 : decode cX4_fits 122 = .ok (.ifCond .eq 7, 3) := by decide +kernel
theorem dX4_fits_125 : decode cX4_fits 125 = .ok (.iconst 1, 1) := by decide +kernel
theorem dX4_fits_126 : decode cX4_fits 126 = .ok (.goto 4, 3) := by decide +kernel
theorem dX4_fits_129 : decode cX4_fits 129 = .ok (.iconst 0, 1) := by decide +kernel
theorem dX4_fits_130 : decode cX4_fits 130 = .ok (.ireturn, 1) := by decide +kernel
theorem dX4_fits_131 : decode cX4_fits 131 = .ok (.iload_n 1, 1) := by decide +kernel
theorem dX4_fits_132 : decode cX4_fits 132 = .ok (.invokestatic 90, 3) := by decide +kernel
theorem dX4_fits_135 : decode cX4_fits 135 = .ok (.ifCond .eq 26, 3) := by decide +kernel
theorem dX4_fits_138 : decode cX4_fits 138 = .ok (.iload_n 2, 1) := by decide +kernel
theorem dX4_fits_139 : decode cX4_fits 139 = .ok (.invokestatic 90, 3) := by decide +kernel
theorem dX4_fits_142 : decode cX4_fits 142 = .ok (.ifCond .eq 19, 3) := by decide +kernel
theorem dX4_fits_145 : decode cX4_fits 145 = .ok (.iload_n 3, 1) := by decide +kernel
theorem dX4_fits_146 : decode cX4_fits 146 = .ok (.i2l, 1) := by decide +kernel
theorem dX4_fits_147 : decode cX4_fits 147 = .ok (.lconst 0, 1) := by decide +kernel
theorem dX4_fits_148 : decode cX4_fits 148 = .ok (.ldc2_w 94, 3) := by decide +kernel
theorem dX4_fits_151 : decode cX4_fits 151 = .ok (.invokestatic 84, 3) := by decide +kernel
theorem dX4_fits_154 : decode cX4_fits 154 = .ok (.ifCond .eq 7, 3) := by decide +kernel
theorem dX4_fits_157 : decode cX4_fits 157 = .ok (.iconst 1, 1) := by decide +kernel
theorem dX4_fits_158 : decode cX4_fits 158 = .ok (.goto 4, 3) := by decide +kernel
theorem dX4_fits_161 : decode cX4_fits 161 = .ok (.iconst 0, 1) := by decide +kernel
theorem dX4_fits_162 : decode cX4_fits 162 = .ok (.ireturn, 1) := by decide +kernel
theorem dX4_fits_163 : decode cX4_fits 163 = .ok (.iload_n 1, 1) := by decide +kernel
theorem dX4_fits_164 : decode cX4_fits 164 = .ok (.invokestatic 90, 3) := by decide +kernel
theorem dX4_fits_167 : decode cX4_fits 167 = .ok (.ifCond .eq 19, 3) := by decide +kernel
theorem dX4_fits_170 : decode cX4_fits 170 = .ok (.iload_n 2, 1) := by decide +kernel
theorem dX4_fits_171 : decode cX4_fits 171 = .ok (.i2l, 1) := by decide +kernel
theorem dX4_fits_172 : decode cX4_fits 172 = .ok (.lconst 0, 1) := by decide +kernel
theorem dX4_fits_173 : decode cX4_fits 173 = .ok (.ldc2_w 96, 3) := by decide +kernel
theorem dX4_fits_176 : decode cX4_fits 176 = .ok (.invokestatic 84, 3) := by decide +kernel
theorem dX4_fits_179 : decode cX4_fits 179 = .ok (.ifCond .eq 7, 3) := by decide +kernel
theorem dX4_fits_182 : decode cX4_fits 182 = .ok (.iconst 1, 1) := by decide +kernel
theorem dX4_fits_183 : decode cX4_fits 183 = .ok (.goto 4, 3) := by decide +kernel
theorem dX4_fits_186 : decode cX4_fits 186 = .ok (.iconst 0, 1) := by decide +kernel
theorem dX4_fits_187 : decode cX4_fits 187 = .ok (.ireturn, 1) := by decide +kernel
theorem dX4_fits_188 : decode cX4_fits 188 = .ok (.iload_n 2, 1) := by decide +kernel
theorem dX4_fits_189 : decode cX4_fits 189 = .ok (.i2l, 1) := by decide +kernel
theorem dX4_fits_190 : decode cX4_fits 190 = .ok (.lconst 0, 1) := by decide +kernel
theorem dX4_fits_191 : decode cX4_fits 191 = .ok (.ldc2_w 96, 3) := by decide +kernel
theorem dX4_fits_194 : decode cX4_fits 194 = .ok (.invokestatic 84, 3) := by decide +kernel
theorem dX4_fits_197 : decode cX4_fits 197 = .ok (.ireturn, 1) := by decide +kernel
theorem dX4_fits_198 : decode cX4_fits 198 = .ok (.iconst 0, 1) := by decide +kernel
theorem dX4_fits_199 : decode cX4_fits 199 = .ok (.ireturn, 1) := by decide +kernel
theorem dX4_write_0 : decode cX4_write 0 = .ok (.aload_n 0, 1) := by decide +kernel
theorem dX4_write_1 : decode cX4_write 1 = .ok (.iconst 0, 1) := by decide +kernel
theorem dX4_write_2 : decode cX4_write 2 = .ok (.putfield 98, 3) := by decide +kernel
theorem dX4_write_5 : decode cX4_write 5 = .ok (.aload_n 0, 1) := by decide +kernel
theorem dX4_write_6 : decode cX4_write 6 = .ok (.getfield 7, 3) := by decide +kernel
theorem dX4_write_9 : decode cX4_write 9 = .ok (.iload_n 1, 1) := by decide +kernel
theorem dX4_write_10 : decode cX4_write 10 = .ok (.iload_n 2, 1) := by decide +kernel
theorem dX4_write_11 : decode cX4_write 11 = .ok (.iastore, 1) := by decide +kernel
theorem dX4_write_12 : decode cX4_write 12 = .ok (.aload_n 0, 1) := by decide +kernel
theorem dX4_write_13 : decode cX4_write 13 = .ok (.getfield 13, 3) := by decide +kernel
theorem dX4_write_16 : decode cX4_write 16 = .ok (.iload_n 1, 1) := by decide +kernel
theorem dX4_write_17 : decode cX4_write 17 = .ok (.iload_n 3, 1) := by decide +kernel
theorem dX4_write_18 : decode cX4_write 18 = .ok (.iastore, 1) := by decide +kernel
theorem dX4_write_19 : decode cX4_write 19 = .ok (.aload_n 0, 1) := by decide +kernel
theorem dX4_write_20 : decode cX4_write 20 = .ok (.getfield 16, 3) := by decide +kernel
theorem dX4_write_23 : decode cX4_write 23 = .ok (.iload_n 1, 1) := by decide +kernel
theorem dX4_write_24 : decode cX4_write 24 = .ok (.iload 4, 2) := by decide +kernel
theorem dX4_write_26 : decode cX4_write 26 = .ok (.iastore, 1) := by decide +kernel
theorem dX4_write_27 : decode cX4_write 27 = .ok (.aload_n 0, 1) := by decide +kernel
theorem dX4_write_28 : decode cX4_write 28 = .ok (.getfield 19, 3) := by decide +kernel
theorem dX4_write_31 : decode cX4_write 31 = .ok (.iload_n 1, 1) := by decide +kernel
theorem dX4_write_32 : decode cX4_write 32 = .ok (.iload 5, 2) := by decide +kernel
theorem dX4_write_34 : decode cX4_write 34 = .ok (.iastore, 1) := by decide +kernel
theorem dX4_write_35 : decode cX4_write 35 = .ok (.return_, 1) := by decide +kernel
theorem dX4_line_0 : decode cX4_line 0 = .ok (.iload_n 1, 1) := by decide +kernel
theorem dX4_line_1 : decode cX4_line 1 = .ok (.iload_n 2, 1) := by decide +kernel
theorem dX4_line_2 : decode cX4_line 2 = .ok (.iload_n 3, 1) := by decide +kernel
theorem dX4_line_3 : decode cX4_line 3 = .ok (.iload 4, 2) := by decide +kernel
theorem dX4_line_5 : decode cX4_line 5 = .ok (.invokestatic 102, 3) := by decide +kernel
theorem dX4_line_8 : decode cX4_line 8 = .ok (.ifCond .ne 5, 3) := by decide +kernel
theorem dX4_line_11 : decode cX4_line 11 = .ok (.iconst (-1), 1) := by decide +kernel
theorem dX4_line_12 : decode cX4_line 12 = .ok (.ireturn, 1) := by decide +kernel
theorem dX4_line_13 : decode cX4_line 13 = .ok (.aload_n 0, 1) := by decide +kernel
theorem dX4_line_14 : decode cX4_line 14 = .ok (.getfield 81, 3) := by decide +kernel
theorem dX4_line_17 : decode cX4_line 17 = .ok (.bipush 24, 2) := by decide +kernel
theorem dX4_line_19 : decode cX4_line 19 = .ok (.if_icmp .ne 6, 3) := by decide +kernel
theorem dX4_line_22 : decode cX4_line 22 = .ok (.bipush (-2), 2) := by decide +kernel
theorem dX4_line_24 : decode cX4_line 24 = .ok (.ireturn, 1) := by decide +kernel
theorem dX4_line_25 : decode cX4_line 25 = .ok (.aload_n 0, 1) := by decide +kernel
theorem dX4_line_26 : decode cX4_line 26 = .ok (.aload_n 0, 1) := by decide +kernel
theorem dX4_line_27 : decode cX4_line 27 = .ok (.getfield 81, 3) := by decide +kernel
theorem dX4_line_30 : decode cX4_line 30 = .ok (.iload_n 1, 1) := by decide +kernel
theorem dX4_line_31 : decode cX4_line 31 = .ok (.iload_n 2, 1) := by decide +kernel
theorem dX4_line_32 : decode cX4_line 32 = .ok (.iload_n 3, 1) := by decide +kernel
theorem dX4_line_33 : decode cX4_line 33 = .ok (.iload 4, 2) := by decide +kernel
theorem dX4_line_35 : decode cX4_line 35 = .ok (.invokevirtual 106, 3) := by decide +kernel
theorem dX4_line_38 : decode cX4_line 38 = .ok (.aload_n 0, 1) := by decide +kernel
theorem dX4_line_39 : decode cX4_line 39 = .ok (.dup, 1) := by decide +kernel
theorem dX4_line_40 : decode cX4_line 40 = .ok (.getfield 81, 3) := by decide +kernel
theorem dX4_line_43 : decode cX4_line 43 = .ok (.iconst 1, 1) := by decide +kernel
theorem dX4_line_44 : decode cX4_line 44 = .ok (.iadd, 1) := by decide +kernel
theorem dX4_line_45 : decode cX4_line 45 = .ok (.putfield 81, 3) := by decide +kernel
theorem dX4_line_48 : decode cX4_line 48 = .ok (.aload_n 0, 1) := by decide +kernel
theorem dX4_line_49 : decode cX4_line 49 = .ok (.getfield 81, 3) := by decide +kernel
theorem dX4_line_52 : decode cX4_line 52 = .ok (.iconst 1, 1) := by decide +kernel
theorem dX4_line_53 : decode cX4_line 53 = .ok (.isub, 1) := by decide +kernel
theorem dX4_line_54 : decode cX4_line 54 = .ok (.ireturn, 1) := by decide +kernel
theorem dX4_change_0 : decode cX4_change 0 = .ok (.aload_n 0, 1) := by decide +kernel
theorem dX4_change_1 : decode cX4_change 1 = .ok (.iload_n 1, 1) := by decide +kernel
theorem dX4_change_2 : decode cX4_change 2 = .ok (.invokevirtual 110, 3) := by decide +kernel
theorem dX4_change_5 : decode cX4_change 5 = .ok (.ifCond .eq 15, 3) := by decide +kernel
theorem dX4_change_8 : decode cX4_change 8 = .ok (.iload_n 2, 1) := by decide +kernel
theorem dX4_change_9 : decode cX4_change 9 = .ok (.iload_n 3, 1) := by decide +kernel
theorem dX4_change_10 : decode cX4_change 10 = .ok (.iload 4, 2) := by decide +kernel
theorem dX4_change_12 : decode cX4_change 12 = .ok (.iload 5, 2) := by decide +kernel
theorem dX4_change_14 : decode cX4_change 14 = .ok (.invokestatic 102, 3) := by decide +kernel
theorem dX4_change_17 : decode cX4_change 17 = .ok (.ifCond .ne 5, 3) := by decide +kernel
theorem dX4_change_20 : decode cX4_change 20 = .ok (.iconst (-1), 1) := by decide +kernel
theorem dX4_change_21 : decode cX4_change 21 = .ok (.ireturn, 1) := by decide +kernel
theorem dX4_change_22 : decode cX4_change 22 = .ok (.aload_n 0, 1) := by decide +kernel
theorem dX4_change_23 : decode cX4_change 23 = .ok (.getfield 7, 3) := by decide +kernel
theorem dX4_change_26 : decode cX4_change 26 = .ok (.iload_n 1, 1) := by decide +kernel
theorem dX4_change_27 : decode cX4_change 27 = .ok (.iaload, 1) := by decide +kernel
theorem dX4_change_28 : decode cX4_change 28 = .ok (.istore 6, 2) := by decide +kernel
theorem dX4_change_30 : decode cX4_change 30 = .ok (.aload_n 0, 1) := by decide +kernel
theorem dX4_change_31 : decode cX4_change 31 = .ok (.iload_n 1, 1) := by decide +kernel
theorem dX4_change_32 : decode cX4_change 32 = .ok (.iload_n 2, 1) := by decide +kernel
theorem dX4_change_33 : decode cX4_change 33 = .ok (.iload_n 3, 1) := by decide +kernel
theorem dX4_change_34 : decode cX4_change 34 = .ok (.iload 4, 2) := by decide +kernel
theorem dX4_change_36 : decode cX4_change 36 = .ok (.iload 5, 2) := by decide +kernel
theorem dX4_change_38 : decode cX4_change 38 = .ok (.invokevirtual 106, 3) := by decide +kernel
theorem dX4_change_41 : decode cX4_change 41 = .ok (.iload 6, 2) := by decide +kernel
theorem dX4_change_43 : decode cX4_change 43 = .ok (.ireturn, 1) := by decide +kernel
theorem dX4_drop_0 : decode cX4_drop 0 = .ok (.aload_n 0, 1) := by decide +kernel
theorem dX4_drop_1 : decode cX4_drop 1 = .ok (.getfield 81, 3) := by decide +kernel
theorem dX4_drop_4 : decode cX4_drop 4 = .ok (.ifCond .ne 6, 3) := by decide +kernel
theorem dX4_drop_7 : decode cX4_drop 7 = .ok (.bipush (-3), 2) := by decide +kernel
theorem dX4_drop_9 : decode cX4_drop 9 = .ok (.ireturn, 1) := by decide +kernel
theorem dX4_drop_10 : decode cX4_drop 10 = .ok (.aload_n 0, 1) := by decide +kernel
theorem dX4_drop_11 : decode cX4_drop 11 = .ok (.dup, 1) := by decide +kernel
theorem dX4_drop_12 : decode cX4_drop 12 = .ok (.getfield 81, 3) := by decide +kernel
theorem dX4_drop_15 : decode cX4_drop 15 = .ok (.iconst 1, 1) := by decide +kernel
theorem dX4_drop_16 : decode cX4_drop 16 = .ok (.isub, 1) := by decide +kernel
theorem dX4_drop_17 : decode cX4_drop 17 = .ok (.putfield 81, 3) := by decide +kernel
theorem dX4_drop_20 : decode cX4_drop 20 = .ok (.aload_n 0, 1) := by decide +kernel
theorem dX4_drop_21 : decode cX4_drop 21 = .ok (.iconst 0, 1) := by decide +kernel
theorem dX4_drop_22 : decode cX4_drop 22 = .ok (.putfield 98, 3) := by decide +kernel
theorem dX4_drop_25 : decode cX4_drop 25 = .ok (.aload_n 0, 1) := by decide +kernel
theorem dX4_drop_26 : decode cX4_drop 26 = .ok (.getfield 81, 3) := by decide +kernel
theorem dX4_drop_29 : decode cX4_drop 29 = .ok (.ireturn, 1) := by decide +kernel
theorem dX4_start_0 : decode cX4_start 0 = .ok (.iload_n 1, 1) := by decide +kernel
theorem dX4_start_1 : decode cX4_start 1 = .ok (.i2l, 1) := by decide +kernel
theorem dX4_start_2 : decode cX4_start 2 = .ok (.lconst 0, 1) := by decide +kernel
theorem dX4_start_3 : decode cX4_start 3 = .ok (.ldc2_w 94, 3) := by decide +kernel
theorem dX4_start_6 : decode cX4_start 6 = .ok (.invokestatic 84, 3) := by decide +kernel
theorem dX4_start_9 : decode cX4_start 9 = .ok (.ifCond .ne 5, 3) := by decide +kernel
theorem dX4_start_12 : decode cX4_start 12 = .ok (.iconst (-1), 1) := by decide +kernel
theorem dX4_start_13 : decode cX4_start 13 = .ok (.ireturn, 1) := by decide +kernel
theorem dX4_start_14 : decode cX4_start 14 = .ok (.aload_n 0, 1) := by decide +kernel
theorem dX4_start_15 : decode cX4_start 15 = .ok (.getfield 25, 3) := by decide +kernel
theorem dX4_start_18 : decode cX4_start 18 = .ok (.iload_n 1, 1) := by decide +kernel
theorem dX4_start_19 : decode cX4_start 19 = .ok (.iload_n 2, 1) := by decide +kernel
theorem dX4_start_20 : decode cX4_start 20 = .ok (.iastore, 1) := by decide +kernel
theorem dX4_start_21 : decode cX4_start 21 = .ok (.aload_n 0, 1) := by decide +kernel
theorem dX4_start_22 : decode cX4_start 22 = .ok (.getfield 28, 3) := by decide +kernel
theorem dX4_start_25 : decode cX4_start 25 = .ok (.iload_n 1, 1) := by decide +kernel
theorem dX4_start_26 : decode cX4_start 26 = .ok (.iload_n 3, 1) := by decide +kernel
theorem dX4_start_27 : decode cX4_start 27 = .ok (.bastore, 1) := by decide +kernel
theorem dX4_start_28 : decode cX4_start 28 = .ok (.aload_n 0, 1) := by decide +kernel
theorem dX4_start_29 : decode cX4_start 29 = .ok (.iconst 0, 1) := by decide +kernel
theorem dX4_start_30 : decode cX4_start 30 = .ok (.putfield 98, 3) := by decide +kernel
theorem dX4_start_33 : decode cX4_start 33 = .ok (.iconst 1, 1) := by decide +kernel
theorem dX4_start_34 : decode cX4_start 34 = .ok (.ireturn, 1) := by decide +kernel
theorem dX4_points_0 : decode cX4_points 0 = .ok (.iload_n 1, 1) := by decide +kernel
theorem dX4_points_1 : decode cX4_points 1 = .ok (.i2l, 1) := by decide +kernel
theorem dX4_points_2 : decode cX4_points 2 = .ok (.lconst 0, 1) := by decide +kernel
theorem dX4_points_3 : decode cX4_points 3 = .ok (.ldc2_w 94, 3) := by decide +kernel
theorem dX4_points_6 : decode cX4_points 6 = .ok (.invokestatic 84, 3) := by decide +kernel
theorem dX4_points_9 : decode cX4_points 9 = .ok (.ifCond .eq 15, 3) := by decide +kernel
theorem dX4_points_12 : decode cX4_points 12 = .ok (.iload_n 2, 1) := by decide +kernel
theorem dX4_points_13 : decode cX4_points 13 = .ok (.i2l, 1) := by decide +kernel
theorem dX4_points_14 : decode cX4_points 14 = .ok (.lconst 1, 1) := by decide +kernel
theorem dX4_points_15 : decode cX4_points 15 = .ok (.ldc2_w 113, 3) := by decide +kernel
theorem dX4_points_18 : decode cX4_points 18 = .ok (.invokestatic 84, 3) := by decide +kernel
theorem dX4_points_21 : decode cX4_points 21 = .ok (.ifCond .ne 5, 3) := by decide +kernel
theorem dX4_points_24 : decode cX4_points 24 = .ok (.iconst (-1), 1) := by decide +kernel
theorem dX4_points_25 : decode cX4_points 25 = .ok (.ireturn, 1) := by decide +kernel
theorem dX4_points_26 : decode cX4_points 26 = .ok (.aload_n 0, 1) := by decide +kernel
theorem dX4_points_27 : decode cX4_points 27 = .ok (.getfield 32, 3) := by decide +kernel
theorem dX4_points_30 : decode cX4_points 30 = .ok (.iload_n 1, 1) := by decide +kernel
theorem dX4_points_31 : decode cX4_points 31 = .ok (.iaload, 1) := by decide +kernel
theorem dX4_points_32 : decode cX4_points 32 = .ok (.istore_n 3, 1) := by decide +kernel
theorem dX4_points_33 : decode cX4_points 33 = .ok (.aload_n 0, 1) := by decide +kernel
theorem dX4_points_34 : decode cX4_points 34 = .ok (.getfield 32, 3) := by decide +kernel
theorem dX4_points_37 : decode cX4_points 37 = .ok (.iload_n 1, 1) := by decide +kernel
theorem dX4_points_38 : decode cX4_points 38 = .ok (.iload_n 2, 1) := by decide +kernel
theorem dX4_points_39 : decode cX4_points 39 = .ok (.iastore, 1) := by decide +kernel
theorem dX4_points_40 : decode cX4_points 40 = .ok (.aload_n 0, 1) := by decide +kernel
theorem dX4_points_41 : decode cX4_points 41 = .ok (.iconst 0, 1) := by decide +kernel
theorem dX4_points_42 : decode cX4_points 42 = .ok (.putfield 98, 3) := by decide +kernel
theorem dX4_points_45 : decode cX4_points 45 = .ok (.iload_n 3, 1) := by decide +kernel
theorem dX4_points_46 : decode cX4_points 46 = .ok (.ireturn, 1) := by decide +kernel
theorem dX4_input_0 : decode cX4_input 0 = .ok (.iload_n 1, 1) := by decide +kernel
theorem dX4_input_1 : decode cX4_input 1 = .ok (.i2l, 1) := by decide +kernel
theorem dX4_input_2 : decode cX4_input 2 = .ok (.lconst 0, 1) := by decide +kernel
theorem dX4_input_3 : decode cX4_input 3 = .ok (.ldc2_w 94, 3) := by decide +kernel
theorem dX4_input_6 : decode cX4_input 6 = .ok (.invokestatic 84, 3) := by decide +kernel
theorem dX4_input_9 : decode cX4_input 9 = .ok (.ifCond .ne 5, 3) := by decide +kernel
theorem dX4_input_12 : decode cX4_input 12 = .ok (.iconst (-1), 1) := by decide +kernel
theorem dX4_input_13 : decode cX4_input 13 = .ok (.ireturn, 1) := by decide +kernel
theorem dX4_input_14 : decode cX4_input 14 = .ok (.aload_n 0, 1) := by decide +kernel
theorem dX4_input_15 : decode cX4_input 15 = .ok (.getfield 22, 3) := by decide +kernel
theorem dX4_input_18 : decode cX4_input 18 = .ok (.iload_n 1, 1) := by decide +kernel
theorem dX4_input_19 : decode cX4_input 19 = .ok (.iload_n 2, 1) := by decide +kernel
theorem dX4_input_20 : decode cX4_input 20 = .ok (.iastore, 1) := by decide +kernel
theorem dX4_input_21 : decode cX4_input 21 = .ok (.iconst 1, 1) := by decide +kernel
theorem dX4_input_22 : decode cX4_input 22 = .ok (.ireturn, 1) := by decide +kernel
theorem dX4_place_0 : decode cX4_place 0 = .ok (.iload_n 1, 1) := by decide +kernel
theorem dX4_place_1 : decode cX4_place 1 = .ok (.aload_n 0, 1) := by decide +kernel
theorem dX4_place_2 : decode cX4_place 2 = .ok (.getfield 81, 3) := by decide +kernel
theorem dX4_place_5 : decode cX4_place 5 = .ok (.if_icmp .ge 9, 3) := by decide +kernel
theorem dX4_place_8 : decode cX4_place 8 = .ok (.iconst 1, 1) := by decide +kernel
theorem dX4_place_9 : decode cX4_place 9 = .ok (.iload_n 1, 1) := by decide +kernel
theorem dX4_place_10 : decode cX4_place 10 = .ok (.ishl, 1) := by decide +kernel
theorem dX4_place_11 : decode cX4_place 11 = .ok (.goto 5, 3) := by decide +kernel
theorem dX4_place_14 : decode cX4_place 14 = .ok (.ldc 115, 2) := by decide +kernel
theorem dX4_place_16 : decode cX4_place 16 = .ok (.ireturn, 1) := by decide +kernel
theorem dX4_canFail_0 : decode cX4_canFail 0 = .ok (.aload_n 0, 1) := by decide +kernel
theorem dX4_canFail_1 : decode cX4_canFail 1 = .ok (.getfield 7, 3) := by decide +kernel
theorem dX4_canFail_4 : decode cX4_canFail 4 = .ok (.iload_n 1, 1) := by decide +kernel
theorem dX4_canFail_5 : decode cX4_canFail 5 = .ok (.iaload, 1) := by decide +kernel
theorem dX4_canFail_6 : decode cX4_canFail 6 = .ok (.bipush 6, 2) := by decide +kernel
theorem dX4_canFail_8 : decode cX4_canFail 8 = .ok (.if_icmp .eq 39, 3) := by decide +kernel
theorem dX4_canFail_11 : decode cX4_canFail 11 = .ok (.aload_n 0, 1) := by decide +kernel
theorem dX4_canFail_12 : decode cX4_canFail 12 = .ok (.getfield 7, 3) := by decide +kernel
theorem dX4_canFail_15 : decode cX4_canFail 15 = .ok (.iload_n 1, 1) := by decide +kernel
theorem dX4_canFail_16 : decode cX4_canFail 16 = .ok (.iaload, 1) := by decide +kernel
theorem dX4_canFail_17 : decode cX4_canFail 17 = .ok (.bipush 9, 2) := by decide +kernel
theorem dX4_canFail_19 : decode cX4_canFail 19 = .ok (.if_icmp .eq 14, 3) := by decide +kernel
theorem dX4_canFail_22 : decode cX4_canFail 22 = .ok (.aload_n 0, 1) := by decide +kernel
theorem dX4_canFail_23 : decode cX4_canFail 23 = .ok (.getfield 7, 3) := by decide +kernel
theorem dX4_canFail_26 : decode cX4_canFail 26 = .ok (.iload_n 1, 1) := by decide +kernel
theorem dX4_canFail_27 : decode cX4_canFail 27 = .ok (.iaload, 1) := by decide +kernel
theorem dX4_canFail_28 : decode cX4_canFail 28 = .ok (.bipush 10, 2) := by decide +kernel
theorem dX4_canFail_30 : decode cX4_canFail 30 = .ok (.if_icmp .ne 21, 3) := by decide +kernel
theorem dX4_canFail_33 : decode cX4_canFail 33 = .ok (.aload_n 0, 1) := by decide +kernel
theorem dX4_canFail_34 : decode cX4_canFail 34 = .ok (.getfield 28, 3) := by decide +kernel
theorem dX4_canFail_37 : decode cX4_canFail 37 = .ok (.aload_n 0, 1) := by decide +kernel
theorem dX4_canFail_38 : decode cX4_canFail 38 = .ok (.getfield 16, 3) := by decide +kernel
theorem dX4_canFail_41 : decode cX4_canFail 41 = .ok (.iload_n 1, 1) := by decide +kernel
theorem dX4_canFail_42 : decode cX4_canFail 42 = .ok (.iaload, 1) := by decide +kernel
theorem dX4_canFail_43 : decode cX4_canFail 43 = .ok (.baload, 1) := by decide +kernel
theorem dX4_canFail_44 : decode cX4_canFail 44 = .ok (.ifCond .eq 7, 3) := by decide +kernel
theorem dX4_canFail_47 : decode cX4_canFail 47 = .ok (.iconst 1, 1) := by decide +kernel
theorem dX4_canFail_48 : decode cX4_canFail 48 = .ok (.goto 4, 3) := by decide +kernel
theorem dX4_canFail_51 : decode cX4_canFail 51 = .ok (.iconst 0, 1) := by decide +kernel
theorem dX4_canFail_52 : decode cX4_canFail 52 = .ok (.ireturn, 1) := by decide +kernel
theorem dX4_nexts_0 : decode cX4_nexts 0 = .ok (.aload_n 0, 1) := by decide +kernel
theorem dX4_nexts_1 : decode cX4_nexts 1 = .ok (.iload_n 1, 1) := by decide +kernel
theorem dX4_nexts_2 : decode cX4_nexts 2 = .ok (.iconst 1, 1) := by decide +kernel
theorem dX4_nexts_3 : decode cX4_nexts 3 = .ok (.iadd, 1) := by decide +kernel
theorem dX4_nexts_4 : decode cX4_nexts 4 = .ok (.invokevirtual 116, 3) := by decide +kernel
theorem dX4_nexts_7 : decode cX4_nexts 7 = .ok (.istore_n 3, 1) := by decide +kernel
theorem dX4_nexts_8 : decode cX4_nexts 8 = .ok (.aload_n 0, 1) := by decide +kernel
theorem dX4_nexts_9 : decode cX4_nexts 9 = .ok (.getfield 7, 3) := by decide +kernel
theorem dX4_nexts_12 : decode cX4_nexts 12 = .ok (.iload_n 1, 1) := by decide +kernel
theorem dX4_nexts_13 : decode cX4_nexts 13 = .ok (.iaload, 1) := by decide +kernel
theorem dX4_nexts_14 : decode cX4_nexts 14 = .ok (.bipush 12, 2) := by decide +kernel
theorem dX4_nexts_16 : decode cX4_nexts 16 = .ok (.if_icmp .eq 14, 3) := by decide +kernel
theorem dX4_nexts_19 : decode cX4_nexts 19 = .ok (.aload_n 0, 1) := by decide +kernel
theorem dX4_nexts_20 : decode cX4_nexts 20 = .ok (.getfield 7, 3) := by decide +kernel
theorem dX4_nexts_23 : decode cX4_nexts 23 = .ok (.iload_n 1, 1) := by decide +kernel
theorem dX4_nexts_24 : decode cX4_nexts 24 = .ok (.iaload, 1) := by decide +kernel
theorem dX4_nexts_25 : decode cX4_nexts 25 = .ok (.bipush 13, 2) := by decide +kernel
theorem dX4_nexts_27 : decode cX4_nexts 27 = .ok (.if_icmp .ne 45, 3) := by decide +kernel
theorem dX4_nexts_30 : decode cX4_nexts 30 = .ok (.aload_n 0, 1) := by decide +kernel
theorem dX4_nexts_31 : decode cX4_nexts 31 = .ok (.getfield 7, 3) := by decide +kernel
theorem dX4_nexts_34 : decode cX4_nexts 34 = .ok (.iload_n 1, 1) := by decide +kernel
theorem dX4_nexts_35 : decode cX4_nexts 35 = .ok (.iaload, 1) := by decide +kernel
theorem dX4_nexts_36 : decode cX4_nexts 36 = .ok (.bipush 12, 2) := by decide +kernel
theorem dX4_nexts_38 : decode cX4_nexts 38 = .ok (.if_icmp .ne 16, 3) := by decide +kernel
theorem dX4_nexts_41 : decode cX4_nexts 41 = .ok (.aload_n 0, 1) := by decide +kernel
theorem dX4_nexts_42 : decode cX4_nexts 42 = .ok (.aload_n 0, 1) := by decide +kernel
theorem dX4_nexts_43 : decode cX4_nexts 43 = .ok (.getfield 16, 3) := by decide +kernel
theorem dX4_nexts_46 : decode cX4_nexts 46 = .ok (.iload_n 1, 1) := by decide +kernel
theorem dX4_nexts_47 : decode cX4_nexts 47 = .ok (.iaload, 1) := by decide +kernel
theorem dX4_nexts_48 : decode cX4_nexts 48 = .ok (.invokevirtual 116, 3) := by decide +kernel
theorem dX4_nexts_51 : decode cX4_nexts 51 = .ok (.goto 5, 3) := by decide +kernel
theorem dX4_nexts_54 : decode cX4_nexts 54 = .ok (.ldc 115, 2) := by decide +kernel
theorem dX4_nexts_56 : decode cX4_nexts 56 = .ok (.istore 4, 2) := by decide +kernel
theorem dX4_nexts_58 : decode cX4_nexts 58 = .ok (.iload_n 2, 1) := by decide +kernel
theorem dX4_nexts_59 : decode cX4_nexts 59 = .ok (.ifCond .eq 10, 3) := by decide +kernel
theorem dX4_nexts_62 : decode cX4_nexts 62 = .ok (.iload 4, 2) := by decide +kernel
theorem dX4_nexts_64 : decode cX4_nexts 64 = .ok (.iload_n 3, 1) := by decide +kernel
theorem dX4_nexts_65 : decode cX4_nexts 65 = .ok (.ior, 1) := by decide +kernel
theorem dX4_nexts_66 : decode cX4_nexts 66 = .ok (.goto 5, 3) := by decide +kernel
theorem dX4_nexts_69 : decode cX4_nexts 69 = .ok (.iload 4, 2) := by decide +kernel
theorem dX4_nexts_71 : decode cX4_nexts 71 = .ok (.ireturn, 1) := by decide +kernel
theorem dX4_nexts_72 : decode cX4_nexts 72 = .ok (.aload_n 0, 1) := by decide +kernel
theorem dX4_nexts_73 : decode cX4_nexts 73 = .ok (.getfield 7, 3) := by decide +kernel
theorem dX4_nexts_76 : decode cX4_nexts 76 = .ok (.iload_n 1, 1) := by decide +kernel
theorem dX4_nexts_77 : decode cX4_nexts 77 = .ok (.iaload, 1) := by decide +kernel
theorem dX4_nexts_78 : decode cX4_nexts 78 = .ok (.bipush 11, 2) := by decide +kernel
theorem dX4_nexts_80 : decode cX4_nexts 80 = .ok (.if_icmp .ne 18, 3) := by decide +kernel
theorem dX4_nexts_83 : decode cX4_nexts 83 = .ok (.iload_n 3, 1) := by decide +kernel
theorem dX4_nexts_84 : decode cX4_nexts 84 = .ok (.aload_n 0, 1) := by decide +kernel
theorem dX4_nexts_85 : decode cX4_nexts 85 = .ok (.aload_n 0, 1) := by decide +kernel
theorem dX4_nexts_86 : decode cX4_nexts 86 = .ok (.getfield 16, 3) := by decide +kernel
theorem dX4_nexts_89 : decode cX4_nexts 89 = .ok (.iload_n 1, 1) := by decide +kernel
theorem dX4_nexts_90 : decode cX4_nexts 90 = .ok (.iaload, 1) := by decide +kernel
theorem dX4_nexts_91 : decode cX4_nexts 91 = .ok (.invokevirtual 116, 3) := by decide +kernel
theorem dX4_nexts_94 : decode cX4_nexts 94 = .ok (.ior, 1) := by decide +kernel
theorem dX4_nexts_95 : decode cX4_nexts 95 = .ok (.goto 19, 3) := by decide +kernel
theorem dX4_nexts_98 : decode cX4_nexts 98 = .ok (.aload_n 0, 1) := by decide +kernel
theorem dX4_nexts_99 : decode cX4_nexts 99 = .ok (.iload_n 1, 1) := by decide +kernel
theorem dX4_nexts_100 : decode cX4_nexts 100 = .ok (.invokevirtual 120, 3) := by decide +kernel
theorem dX4_nexts_103 : decode cX4_nexts 103 = .ok (.ifCond .eq 10, 3) := by decide +kernel
theorem dX4_nexts_106 : decode cX4_nexts 106 = .ok (.iload_n 3, 1) := by decide +kernel
theorem dX4_nexts_107 : decode cX4_nexts 107 = .ok (.ldc 115, 2) := by decide +kernel
theorem dX4_nexts_109 : decode cX4_nexts 109 = .ok (.ior, 1) := by decide +kernel
theorem dX4_nexts_110 : decode cX4_nexts 110 = .ok (.goto 4, 3) := by decide +kernel
theorem dX4_nexts_113 : decode cX4_nexts 113 = .ok (.iload_n 3, 1) := by decide +kernel
theorem dX4_nexts_114 : decode cX4_nexts 114 = .ok (.ireturn, 1) := by decide +kernel
theorem dX4_reach_0 : decode cX4_reach 0 = .ok (.iload_n 1, 1) := by decide +kernel
theorem dX4_reach_1 : decode cX4_reach 1 = .ok (.iload_n 2, 1) := by decide +kernel
theorem dX4_reach_2 : decode cX4_reach 2 = .ok (.iconst (-1), 1) := by decide +kernel
theorem dX4_reach_3 : decode cX4_reach 3 = .ok (.ixor, 1) := by decide +kernel
theorem dX4_reach_4 : decode cX4_reach 4 = .ok (.iand, 1) := by decide +kernel
theorem dX4_reach_5 : decode cX4_reach 5 = .ok (.istore 4, 2) := by decide +kernel
theorem dX4_reach_7 : decode cX4_reach 7 = .ok (.iconst 0, 1) := by decide +kernel
theorem dX4_reach_8 : decode cX4_reach 8 = .ok (.istore 5, 2) := by decide +kernel
theorem dX4_reach_10 : decode cX4_reach 10 = .ok (.iload 4, 2) := by decide +kernel
theorem dX4_reach_12 : decode cX4_reach 12 = .ok (.iload 5, 2) := by decide +kernel
theorem dX4_reach_14 : decode cX4_reach 14 = .ok (.if_icmp .eq 55, 3) := by decide +kernel
theorem dX4_reach_17 : decode cX4_reach 17 = .ok (.iload 4, 2) := by decide +kernel
theorem dX4_reach_19 : decode cX4_reach 19 = .ok (.istore 5, 2) := by decide +kernel
theorem dX4_reach_21 : decode cX4_reach 21 = .ok (.iconst 0, 1) := by decide +kernel
theorem dX4_reach_22 : decode cX4_reach 22 = .ok (.istore 6, 2) := by decide +kernel
theorem dX4_reach_24 : decode cX4_reach 24 = .ok (.iload 6, 2) := by decide +kernel
theorem dX4_reach_26 : decode cX4_reach 26 = .ok (.aload_n 0, 1) := by decide +kernel
theorem dX4_reach_27 : decode cX4_reach 27 = .ok (.getfield 81, 3) := by decide +kernel
theorem dX4_reach_30 : decode cX4_reach 30 = .ok (.if_icmp .ge 36, 3) := by decide +kernel
theorem dX4_reach_33 : decode cX4_reach 33 = .ok (.iload 4, 2) := by decide +kernel
theorem dX4_reach_35 : decode cX4_reach 35 = .ok (.iload 6, 2) := by decide +kernel
theorem dX4_reach_37 : decode cX4_reach 37 = .ok (.ishr, 1) := by decide +kernel
theorem dX4_reach_38 : decode cX4_reach 38 = .ok (.iconst 1, 1) := by decide +kernel
theorem dX4_reach_39 : decode cX4_reach 39 = .ok (.iand, 1) := by decide +kernel
theorem dX4_reach_40 : decode cX4_reach 40 = .ok (.iconst 1, 1) := by decide +kernel
theorem dX4_reach_41 : decode cX4_reach 41 = .ok (.if_icmp .ne 19, 3) := by decide +kernel
theorem dX4_reach_44 : decode cX4_reach 44 = .ok (.iload 4, 2) := by decide +kernel
theorem dX4_reach_46 : decode cX4_reach 46 = .ok (.aload_n 0, 1) := by decide +kernel
theorem dX4_reach_47 : decode cX4_reach 47 = .ok (.iload 6, 2) := by decide +kernel
theorem dX4_reach_49 : decode cX4_reach 49 = .ok (.iload_n 3, 1) := by decide +kernel
theorem dX4_reach_50 : decode cX4_reach 50 = .ok (.invokevirtual 123, 3) := by decide +kernel
theorem dX4_reach_53 : decode cX4_reach 53 = .ok (.iload_n 2, 1) := by decide +kernel
theorem dX4_reach_54 : decode cX4_reach 54 = .ok (.iconst (-1), 1) := by decide +kernel
theorem dX4_reach_55 : decode cX4_reach 55 = .ok (.ixor, 1) := by decide +kernel
theorem dX4_reach_56 : decode cX4_reach 56 = .ok (.iand, 1) := by decide +kernel
theorem dX4_reach_57 : decode cX4_reach 57 = .ok (.ior, 1) := by decide +kernel
theorem dX4_reach_58 : decode cX4_reach 58 = .ok (.istore 4, 2) := by decide +kernel
theorem dX4_reach_60 : decode cX4_reach 60 = .ok (.iinc 6 1, 3) := by decide +kernel
theorem dX4_reach_63 : decode cX4_reach 63 = .ok (.goto (-39), 3) := by decide +kernel
theorem dX4_reach_66 : decode cX4_reach 66 = .ok (.goto (-56), 3) := by decide +kernel
theorem dX4_reach_69 : decode cX4_reach 69 = .ok (.iload 4, 2) := by decide +kernel
theorem dX4_reach_71 : decode cX4_reach 71 = .ok (.ireturn, 1) := by decide +kernel
theorem dX4_followers_0 : decode cX4_followers 0 = .ok (.iconst 0, 1) := by decide +kernel
theorem dX4_followers_1 : decode cX4_followers 1 = .ok (.istore_n 2, 1) := by decide +kernel
theorem dX4_followers_2 : decode cX4_followers 2 = .ok (.iconst 0, 1) := by decide +kernel
theorem dX4_followers_3 : decode cX4_followers 3 = .ok (.istore_n 3, 1) := by decide +kernel
theorem dX4_followers_4 : decode cX4_followers 4 = .ok (.iload_n 3, 1) := by decide +kernel
theorem dX4_followers_5 : decode cX4_followers 5 = .ok (.aload_n 0, 1) := by decide +kernel
theorem dX4_followers_6 : decode cX4_followers 6 = .ok (.getfield 81, 3) := by decide +kernel
theorem dX4_followers_9 : decode cX4_followers 9 = .ok (.if_icmp .ge 53, 3) := by decide +kernel
theorem dX4_followers_12 : decode cX4_followers 12 = .ok (.aload_n 0, 1) := by decide +kernel
theorem dX4_followers_13 : decode cX4_followers 13 = .ok (.iconst 1, 1) := by decide +kernel
theorem dX4_followers_14 : decode cX4_followers 14 = .ok (.iload_n 1, 1) := by decide +kernel
theorem dX4_followers_15 : decode cX4_followers 15 = .ok (.ishl, 1) := by decide +kernel
theorem dX4_followers_16 : decode cX4_followers 16 = .ok (.iconst 1, 1) := by decide +kernel
theorem dX4_followers_17 : decode cX4_followers 17 = .ok (.iload_n 3, 1) := by decide +kernel
theorem dX4_followers_18 : decode cX4_followers 18 = .ok (.ishl, 1) := by decide +kernel
theorem dX4_followers_19 : decode cX4_followers 19 = .ok (.iconst 1, 1) := by decide +kernel
theorem dX4_followers_20 : decode cX4_followers 20 = .ok (.invokevirtual 127, 3) := by decide +kernel
theorem dX4_followers_23 : decode cX4_followers 23 = .ok (.ldc 115, 2) := by decide +kernel
theorem dX4_followers_25 : decode cX4_followers 25 = .ok (.iand, 1) := by decide +kernel
theorem dX4_followers_26 : decode cX4_followers 26 = .ok (.ifCond .eq 7, 3) := by decide +kernel
theorem dX4_followers_29 : decode cX4_followers 29 = .ok (.iconst 1, 1) := by decide +kernel
theorem dX4_followers_30 : decode cX4_followers 30 = .ok (.goto 4, 3) := by decide +kernel
theorem dX4_followers_33 : decode cX4_followers 33 = .ok (.iconst 0, 1) := by decide +kernel
theorem dX4_followers_34 : decode cX4_followers 34 = .ok (.istore 4, 2) := by decide +kernel
theorem dX4_followers_36 : decode cX4_followers 36 = .ok (.iload_n 3, 1) := by decide +kernel
theorem dX4_followers_37 : decode cX4_followers 37 = .ok (.iload_n 1, 1) := by decide +kernel
theorem dX4_followers_38 : decode cX4_followers 38 = .ok (.if_icmp .eq 16, 3) := by decide +kernel
theorem dX4_followers_41 : decode cX4_followers 41 = .ok (.iload 4, 2) := by decide +kernel
theorem dX4_followers_43 : decode cX4_followers 43 = .ok (.ifCond .ne 11, 3) := by decide +kernel
theorem dX4_followers_46 : decode cX4_followers 46 = .ok (.iload_n 2, 1) := by decide +kernel
theorem dX4_followers_47 : decode cX4_followers 47 = .ok (.iconst 1, 1) := by decide +kernel
theorem dX4_followers_48 : decode cX4_followers 48 = .ok (.iload_n 3, 1) := by decide +kernel
theorem dX4_followers_49 : decode cX4_followers 49 = .ok (.ishl, 1) := by decide +kernel
theorem dX4_followers_50 : decode cX4_followers 50 = .ok (.ior, 1) := by decide +kernel
theorem dX4_followers_51 : decode cX4_followers 51 = .ok (.goto 4, 3) := by decide +kernel
theorem dX4_followers_54 : decode cX4_followers 54 = .ok (.iload_n 2, 1) := by decide +kernel
theorem dX4_followers_55 : decode cX4_followers 55 = .ok (.istore_n 2, 1) := by decide +kernel
theorem dX4_followers_56 : decode cX4_followers 56 = .ok (.iinc 3 1, 3) := by decide +kernel
theorem dX4_followers_59 : decode cX4_followers 59 = .ok (.goto (-55), 3) := by decide +kernel
theorem dX4_followers_62 : decode cX4_followers 62 = .ok (.iload_n 2, 1) := by decide +kernel
theorem dX4_followers_63 : decode cX4_followers 63 = .ok (.ireturn, 1) := by decide +kernel
theorem dX4_follows_0 : decode cX4_follows 0 = .ok (.aload_n 0, 1) := by decide +kernel
theorem dX4_follows_1 : decode cX4_follows 1 = .ok (.iload_n 1, 1) := by decide +kernel
theorem dX4_follows_2 : decode cX4_follows 2 = .ok (.invokevirtual 110, 3) := by decide +kernel
theorem dX4_follows_5 : decode cX4_follows 5 = .ok (.ifCond .eq 11, 3) := by decide +kernel
theorem dX4_follows_8 : decode cX4_follows 8 = .ok (.aload_n 0, 1) := by decide +kernel
theorem dX4_follows_9 : decode cX4_follows 9 = .ok (.iload_n 1, 1) := by decide +kernel
theorem dX4_follows_10 : decode cX4_follows 10 = .ok (.invokevirtual 131, 3) := by decide +kernel
theorem dX4_follows_13 : decode cX4_follows 13 = .ok (.goto 4, 3) := by decide +kernel
theorem dX4_follows_16 : decode cX4_follows 16 = .ok (.iconst (-1), 1) := by decide +kernel
theorem dX4_follows_17 : decode cX4_follows 17 = .ok (.ireturn, 1) := by decide +kernel
theorem dX4_sets_0 : decode cX4_sets 0 = .ok (.aload_n 0, 1) := by decide +kernel
theorem dX4_sets_1 : decode cX4_sets 1 = .ok (.getfield 7, 3) := by decide +kernel
theorem dX4_sets_4 : decode cX4_sets 4 = .ok (.iload_n 1, 1) := by decide +kernel
theorem dX4_sets_5 : decode cX4_sets 5 = .ok (.iaload, 1) := by decide +kernel
theorem dX4_sets_6 : decode cX4_sets 6 = .ok (.istore_n 2, 1) := by decide +kernel
theorem dX4_sets_7 : decode cX4_sets 7 = .ok (.iload_n 2, 1) := by decide +kernel
theorem dX4_sets_8 : decode cX4_sets 8 = .ok (.i2l, 1) := by decide +kernel
theorem dX4_sets_9 : decode cX4_sets 9 = .ok (.lconst 1, 1) := by decide +kernel
theorem dX4_sets_10 : decode cX4_sets 10 = .ok (.ldc2_w 134, 3) := by decide +kernel
theorem dX4_sets_13 : decode cX4_sets 13 = .ok (.invokestatic 84, 3) := by decide +kernel
theorem dX4_sets_16 : decode cX4_sets 16 = .ok (.ifCond .ne 15, 3) := by decide +kernel
theorem dX4_sets_19 : decode cX4_sets 19 = .ok (.iload_n 2, 1) := by decide +kernel
theorem dX4_sets_20 : decode cX4_sets 20 = .ok (.bipush 8, 2) := by decide +kernel
theorem dX4_sets_22 : decode cX4_sets 22 = .ok (.if_icmp .eq 9, 3) := by decide +kernel
theorem dX4_sets_25 : decode cX4_sets 25 = .ok (.iload_n 2, 1) := by decide +kernel
theorem dX4_sets_26 : decode cX4_sets 26 = .ok (.bipush 9, 2) := by decide +kernel
theorem dX4_sets_28 : decode cX4_sets 28 = .ok (.if_icmp .ne 12, 3) := by decide +kernel
theorem dX4_sets_31 : decode cX4_sets 31 = .ok (.aload_n 0, 1) := by decide +kernel
theorem dX4_sets_32 : decode cX4_sets 32 = .ok (.getfield 13, 3) := by decide +kernel
theorem dX4_sets_35 : decode cX4_sets 35 = .ok (.iload_n 1, 1) := by decide +kernel
theorem dX4_sets_36 : decode cX4_sets 36 = .ok (.iaload, 1) := by decide +kernel
theorem dX4_sets_37 : decode cX4_sets 37 = .ok (.goto 5, 3) := by decide +kernel
theorem dX4_sets_40 : decode cX4_sets 40 = .ok (.bipush (-4), 2) := by decide +kernel
theorem dX4_sets_42 : decode cX4_sets 42 = .ok (.ireturn, 1) := by decide +kernel
theorem dX4_reads_0 : decode cX4_reads 0 = .ok (.aload_n 0, 1) := by decide +kernel
theorem dX4_reads_1 : decode cX4_reads 1 = .ok (.getfield 7, 3) := by decide +kernel
theorem dX4_reads_4 : decode cX4_reads 4 = .ok (.iload_n 1, 1) := by decide +kernel
theorem dX4_reads_5 : decode cX4_reads 5 = .ok (.iaload, 1) := by decide +kernel
theorem dX4_reads_6 : decode cX4_reads 6 = .ok (.tableswitch 144 3 11 #[50, 50, 50, 50, 68, 101, 144, 118, 127], 50) := by decide +kernel
theorem dX4_reads_56 : decode cX4_reads 56 = .ok (.iconst 1, 1) := by decide +kernel
theorem dX4_reads_57 : decode cX4_reads 57 = .ok (.aload_n 0, 1) := by decide +kernel
theorem dX4_reads_58 : decode cX4_reads 58 = .ok (.getfield 16, 3) := by decide +kernel
theorem dX4_reads_61 : decode cX4_reads 61 = .ok (.iload_n 1, 1) := by decide +kernel
theorem dX4_reads_62 : decode cX4_reads 62 = .ok (.iaload, 1) := by decide +kernel
theorem dX4_reads_63 : decode cX4_reads 63 = .ok (.ishl, 1) := by decide +kernel
theorem dX4_reads_64 : decode cX4_reads 64 = .ok (.iconst 1, 1) := by decide +kernel
theorem dX4_reads_65 : decode cX4_reads 65 = .ok (.aload_n 0, 1) := by decide +kernel
theorem dX4_reads_66 : decode cX4_reads 66 = .ok (.getfield 19, 3) := by decide +kernel
theorem dX4_reads_69 : decode cX4_reads 69 = .ok (.iload_n 1, 1) := by decide +kernel
theorem dX4_reads_70 : decode cX4_reads 70 = .ok (.iaload, 1) := by decide +kernel
theorem dX4_reads_71 : decode cX4_reads 71 = .ok (.ishl, 1) := by decide +kernel
theorem dX4_reads_72 : decode cX4_reads 72 = .ok (.ior, 1) := by decide +kernel
theorem dX4_reads_73 : decode cX4_reads 73 = .ok (.ireturn, 1) := by decide +kernel
theorem dX4_reads_74 : decode cX4_reads 74 = .ok (.iload_n 2, 1) := by decide +kernel
theorem dX4_reads_75 : decode cX4_reads 75 = .ok (.ifCond .eq 14, 3) := by decide +kernel
theorem dX4_reads_78 : decode cX4_reads 78 = .ok (.iconst 1, 1) := by decide +kernel
theorem dX4_reads_79 : decode cX4_reads 79 = .ok (.aload_n 0, 1) := by decide +kernel
theorem dX4_reads_80 : decode cX4_reads 80 = .ok (.getfield 13, 3) := by decide +kernel
theorem dX4_reads_83 : decode cX4_reads 83 = .ok (.iload_n 1, 1) := by decide +kernel
theorem dX4_reads_84 : decode cX4_reads 84 = .ok (.iaload, 1) := by decide +kernel
theorem dX4_reads_85 : decode cX4_reads 85 = .ok (.ishl, 1) := by decide +kernel
theorem dX4_reads_86 : decode cX4_reads 86 = .ok (.goto 20, 3) := by decide +kernel
theorem dX4_reads_89 : decode cX4_reads 89 = .ok (.iconst 1, 1) := by decide +kernel
theorem dX4_reads_90 : decode cX4_reads 90 = .ok (.aload_n 0, 1) := by decide +kernel
theorem dX4_reads_91 : decode cX4_reads 91 = .ok (.getfield 13, 3) := by decide +kernel
theorem dX4_reads_94 : decode cX4_reads 94 = .ok (.iload_n 1, 1) := by decide +kernel
theorem dX4_reads_95 : decode cX4_reads 95 = .ok (.iaload, 1) := by decide +kernel
theorem dX4_reads_96 : decode cX4_reads 96 = .ok (.ishl, 1) := by decide +kernel
theorem dX4_reads_97 : decode cX4_reads 97 = .ok (.iconst 1, 1) := by decide +kernel
theorem dX4_reads_98 : decode cX4_reads 98 = .ok (.aload_n 0, 1) := by decide +kernel
theorem dX4_reads_99 : decode cX4_reads 99 = .ok (.getfield 16, 3) := by decide +kernel
theorem dX4_reads_102 : decode cX4_reads 102 = .ok (.iload_n 1, 1) := by decide +kernel
theorem dX4_reads_103 : decode cX4_reads 103 = .ok (.iaload, 1) := by decide +kernel
theorem dX4_reads_104 : decode cX4_reads 104 = .ok (.ishl, 1) := by decide +kernel
theorem dX4_reads_105 : decode cX4_reads 105 = .ok (.ior, 1) := by decide +kernel
theorem dX4_reads_106 : decode cX4_reads 106 = .ok (.ireturn, 1) := by decide +kernel
theorem dX4_reads_107 : decode cX4_reads 107 = .ok (.iload_n 2, 1) := by decide +kernel
theorem dX4_reads_108 : decode cX4_reads 108 = .ok (.ifCond .eq 7, 3) := by decide +kernel
theorem dX4_reads_111 : decode cX4_reads 111 = .ok (.iconst 0, 1) := by decide +kernel
theorem dX4_reads_112 : decode cX4_reads 112 = .ok (.goto 11, 3) := by decide +kernel
theorem dX4_reads_115 : decode cX4_reads 115 = .ok (.iconst 1, 1) := by decide +kernel
theorem dX4_reads_116 : decode cX4_reads 116 = .ok (.aload_n 0, 1) := by decide +kernel
theorem dX4_reads_117 : decode cX4_reads 117 = .ok (.getfield 16, 3) := by decide +kernel
theorem dX4_reads_120 : decode cX4_reads 120 = .ok (.iload_n 1, 1) := by decide +kernel
theorem dX4_reads_121 : decode cX4_reads 121 = .ok (.iaload, 1) := by decide +kernel
theorem dX4_reads_122 : decode cX4_reads 122 = .ok (.ishl, 1) := by decide +kernel
theorem dX4_reads_123 : decode cX4_reads 123 = .ok (.ireturn, 1) := by decide +kernel
theorem dX4_reads_124 : decode cX4_reads 124 = .ok (.iconst 1, 1) := by decide +kernel
theorem dX4_reads_125 : decode cX4_reads 125 = .ok (.aload_n 0, 1) := by decide +kernel
theorem dX4_reads_126 : decode cX4_reads 126 = .ok (.getfield 13, 3) := by decide +kernel
