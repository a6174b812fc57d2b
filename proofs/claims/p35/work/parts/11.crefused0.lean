theorem dL_refused_0 : decode cL_refused 0 = .ok (.aload_n 0, 1) := by decide +kernel
theorem dL_refused_1 : decode cL_refused 1 = .ok (.invokestatic 65, 3) := by decide +kernel
theorem dL_refused_4 : decode cL_refused 4 = .ok (.aload_n 0, 1) := by decide +kernel
theorem dL_refused_5 : decode cL_refused 5 = .ok (.bipush 19, 2) := by decide +kernel
theorem dL_refused_7 : decode cL_refused 7 = .ok (.invokevirtual 36, 3) := by decide +kernel
theorem dL_refused_10 : decode cL_refused 10 = .ok (.i2l, 1) := by decide +kernel
theorem dL_refused_11 : decode cL_refused 11 = .ok (.invokestatic 22, 3) := by decide +kernel
theorem dL_refused_14 : decode cL_refused 14 = .ok (.aload_n 0, 1) := by decide +kernel
theorem dL_refused_15 : decode cL_refused 15 = .ok (.bipush 20, 2) := by decide +kernel
theorem dL_refused_17 : decode cL_refused 17 = .ok (.invokevirtual 36, 3) := by decide +kernel
theorem dL_refused_20 : decode cL_refused 20 = .ok (.i2l, 1) := by decide +kernel
theorem dL_refused_21 : decode cL_refused 21 = .ok (.invokestatic 22, 3) := by decide +kernel
theorem dL_refused_24 : decode cL_refused 24 = .ok (.lstore_n 1, 1) := by decide +kernel
theorem dL_refused_25 : decode cL_refused 25 = .ok (.iconst 0, 1) := by decide +kernel
theorem dL_refused_26 : decode cL_refused 26 = .ok (.istore_n 3, 1) := by decide +kernel
theorem dL_refused_27 : decode cL_refused 27 = .ok (.iload_n 3, 1) := by decide +kernel
theorem dL_refused_28 : decode cL_refused 28 = .ok (.iconst 2, 1) := by decide +kernel
theorem dL_refused_29 : decode cL_refused 29 = .ok (.if_icmp .ge 791, 3) := by decide +kernel
theorem dL_refused_32 : decode cL_refused 32 = .ok (.iload_n 3, 1) := by decide +kernel
theorem dL_refused_33 : decode cL_refused 33 = .ok (.ifCond .ne 7, 3) := by decide +kernel
theorem dL_refused_36 : decode cL_refused 36 = .ok (.iconst 2, 1) := by decide +kernel
theorem dL_refused_37 : decode cL_refused 37 = .ok (.goto 4, 3) := by decide +kernel
theorem dL_refused_40 : decode cL_refused 40 = .ok (.iconst (-1), 1) := by decide +kernel
theorem dL_refused_41 : decode cL_refused 41 = .ok (.istore 4, 2) := by decide +kernel
theorem dL_refused_43 : decode cL_refused 43 = .ok (.iload_n 3, 1) := by decide +kernel
theorem dL_refused_44 : decode cL_refused 44 = .ok (.ifCond .ne 11, 3) := by decide +kernel
theorem dL_refused_47 : decode cL_refused 47 = .ok (.aload_n 0, 1) := by decide +kernel
theorem dL_refused_48 : decode cL_refused 48 = .ok (.iconst 1, 1) := by decide +kernel
theorem dL_refused_49 : decode cL_refused 49 = .ok (.invokevirtual 36, 3) := by decide +kernel
theorem dL_refused_52 : decode cL_refused 52 = .ok (.goto 4, 3) := by decide +kernel
theorem dL_refused_55 : decode cL_refused 55 = .ok (.iconst (-1), 1) := by decide +kernel
theorem dL_refused_56 : decode cL_refused 56 = .ok (.istore 5, 2) := by decide +kernel
theorem dL_refused_58 : decode cL_refused 58 = .ok (.iload_n 3, 1) := by decide +kernel
theorem dL_refused_59 : decode cL_refused 59 = .ok (.ifCond .ne 12, 3) := by decide +kernel
theorem dL_refused_62 : decode cL_refused 62 = .ok (.aload_n 0, 1) := by decide +kernel
theorem dL_refused_63 : decode cL_refused 63 = .ok (.iconst 0, 1) := by decide +kernel
theorem dL_refused_64 : decode cL_refused 64 = .ok (.iconst 4, 1) := by decide +kernel
theorem dL_refused_65 : decode cL_refused 65 = .ok (.invokevirtual 13, 3) := by decide +kernel
theorem dL_refused_68 : decode cL_refused 68 = .ok (.goto 4, 3) := by decide +kernel
theorem dL_refused_71 : decode cL_refused 71 = .ok (.iconst (-1), 1) := by decide +kernel
theorem dL_refused_72 : decode cL_refused 72 = .ok (.istore 6, 2) := by decide +kernel
theorem dL_refused_74 : decode cL_refused 74 = .ok (.aload_n 0, 1) := by decide +kernel
theorem dL_refused_75 : decode cL_refused 75 = .ok (.iload 4, 2) := by decide +kernel
theorem dL_refused_77 : decode cL_refused 77 = .ok (.iconst 1, 1) := by decide +kernel
theorem dL_refused_78 : decode cL_refused 78 = .ok (.invokevirtual 59, 3) := by decide +kernel
theorem dL_refused_81 : decode cL_refused 81 = .ok (.iconst (-1), 1) := by decide +kernel
theorem dL_refused_82 : decode cL_refused 82 = .ok (.if_icmp .ne 59, 3) := by decide +kernel
theorem dL_refused_85 : decode cL_refused 85 = .ok (.aload_n 0, 1) := by decide +kernel
theorem dL_refused_86 : decode cL_refused 86 = .ok (.iload 4, 2) := by decide +kernel
theorem dL_refused_88 : decode cL_refused 88 = .ok (.iconst (-1), 1) := by decide +kernel
theorem dL_refused_89 : decode cL_refused 89 = .ok (.invokevirtual 62, 3) := by decide +kernel
theorem dL_refused_92 : decode cL_refused 92 = .ok (.iconst (-1), 1) := by decide +kernel
theorem dL_refused_93 : decode cL_refused 93 = .ok (.if_icmp .ne 48, 3) := by decide +kernel
theorem dL_refused_96 : decode cL_refused 96 = .ok (.aload_n 0, 1) := by decide +kernel
theorem dL_refused_97 : decode cL_refused 97 = .ok (.iload 4, 2) := by decide +kernel
theorem dL_refused_99 : decode cL_refused 99 = .ok (.bipush 11, 2) := by decide +kernel
theorem dL_refused_101 : decode cL_refused 101 = .ok (.invokevirtual 69, 3) := by decide +kernel
theorem dL_refused_104 : decode cL_refused 104 = .ok (.iconst (-1), 1) := by decide +kernel
theorem dL_refused_105 : decode cL_refused 105 = .ok (.if_icmp .ne 36, 3) := by decide +kernel
theorem dL_refused_108 : decode cL_refused 108 = .ok (.aload_n 0, 1) := by decide +kernel
theorem dL_refused_109 : decode cL_refused 109 = .ok (.iload 4, 2) := by decide +kernel
theorem dL_refused_111 : decode cL_refused 111 = .ok (.invokevirtual 72, 3) := by decide +kernel
theorem dL_refused_114 : decode cL_refused 114 = .ok (.iconst (-1), 1) := by decide +kernel
theorem dL_refused_115 : decode cL_refused 115 = .ok (.if_icmp .ne 26, 3) := by decide +kernel
theorem dL_refused_118 : decode cL_refused 118 = .ok (.aload_n 0, 1) := by decide +kernel
theorem dL_refused_119 : decode cL_refused 119 = .ok (.iload 4, 2) := by decide +kernel
theorem dL_refused_121 : decode cL_refused 121 = .ok (.bipush 9, 2) := by decide +kernel
theorem dL_refused_123 : decode cL_refused 123 = .ok (.invokevirtual 13, 3) := by decide +kernel
theorem dL_refused_126 : decode cL_refused 126 = .ok (.iconst (-1), 1) := by decide +kernel
theorem dL_refused_127 : decode cL_refused 127 = .ok (.if_icmp .ne 14, 3) := by decide +kernel
theorem dL_refused_130 : decode cL_refused 130 = .ok (.aload_n 0, 1) := by decide +kernel
theorem dL_refused_131 : decode cL_refused 131 = .ok (.iload 4, 2) := by decide +kernel
theorem dL_refused_133 : decode cL_refused 133 = .ok (.iconst (-1), 1) := by decide +kernel
theorem dL_refused_134 : decode cL_refused 134 = .ok (.invokevirtual 40, 3) := by decide +kernel
theorem dL_refused_137 : decode cL_refused 137 = .ok (.iconst (-1), 1) := by decide +kernel
theorem dL_refused_138 : decode cL_refused 138 = .ok (.if_icmp .eq 5, 3) := by decide +kernel
theorem dL_refused_141 : decode cL_refused 141 = .ok (.iconst 0, 1) := by decide +kernel
theorem dL_refused_142 : decode cL_refused 142 = .ok (.ireturn, 1) := by decide +kernel
theorem dL_refused_143 : decode cL_refused 143 = .ok (.aload_n 0, 1) := by decide +kernel
theorem dL_refused_144 : decode cL_refused 144 = .ok (.iconst 0, 1) := by decide +kernel
theorem dL_refused_145 : decode cL_refused 145 = .ok (.bipush 25, 2) := by decide +kernel
theorem dL_refused_147 : decode cL_refused 147 = .ok (.bipush 24, 2) := by decide +kernel
theorem dL_refused_149 : decode cL_refused 149 = .ok (.iload_n 3, 1) := by decide +kernel
theorem dL_refused_150 : decode cL_refused 150 = .ok (.imul, 1) := by decide +kernel
theorem dL_refused_151 : decode cL_refused 151 = .ok (.isub, 1) := by decide +kernel
theorem dL_refused_152 : decode cL_refused 152 = .ok (.invokevirtual 59, 3) := by decide +kernel
theorem dL_refused_155 : decode cL_refused 155 = .ok (.bipush (-2), 2) := by decide +kernel
theorem dL_refused_157 : decode cL_refused 157 = .ok (.if_icmp .ne 85, 3) := by decide +kernel
theorem dL_refused_160 : decode cL_refused 160 = .ok (.aload_n 0, 1) := by decide +kernel
theorem dL_refused_161 : decode cL_refused 161 = .ok (.iconst 0, 1) := by decide +kernel
theorem dL_refused_162 : decode cL_refused 162 = .ok (.iload_n 3, 1) := by decide +kernel
theorem dL_refused_163 : decode cL_refused 163 = .ok (.ifCond .ne 12, 3) := by decide +kernel
theorem dL_refused_166 : decode cL_refused 166 = .ok (.aload_n 0, 1) := by decide +kernel
theorem dL_refused_167 : decode cL_refused 167 = .ok (.iconst 0, 1) := by decide +kernel
theorem dL_refused_168 : decode cL_refused 168 = .ok (.iconst 0, 1) := by decide +kernel
theorem dL_refused_169 : decode cL_refused 169 = .ok (.invokevirtual 13, 3) := by decide +kernel
theorem dL_refused_172 : decode cL_refused 172 = .ok (.goto 4, 3) := by decide +kernel
theorem dL_refused_175 : decode cL_refused 175 = .ok (.iconst (-1), 1) := by decide +kernel
theorem dL_refused_176 : decode cL_refused 176 = .ok (.invokevirtual 62, 3) := by decide +kernel
theorem dL_refused_179 : decode cL_refused 179 = .ok (.bipush (-2), 2) := by decide +kernel
theorem dL_refused_181 : decode cL_refused 181 = .ok (.if_icmp .ne 61, 3) := by decide +kernel
theorem dL_refused_184 : decode cL_refused 184 = .ok (.aload_n 0, 1) := by decide +kernel
theorem dL_refused_185 : decode cL_refused 185 = .ok (.iconst 1, 1) := by decide +kernel
theorem dL_refused_186 : decode cL_refused 186 = .ok (.bipush 11, 2) := by decide +kernel
theorem dL_refused_188 : decode cL_refused 188 = .ok (.bipush 22, 2) := by decide +kernel
theorem dL_refused_190 : decode cL_refused 190 = .ok (.iload_n 3, 1) := by decide +kernel
theorem dL_refused_191 : decode cL_refused 191 = .ok (.imul, 1) := by decide +kernel
theorem dL_refused_192 : decode cL_refused 192 = .ok (.isub, 1) := by decide +kernel
theorem dL_refused_193 : decode cL_refused 193 = .ok (.invokevirtual 69, 3) := by decide +kernel
theorem dL_refused_196 : decode cL_refused 196 = .ok (.bipush (-2), 2) := by decide +kernel
theorem dL_refused_198 : decode cL_refused 198 = .ok (.if_icmp .ne 44, 3) := by decide +kernel
theorem dL_refused_201 : decode cL_refused 201 = .ok (.aload_n 0, 1) := by decide +kernel
theorem dL_refused_202 : decode cL_refused 202 = .ok (.iconst 0, 1) := by decide +kernel
theorem dL_refused_203 : decode cL_refused 203 = .ok (.bipush 9, 2) := by decide +kernel
theorem dL_refused_205 : decode cL_refused 205 = .ok (.bipush 10, 2) := by decide +kernel
theorem dL_refused_207 : decode cL_refused 207 = .ok (.iload_n 3, 1) := by decide +kernel
theorem dL_refused_208 : decode cL_refused 208 = .ok (.imul, 1) := by decide +kernel
theorem dL_refused_209 : decode cL_refused 209 = .ok (.isub, 1) := by decide +kernel
theorem dL_refused_210 : decode cL_refused 210 = .ok (.invokevirtual 13, 3) := by decide +kernel
theorem dL_refused_213 : decode cL_refused 213 = .ok (.bipush (-2), 2) := by decide +kernel
theorem dL_refused_215 : decode cL_refused 215 = .ok (.if_icmp .ne 27, 3) := by decide +kernel
theorem dL_refused_218 : decode cL_refused 218 = .ok (.aload_n 0, 1) := by decide +kernel
theorem dL_refused_219 : decode cL_refused 219 = .ok (.iconst 0, 1) := by decide +kernel
theorem dL_refused_220 : decode cL_refused 220 = .ok (.iload_n 3, 1) := by decide +kernel
theorem dL_refused_221 : decode cL_refused 221 = .ok (.ifCond .ne 12, 3) := by decide +kernel
theorem dL_refused_224 : decode cL_refused 224 = .ok (.aload_n 0, 1) := by decide +kernel
theorem dL_refused_225 : decode cL_refused 225 = .ok (.iconst 0, 1) := by decide +kernel
theorem dL_refused_226 : decode cL_refused 226 = .ok (.iconst 0, 1) := by decide +kernel
theorem dL_refused_227 : decode cL_refused 227 = .ok (.invokevirtual 13, 3) := by decide +kernel
