theorem dL_pauses_0 : decode cL_pauses 0 = .ok (.invokestatic 193, 3) := by decide +kernel
theorem dL_pauses_3 : decode cL_pauses 3 = .ok (.astore_n 0, 1) := by decide +kernel
theorem dL_pauses_4 : decode cL_pauses 4 = .ok (.aload_n 0, 1) := by decide +kernel
theorem dL_pauses_5 : decode cL_pauses 5 = .ok (.iconst 0, 1) := by decide +kernel
theorem dL_pauses_6 : decode cL_pauses 6 = .ok (.bipush 10, 2) := by decide +kernel
theorem dL_pauses_8 : decode cL_pauses 8 = .ok (.invokevirtual 69, 3) := by decide +kernel
theorem dL_pauses_11 : decode cL_pauses 11 = .ok (.bipush 10, 2) := by decide +kernel
theorem dL_pauses_13 : decode cL_pauses 13 = .ok (.if_icmp .ne 77, 3) := by decide +kernel
theorem dL_pauses_16 : decode cL_pauses 16 = .ok (.aload_n 0, 1) := by decide +kernel
theorem dL_pauses_17 : decode cL_pauses 17 = .ok (.iconst 0, 1) := by decide +kernel
theorem dL_pauses_18 : decode cL_pauses 18 = .ok (.iconst 1, 1) := by decide +kernel
theorem dL_pauses_19 : decode cL_pauses 19 = .ok (.invokevirtual 100, 3) := by decide +kernel
theorem dL_pauses_22 : decode cL_pauses 22 = .ok (.bipush (-5), 2) := by decide +kernel
theorem dL_pauses_24 : decode cL_pauses 24 = .ok (.if_icmp .ne 66, 3) := by decide +kernel
theorem dL_pauses_27 : decode cL_pauses 27 = .ok (.aload_n 0, 1) := by decide +kernel
theorem dL_pauses_28 : decode cL_pauses 28 = .ok (.bipush 7, 2) := by decide +kernel
theorem dL_pauses_30 : decode cL_pauses 30 = .ok (.iconst 2, 1) := by decide +kernel
theorem dL_pauses_31 : decode cL_pauses 31 = .ok (.iconst 0, 1) := by decide +kernel
theorem dL_pauses_32 : decode cL_pauses 32 = .ok (.iconst 1, 1) := by decide +kernel
theorem dL_pauses_33 : decode cL_pauses 33 = .ok (.iconst 2, 1) := by decide +kernel
theorem dL_pauses_34 : decode cL_pauses 34 = .ok (.invokevirtual 96, 3) := by decide +kernel
theorem dL_pauses_37 : decode cL_pauses 37 = .ok (.ifCond .ne 53, 3) := by decide +kernel
theorem dL_pauses_40 : decode cL_pauses 40 = .ok (.aload_n 0, 1) := by decide +kernel
theorem dL_pauses_41 : decode cL_pauses 41 = .ok (.iconst 0, 1) := by decide +kernel
theorem dL_pauses_42 : decode cL_pauses 42 = .ok (.iconst 5, 1) := by decide +kernel
theorem dL_pauses_43 : decode cL_pauses 43 = .ok (.invokevirtual 47, 3) := by decide +kernel
theorem dL_pauses_46 : decode cL_pauses 46 = .ok (.bipush 40, 2) := by decide +kernel
theorem dL_pauses_48 : decode cL_pauses 48 = .ok (.if_icmp .ne 42, 3) := by decide +kernel
theorem dL_pauses_51 : decode cL_pauses 51 = .ok (.aload_n 0, 1) := by decide +kernel
theorem dL_pauses_52 : decode cL_pauses 52 = .ok (.iconst 0, 1) := by decide +kernel
theorem dL_pauses_53 : decode cL_pauses 53 = .ok (.iconst 0, 1) := by decide +kernel
theorem dL_pauses_54 : decode cL_pauses 54 = .ok (.invokevirtual 109, 3) := by decide +kernel
theorem dL_pauses_57 : decode cL_pauses 57 = .ok (.bipush 6, 2) := by decide +kernel
theorem dL_pauses_59 : decode cL_pauses 59 = .ok (.if_icmp .ne 31, 3) := by decide +kernel
theorem dL_pauses_62 : decode cL_pauses 62 = .ok (.aload_n 0, 1) := by decide +kernel
theorem dL_pauses_63 : decode cL_pauses 63 = .ok (.iconst 0, 1) := by decide +kernel
theorem dL_pauses_64 : decode cL_pauses 64 = .ok (.iconst 1, 1) := by decide +kernel
theorem dL_pauses_65 : decode cL_pauses 65 = .ok (.invokevirtual 109, 3) := by decide +kernel
theorem dL_pauses_68 : decode cL_pauses 68 = .ok (.iconst 3, 1) := by decide +kernel
theorem dL_pauses_69 : decode cL_pauses 69 = .ok (.if_icmp .ne 21, 3) := by decide +kernel
theorem dL_pauses_72 : decode cL_pauses 72 = .ok (.aload_n 0, 1) := by decide +kernel
theorem dL_pauses_73 : decode cL_pauses 73 = .ok (.iconst 0, 1) := by decide +kernel
theorem dL_pauses_74 : decode cL_pauses 74 = .ok (.iconst 2, 1) := by decide +kernel
theorem dL_pauses_75 : decode cL_pauses 75 = .ok (.invokevirtual 109, 3) := by decide +kernel
theorem dL_pauses_78 : decode cL_pauses 78 = .ok (.ifCond .ne 12, 3) := by decide +kernel
theorem dL_pauses_81 : decode cL_pauses 81 = .ok (.aload_n 0, 1) := by decide +kernel
theorem dL_pauses_82 : decode cL_pauses 82 = .ok (.iconst 0, 1) := by decide +kernel
theorem dL_pauses_83 : decode cL_pauses 83 = .ok (.iconst 3, 1) := by decide +kernel
theorem dL_pauses_84 : decode cL_pauses 84 = .ok (.invokevirtual 109, 3) := by decide +kernel
theorem dL_pauses_87 : decode cL_pauses 87 = .ok (.ifCond .eq 5, 3) := by decide +kernel
theorem dL_pauses_90 : decode cL_pauses 90 = .ok (.iconst 0, 1) := by decide +kernel
theorem dL_pauses_91 : decode cL_pauses 91 = .ok (.ireturn, 1) := by decide +kernel
theorem dL_pauses_92 : decode cL_pauses 92 = .ok (.aload_n 0, 1) := by decide +kernel
theorem dL_pauses_93 : decode cL_pauses 93 = .ok (.iconst 2, 1) := by decide +kernel
theorem dL_pauses_94 : decode cL_pauses 94 = .ok (.invokevirtual 81, 3) := by decide +kernel
theorem dL_pauses_97 : decode cL_pauses 97 = .ok (.ifCond .ne 111, 3) := by decide +kernel
theorem dL_pauses_100 : decode cL_pauses 100 = .ok (.aload_n 0, 1) := by decide +kernel
theorem dL_pauses_101 : decode cL_pauses 101 = .ok (.iconst 0, 1) := by decide +kernel
theorem dL_pauses_102 : decode cL_pauses 102 = .ok (.iconst 4, 1) := by decide +kernel
theorem dL_pauses_103 : decode cL_pauses 103 = .ok (.invokevirtual 47, 3) := by decide +kernel
theorem dL_pauses_106 : decode cL_pauses 106 = .ok (.iconst 1, 1) := by decide +kernel
theorem dL_pauses_107 : decode cL_pauses 107 = .ok (.if_icmp .ne 101, 3) := by decide +kernel
theorem dL_pauses_110 : decode cL_pauses 110 = .ok (.aload_n 0, 1) := by decide +kernel
theorem dL_pauses_111 : decode cL_pauses 111 = .ok (.iconst 1, 1) := by decide +kernel
theorem dL_pauses_112 : decode cL_pauses 112 = .ok (.invokevirtual 81, 3) := by decide +kernel
theorem dL_pauses_115 : decode cL_pauses 115 = .ok (.ifCond .ne 93, 3) := by decide +kernel
theorem dL_pauses_118 : decode cL_pauses 118 = .ok (.aload_n 0, 1) := by decide +kernel
theorem dL_pauses_119 : decode cL_pauses 119 = .ok (.iconst 0, 1) := by decide +kernel
theorem dL_pauses_120 : decode cL_pauses 120 = .ok (.bipush 6, 2) := by decide +kernel
theorem dL_pauses_122 : decode cL_pauses 122 = .ok (.invokevirtual 47, 3) := by decide +kernel
theorem dL_pauses_125 : decode cL_pauses 125 = .ok (.bipush 6, 2) := by decide +kernel
theorem dL_pauses_127 : decode cL_pauses 127 = .ok (.if_icmp .ne 81, 3) := by decide +kernel
theorem dL_pauses_130 : decode cL_pauses 130 = .ok (.aload_n 0, 1) := by decide +kernel
theorem dL_pauses_131 : decode cL_pauses 131 = .ok (.bipush 13, 2) := by decide +kernel
theorem dL_pauses_133 : decode cL_pauses 133 = .ok (.invokevirtual 36, 3) := by decide +kernel
theorem dL_pauses_136 : decode cL_pauses 136 = .ok (.bipush 40, 2) := by decide +kernel
theorem dL_pauses_138 : decode cL_pauses 138 = .ok (.if_icmp .ne 70, 3) := by decide +kernel
theorem dL_pauses_141 : decode cL_pauses 141 = .ok (.aload_n 0, 1) := by decide +kernel
theorem dL_pauses_142 : decode cL_pauses 142 = .ok (.iconst 0, 1) := by decide +kernel
theorem dL_pauses_143 : decode cL_pauses 143 = .ok (.bipush 7, 2) := by decide +kernel
theorem dL_pauses_145 : decode cL_pauses 145 = .ok (.invokevirtual 13, 3) := by decide +kernel
theorem dL_pauses_148 : decode cL_pauses 148 = .ok (.iconst 3, 1) := by decide +kernel
theorem dL_pauses_149 : decode cL_pauses 149 = .ok (.if_icmp .ne 59, 3) := by decide +kernel
theorem dL_pauses_152 : decode cL_pauses 152 = .ok (.aload_n 0, 1) := by decide +kernel
theorem dL_pauses_153 : decode cL_pauses 153 = .ok (.iconst 0, 1) := by decide +kernel
theorem dL_pauses_154 : decode cL_pauses 154 = .ok (.iconst 1, 1) := by decide +kernel
theorem dL_pauses_155 : decode cL_pauses 155 = .ok (.invokevirtual 13, 3) := by decide +kernel
theorem dL_pauses_158 : decode cL_pauses 158 = .ok (.ifCond .ne 50, 3) := by decide +kernel
theorem dL_pauses_161 : decode cL_pauses 161 = .ok (.aload_n 0, 1) := by decide +kernel
theorem dL_pauses_162 : decode cL_pauses 162 = .ok (.iconst 1, 1) := by decide +kernel
theorem dL_pauses_163 : decode cL_pauses 163 = .ok (.iconst 1, 1) := by decide +kernel
theorem dL_pauses_164 : decode cL_pauses 164 = .ok (.invokevirtual 13, 3) := by decide +kernel
theorem dL_pauses_167 : decode cL_pauses 167 = .ok (.iconst 3, 1) := by decide +kernel
theorem dL_pauses_168 : decode cL_pauses 168 = .ok (.if_icmp .ne 40, 3) := by decide +kernel
theorem dL_pauses_171 : decode cL_pauses 171 = .ok (.aload_n 0, 1) := by decide +kernel
theorem dL_pauses_172 : decode cL_pauses 172 = .ok (.iconst 0, 1) := by decide +kernel
theorem dL_pauses_173 : decode cL_pauses 173 = .ok (.bipush 6, 2) := by decide +kernel
theorem dL_pauses_175 : decode cL_pauses 175 = .ok (.bipush (-5), 2) := by decide +kernel
theorem dL_pauses_177 : decode cL_pauses 177 = .ok (.iconst (-1), 1) := by decide +kernel
theorem dL_pauses_178 : decode cL_pauses 178 = .ok (.iconst 2, 1) := by decide +kernel
theorem dL_pauses_179 : decode cL_pauses 179 = .ok (.invokestatic 197, 3) := by decide +kernel
theorem dL_pauses_182 : decode cL_pauses 182 = .ok (.ifCond .eq 26, 3) := by decide +kernel
theorem dL_pauses_185 : decode cL_pauses 185 = .ok (.aload_n 0, 1) := by decide +kernel
theorem dL_pauses_186 : decode cL_pauses 186 = .ok (.iconst 0, 1) := by decide +kernel
theorem dL_pauses_187 : decode cL_pauses 187 = .ok (.iconst 3, 1) := by decide +kernel
theorem dL_pauses_188 : decode cL_pauses 188 = .ok (.invokevirtual 53, 3) := by decide +kernel
theorem dL_pauses_191 : decode cL_pauses 191 = .ok (.bipush (-5), 2) := by decide +kernel
theorem dL_pauses_193 : decode cL_pauses 193 = .ok (.if_icmp .ne 15, 3) := by decide +kernel
theorem dL_pauses_196 : decode cL_pauses 196 = .ok (.aload_n 0, 1) := by decide +kernel
theorem dL_pauses_197 : decode cL_pauses 197 = .ok (.iconst 1, 1) := by decide +kernel
theorem dL_pauses_198 : decode cL_pauses 198 = .ok (.iconst 4, 1) := by decide +kernel
theorem dL_pauses_199 : decode cL_pauses 199 = .ok (.iconst 0, 1) := by decide +kernel
theorem dL_pauses_200 : decode cL_pauses 200 = .ok (.iconst 0, 1) := by decide +kernel
theorem dL_pauses_201 : decode cL_pauses 201 = .ok (.iconst 2, 1) := by decide +kernel
theorem dL_pauses_202 : decode cL_pauses 202 = .ok (.invokestatic 197, 3) := by decide +kernel
theorem dL_pauses_205 : decode cL_pauses 205 = .ok (.ifCond .ne 5, 3) := by decide +kernel
theorem dL_pauses_208 : decode cL_pauses 208 = .ok (.iconst 0, 1) := by decide +kernel
theorem dL_pauses_209 : decode cL_pauses 209 = .ok (.ireturn, 1) := by decide +kernel
theorem dL_pauses_210 : decode cL_pauses 210 = .ok (.aload_n 0, 1) := by decide +kernel
theorem dL_pauses_211 : decode cL_pauses 211 = .ok (.iconst 1, 1) := by decide +kernel
theorem dL_pauses_212 : decode cL_pauses 212 = .ok (.iconst 2, 1) := by decide +kernel
theorem dL_pauses_213 : decode cL_pauses 213 = .ok (.iconst 0, 1) := by decide +kernel
theorem dL_pauses_214 : decode cL_pauses 214 = .ok (.iconst 1, 1) := by decide +kernel
theorem dL_pauses_215 : decode cL_pauses 215 = .ok (.bipush 9, 2) := by decide +kernel
theorem dL_pauses_217 : decode cL_pauses 217 = .ok (.invokevirtual 96, 3) := by decide +kernel
theorem dL_pauses_220 : decode cL_pauses 220 = .ok (.iconst 1, 1) := by decide +kernel
theorem dL_pauses_221 : decode cL_pauses 221 = .ok (.if_icmp .ne 103, 3) := by decide +kernel
theorem dL_pauses_224 : decode cL_pauses 224 = .ok (.aload_n 0, 1) := by decide +kernel
theorem dL_pauses_225 : decode cL_pauses 225 = .ok (.iconst 1, 1) := by decide +kernel
theorem dL_pauses_226 : decode cL_pauses 226 = .ok (.invokevirtual 81, 3) := by decide +kernel
theorem dL_pauses_229 : decode cL_pauses 229 = .ok (.ifCond .ne 95, 3) := by decide +kernel
theorem dL_pauses_232 : decode cL_pauses 232 = .ok (.aload_n 0, 1) := by decide +kernel
theorem dL_pauses_233 : decode cL_pauses 233 = .ok (.iconst 2, 1) := by decide +kernel
theorem dL_pauses_234 : decode cL_pauses 234 = .ok (.iconst 3, 1) := by decide +kernel
theorem dL_pauses_235 : decode cL_pauses 235 = .ok (.iconst 0, 1) := by decide +kernel
theorem dL_pauses_236 : decode cL_pauses 236 = .ok (.iconst 1, 1) := by decide +kernel
theorem dL_pauses_237 : decode cL_pauses 237 = .ok (.bipush 9, 2) := by decide +kernel
theorem dL_pauses_239 : decode cL_pauses 239 = .ok (.invokevirtual 96, 3) := by decide +kernel
theorem dL_pauses_242 : decode cL_pauses 242 = .ok (.iconst 2, 1) := by decide +kernel
theorem dL_pauses_243 : decode cL_pauses 243 = .ok (.if_icmp .ne 81, 3) := by decide +kernel
theorem dL_pauses_246 : decode cL_pauses 246 = .ok (.aload_n 0, 1) := by decide +kernel
theorem dL_pauses_247 : decode cL_pauses 247 = .ok (.iconst 3, 1) := by decide +kernel
theorem dL_pauses_248 : decode cL_pauses 248 = .ok (.iconst 2, 1) := by decide +kernel
theorem dL_pauses_249 : decode cL_pauses 249 = .ok (.iconst 0, 1) := by decide +kernel
theorem dL_pauses_250 : decode cL_pauses 250 = .ok (.iconst 1, 1) := by decide +kernel
theorem dL_pauses_251 : decode cL_pauses 251 = .ok (.bipush 9, 2) := by decide +kernel
theorem dL_pauses_253 : decode cL_pauses 253 = .ok (.invokevirtual 96, 3) := by decide +kernel
theorem dL_pauses_256 : decode cL_pauses 256 = .ok (.iconst 3, 1) := by decide +kernel
theorem dL_pauses_257 : decode cL_pauses 257 = .ok (.if_icmp .ne 67, 3) := by decide +kernel
theorem dL_pauses_260 : decode cL_pauses 260 = .ok (.aload_n 0, 1) := by decide +kernel
theorem dL_pauses_261 : decode cL_pauses 261 = .ok (.iconst 3, 1) := by decide +kernel
theorem dL_pauses_262 : decode cL_pauses 262 = .ok (.bipush 9, 2) := by decide +kernel
theorem dL_pauses_264 : decode cL_pauses 264 = .ok (.invokevirtual 84, 3) := by decide +kernel
theorem dL_pauses_267 : decode cL_pauses 267 = .ok (.sipush 295, 3) := by decide +kernel
theorem dL_pauses_270 : decode cL_pauses 270 = .ok (.if_icmp .ne 54, 3) := by decide +kernel
