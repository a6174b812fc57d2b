theorem dL_texts_0 : decode cL_texts 0 = .ok (.new 14, 3) := by decide +kernel
theorem dL_texts_3 : decode cL_texts 3 = .ok (.dup, 1) := by decide +kernel
theorem dL_texts_4 : decode cL_texts 4 = .ok (.invokespecial 134, 3) := by decide +kernel
theorem dL_texts_7 : decode cL_texts 7 = .ok (.astore_n 0, 1) := by decide +kernel
theorem dL_texts_8 : decode cL_texts 8 = .ok (.aload_n 0, 1) := by decide +kernel
theorem dL_texts_9 : decode cL_texts 9 = .ok (.lconst 0, 1) := by decide +kernel
theorem dL_texts_10 : decode cL_texts 10 = .ok (.lconst 0, 1) := by decide +kernel
theorem dL_texts_11 : decode cL_texts 11 = .ok (.bipush (-100), 2) := by decide +kernel
theorem dL_texts_13 : decode cL_texts 13 = .ok (.invokestatic 135, 3) := by decide +kernel
theorem dL_texts_16 : decode cL_texts 16 = .ok (.ifCond .ne 5, 3) := by decide +kernel
theorem dL_texts_19 : decode cL_texts 19 = .ok (.iconst 0, 1) := by decide +kernel
theorem dL_texts_20 : decode cL_texts 20 = .ok (.ireturn, 1) := by decide +kernel
theorem dL_texts_21 : decode cL_texts 21 = .ok (.aload_n 0, 1) := by decide +kernel
theorem dL_texts_22 : decode cL_texts 22 = .ok (.ldc2_w 139, 3) := by decide +kernel
theorem dL_texts_25 : decode cL_texts 25 = .ok (.lconst 0, 1) := by decide +kernel
theorem dL_texts_26 : decode cL_texts 26 = .ok (.bipush (-101), 2) := by decide +kernel
theorem dL_texts_28 : decode cL_texts 28 = .ok (.invokestatic 135, 3) := by decide +kernel
theorem dL_texts_31 : decode cL_texts 31 = .ok (.ifCond .ne 5, 3) := by decide +kernel
theorem dL_texts_34 : decode cL_texts 34 = .ok (.iconst 0, 1) := by decide +kernel
theorem dL_texts_35 : decode cL_texts 35 = .ok (.ireturn, 1) := by decide +kernel
theorem dL_texts_36 : decode cL_texts 36 = .ok (.aload_n 0, 1) := by decide +kernel
theorem dL_texts_37 : decode cL_texts 37 = .ok (.ldc2_w 141, 3) := by decide +kernel
theorem dL_texts_40 : decode cL_texts 40 = .ok (.lconst 0, 1) := by decide +kernel
theorem dL_texts_41 : decode cL_texts 41 = .ok (.bipush (-101), 2) := by decide +kernel
theorem dL_texts_43 : decode cL_texts 43 = .ok (.invokestatic 135, 3) := by decide +kernel
theorem dL_texts_46 : decode cL_texts 46 = .ok (.ifCond .ne 5, 3) := by decide +kernel
theorem dL_texts_49 : decode cL_texts 49 = .ok (.iconst 0, 1) := by decide +kernel
theorem dL_texts_50 : decode cL_texts 50 = .ok (.ireturn, 1) := by decide +kernel
theorem dL_texts_51 : decode cL_texts 51 = .ok (.aload_n 0, 1) := by decide +kernel
theorem dL_texts_52 : decode cL_texts 52 = .ok (.ldc2_w 143, 3) := by decide +kernel
theorem dL_texts_55 : decode cL_texts 55 = .ok (.lconst 0, 1) := by decide +kernel
theorem dL_texts_56 : decode cL_texts 56 = .ok (.bipush (-101), 2) := by decide +kernel
theorem dL_texts_58 : decode cL_texts 58 = .ok (.invokestatic 135, 3) := by decide +kernel
theorem dL_texts_61 : decode cL_texts 61 = .ok (.ifCond .ne 5, 3) := by decide +kernel
theorem dL_texts_64 : decode cL_texts 64 = .ok (.iconst 0, 1) := by decide +kernel
theorem dL_texts_65 : decode cL_texts 65 = .ok (.ireturn, 1) := by decide +kernel
theorem dL_texts_66 : decode cL_texts 66 = .ok (.aload_n 0, 1) := by decide +kernel
theorem dL_texts_67 : decode cL_texts 67 = .ok (.ldc2_w 145, 3) := by decide +kernel
theorem dL_texts_70 : decode cL_texts 70 = .ok (.lconst 0, 1) := by decide +kernel
theorem dL_texts_71 : decode cL_texts 71 = .ok (.bipush (-105), 2) := by decide +kernel
theorem dL_texts_73 : decode cL_texts 73 = .ok (.invokestatic 135, 3) := by decide +kernel
theorem dL_texts_76 : decode cL_texts 76 = .ok (.ifCond .ne 5, 3) := by decide +kernel
theorem dL_texts_79 : decode cL_texts 79 = .ok (.iconst 0, 1) := by decide +kernel
theorem dL_texts_80 : decode cL_texts 80 = .ok (.ireturn, 1) := by decide +kernel
theorem dL_texts_81 : decode cL_texts 81 = .ok (.aload_n 0, 1) := by decide +kernel
theorem dL_texts_82 : decode cL_texts 82 = .ok (.ldc2_w 147, 3) := by decide +kernel
theorem dL_texts_85 : decode cL_texts 85 = .ok (.lconst 0, 1) := by decide +kernel
theorem dL_texts_86 : decode cL_texts 86 = .ok (.bipush (-105), 2) := by decide +kernel
theorem dL_texts_88 : decode cL_texts 88 = .ok (.invokestatic 135, 3) := by decide +kernel
theorem dL_texts_91 : decode cL_texts 91 = .ok (.ifCond .ne 5, 3) := by decide +kernel
theorem dL_texts_94 : decode cL_texts 94 = .ok (.iconst 0, 1) := by decide +kernel
theorem dL_texts_95 : decode cL_texts 95 = .ok (.ireturn, 1) := by decide +kernel
theorem dL_texts_96 : decode cL_texts 96 = .ok (.aload_n 0, 1) := by decide +kernel
theorem dL_texts_97 : decode cL_texts 97 = .ok (.ldc2_w 149, 3) := by decide +kernel
theorem dL_texts_100 : decode cL_texts 100 = .ok (.lconst 0, 1) := by decide +kernel
theorem dL_texts_101 : decode cL_texts 101 = .ok (.bipush (-102), 2) := by decide +kernel
theorem dL_texts_103 : decode cL_texts 103 = .ok (.invokestatic 135, 3) := by decide +kernel
theorem dL_texts_106 : decode cL_texts 106 = .ok (.ifCond .ne 5, 3) := by decide +kernel
theorem dL_texts_109 : decode cL_texts 109 = .ok (.iconst 0, 1) := by decide +kernel
theorem dL_texts_110 : decode cL_texts 110 = .ok (.ireturn, 1) := by decide +kernel
theorem dL_texts_111 : decode cL_texts 111 = .ok (.aload_n 0, 1) := by decide +kernel
theorem dL_texts_112 : decode cL_texts 112 = .ok (.ldc2_w 151, 3) := by decide +kernel
theorem dL_texts_115 : decode cL_texts 115 = .ok (.lconst 0, 1) := by decide +kernel
theorem dL_texts_116 : decode cL_texts 116 = .ok (.bipush (-102), 2) := by decide +kernel
theorem dL_texts_118 : decode cL_texts 118 = .ok (.invokestatic 135, 3) := by decide +kernel
theorem dL_texts_121 : decode cL_texts 121 = .ok (.ifCond .ne 5, 3) := by decide +kernel
theorem dL_texts_124 : decode cL_texts 124 = .ok (.iconst 0, 1) := by decide +kernel
theorem dL_texts_125 : decode cL_texts 125 = .ok (.ireturn, 1) := by decide +kernel
theorem dL_texts_126 : decode cL_texts 126 = .ok (.aload_n 0, 1) := by decide +kernel
theorem dL_texts_127 : decode cL_texts 127 = .ok (.ldc2_w 153, 3) := by decide +kernel
theorem dL_texts_130 : decode cL_texts 130 = .ok (.lconst 0, 1) := by decide +kernel
theorem dL_texts_131 : decode cL_texts 131 = .ok (.bipush (-101), 2) := by decide +kernel
theorem dL_texts_133 : decode cL_texts 133 = .ok (.invokestatic 135, 3) := by decide +kernel
theorem dL_texts_136 : decode cL_texts 136 = .ok (.ifCond .ne 5, 3) := by decide +kernel
theorem dL_texts_139 : decode cL_texts 139 = .ok (.iconst 0, 1) := by decide +kernel
theorem dL_texts_140 : decode cL_texts 140 = .ok (.ireturn, 1) := by decide +kernel
theorem dL_texts_141 : decode cL_texts 141 = .ok (.aload_n 0, 1) := by decide +kernel
theorem dL_texts_142 : decode cL_texts 142 = .ok (.ldc2_w 155, 3) := by decide +kernel
theorem dL_texts_145 : decode cL_texts 145 = .ok (.lconst 0, 1) := by decide +kernel
theorem dL_texts_146 : decode cL_texts 146 = .ok (.bipush (-104), 2) := by decide +kernel
theorem dL_texts_148 : decode cL_texts 148 = .ok (.invokestatic 135, 3) := by decide +kernel
theorem dL_texts_151 : decode cL_texts 151 = .ok (.ifCond .ne 5, 3) := by decide +kernel
theorem dL_texts_154 : decode cL_texts 154 = .ok (.iconst 0, 1) := by decide +kernel
theorem dL_texts_155 : decode cL_texts 155 = .ok (.ireturn, 1) := by decide +kernel
theorem dL_texts_156 : decode cL_texts 156 = .ok (.aload_n 0, 1) := by decide +kernel
theorem dL_texts_157 : decode cL_texts 157 = .ok (.ldc2_w 157, 3) := by decide +kernel
theorem dL_texts_160 : decode cL_texts 160 = .ok (.lconst 0, 1) := by decide +kernel
theorem dL_texts_161 : decode cL_texts 161 = .ok (.bipush (-105), 2) := by decide +kernel
theorem dL_texts_163 : decode cL_texts 163 = .ok (.invokestatic 135, 3) := by decide +kernel
theorem dL_texts_166 : decode cL_texts 166 = .ok (.ifCond .ne 5, 3) := by decide +kernel
theorem dL_texts_169 : decode cL_texts 169 = .ok (.iconst 0, 1) := by decide +kernel
theorem dL_texts_170 : decode cL_texts 170 = .ok (.ireturn, 1) := by decide +kernel
theorem dL_texts_171 : decode cL_texts 171 = .ok (.aload_n 0, 1) := by decide +kernel
theorem dL_texts_172 : decode cL_texts 172 = .ok (.ldc2_w 159, 3) := by decide +kernel
theorem dL_texts_175 : decode cL_texts 175 = .ok (.lconst 0, 1) := by decide +kernel
theorem dL_texts_176 : decode cL_texts 176 = .ok (.bipush (-105), 2) := by decide +kernel
theorem dL_texts_178 : decode cL_texts 178 = .ok (.invokestatic 135, 3) := by decide +kernel
theorem dL_texts_181 : decode cL_texts 181 = .ok (.ifCond .ne 5, 3) := by decide +kernel
theorem dL_texts_184 : decode cL_texts 184 = .ok (.iconst 0, 1) := by decide +kernel
theorem dL_texts_185 : decode cL_texts 185 = .ok (.ireturn, 1) := by decide +kernel
theorem dL_texts_186 : decode cL_texts 186 = .ok (.aload_n 0, 1) := by decide +kernel
theorem dL_texts_187 : decode cL_texts 187 = .ok (.ldc2_w 161, 3) := by decide +kernel
theorem dL_texts_190 : decode cL_texts 190 = .ok (.lconst 0, 1) := by decide +kernel
theorem dL_texts_191 : decode cL_texts 191 = .ok (.bipush (-106), 2) := by decide +kernel
theorem dL_texts_193 : decode cL_texts 193 = .ok (.invokestatic 135, 3) := by decide +kernel
theorem dL_texts_196 : decode cL_texts 196 = .ok (.ifCond .ne 5, 3) := by decide +kernel
theorem dL_texts_199 : decode cL_texts 199 = .ok (.iconst 0, 1) := by decide +kernel
theorem dL_texts_200 : decode cL_texts 200 = .ok (.ireturn, 1) := by decide +kernel
theorem dL_texts_201 : decode cL_texts 201 = .ok (.aload_n 0, 1) := by decide +kernel
theorem dL_texts_202 : decode cL_texts 202 = .ok (.ldc2_w 163, 3) := by decide +kernel
theorem dL_texts_205 : decode cL_texts 205 = .ok (.ldc2_w 165, 3) := by decide +kernel
theorem dL_texts_208 : decode cL_texts 208 = .ok (.bipush (-110), 2) := by decide +kernel
theorem dL_texts_210 : decode cL_texts 210 = .ok (.invokestatic 135, 3) := by decide +kernel
theorem dL_texts_213 : decode cL_texts 213 = .ok (.ifCond .ne 5, 3) := by decide +kernel
theorem dL_texts_216 : decode cL_texts 216 = .ok (.iconst 0, 1) := by decide +kernel
theorem dL_texts_217 : decode cL_texts 217 = .ok (.ireturn, 1) := by decide +kernel
theorem dL_texts_218 : decode cL_texts 218 = .ok (.aload_n 0, 1) := by decide +kernel
theorem dL_texts_219 : decode cL_texts 219 = .ok (.ldc2_w 163, 3) := by decide +kernel
theorem dL_texts_222 : decode cL_texts 222 = .ok (.ldc2_w 167, 3) := by decide +kernel
theorem dL_texts_225 : decode cL_texts 225 = .ok (.bipush (-110), 2) := by decide +kernel
theorem dL_texts_227 : decode cL_texts 227 = .ok (.invokestatic 135, 3) := by decide +kernel
