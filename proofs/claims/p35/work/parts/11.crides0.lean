theorem dL_rides_0 : decode cL_rides 0 = .ok (.invokestatic 193, 3) := by decide +kernel
theorem dL_rides_3 : decode cL_rides 3 = .ok (.astore_n 0, 1) := by decide +kernel
theorem dL_rides_4 : decode cL_rides 4 = .ok (.aload_n 0, 1) := by decide +kernel
theorem dL_rides_5 : decode cL_rides 5 = .ok (.iconst 5, 1) := by decide +kernel
theorem dL_rides_6 : decode cL_rides 6 = .ok (.iconst 1, 1) := by decide +kernel
theorem dL_rides_7 : decode cL_rides 7 = .ok (.iconst 0, 1) := by decide +kernel
theorem dL_rides_8 : decode cL_rides 8 = .ok (.iconst 1, 1) := by decide +kernel
theorem dL_rides_9 : decode cL_rides 9 = .ok (.iconst 1, 1) := by decide +kernel
theorem dL_rides_10 : decode cL_rides 10 = .ok (.invokevirtual 96, 3) := by decide +kernel
theorem dL_rides_13 : decode cL_rides 13 = .ok (.ifCond .ne 75, 3) := by decide +kernel
theorem dL_rides_16 : decode cL_rides 16 = .ok (.aload_n 0, 1) := by decide +kernel
theorem dL_rides_17 : decode cL_rides 17 = .ok (.iconst 0, 1) := by decide +kernel
theorem dL_rides_18 : decode cL_rides 18 = .ok (.iconst 5, 1) := by decide +kernel
theorem dL_rides_19 : decode cL_rides 19 = .ok (.invokevirtual 47, 3) := by decide +kernel
theorem dL_rides_22 : decode cL_rides 22 = .ok (.bipush 10, 2) := by decide +kernel
theorem dL_rides_24 : decode cL_rides 24 = .ok (.if_icmp .ne 64, 3) := by decide +kernel
theorem dL_rides_27 : decode cL_rides 27 = .ok (.aload_n 0, 1) := by decide +kernel
theorem dL_rides_28 : decode cL_rides 28 = .ok (.iconst 0, 1) := by decide +kernel
theorem dL_rides_29 : decode cL_rides 29 = .ok (.iconst 0, 1) := by decide +kernel
theorem dL_rides_30 : decode cL_rides 30 = .ok (.invokevirtual 109, 3) := by decide +kernel
theorem dL_rides_33 : decode cL_rides 33 = .ok (.iconst 3, 1) := by decide +kernel
theorem dL_rides_34 : decode cL_rides 34 = .ok (.if_icmp .ne 54, 3) := by decide +kernel
theorem dL_rides_37 : decode cL_rides 37 = .ok (.aload_n 0, 1) := by decide +kernel
theorem dL_rides_38 : decode cL_rides 38 = .ok (.iconst 0, 1) := by decide +kernel
theorem dL_rides_39 : decode cL_rides 39 = .ok (.iconst 1, 1) := by decide +kernel
theorem dL_rides_40 : decode cL_rides 40 = .ok (.invokevirtual 109, 3) := by decide +kernel
theorem dL_rides_43 : decode cL_rides 43 = .ok (.bipush 6, 2) := by decide +kernel
theorem dL_rides_45 : decode cL_rides 45 = .ok (.if_icmp .ne 43, 3) := by decide +kernel
theorem dL_rides_48 : decode cL_rides 48 = .ok (.aload_n 0, 1) := by decide +kernel
theorem dL_rides_49 : decode cL_rides 49 = .ok (.iconst 0, 1) := by decide +kernel
theorem dL_rides_50 : decode cL_rides 50 = .ok (.iconst 2, 1) := by decide +kernel
theorem dL_rides_51 : decode cL_rides 51 = .ok (.invokevirtual 109, 3) := by decide +kernel
theorem dL_rides_54 : decode cL_rides 54 = .ok (.iconst 1, 1) := by decide +kernel
theorem dL_rides_55 : decode cL_rides 55 = .ok (.if_icmp .ne 33, 3) := by decide +kernel
theorem dL_rides_58 : decode cL_rides 58 = .ok (.aload_n 0, 1) := by decide +kernel
theorem dL_rides_59 : decode cL_rides 59 = .ok (.iconst 0, 1) := by decide +kernel
theorem dL_rides_60 : decode cL_rides 60 = .ok (.iconst 3, 1) := by decide +kernel
theorem dL_rides_61 : decode cL_rides 61 = .ok (.invokevirtual 109, 3) := by decide +kernel
theorem dL_rides_64 : decode cL_rides 64 = .ok (.iconst 1, 1) := by decide +kernel
theorem dL_rides_65 : decode cL_rides 65 = .ok (.if_icmp .ne 23, 3) := by decide +kernel
theorem dL_rides_68 : decode cL_rides 68 = .ok (.aload_n 0, 1) := by decide +kernel
theorem dL_rides_69 : decode cL_rides 69 = .ok (.iconst 0, 1) := by decide +kernel
theorem dL_rides_70 : decode cL_rides 70 = .ok (.iconst 1, 1) := by decide +kernel
theorem dL_rides_71 : decode cL_rides 71 = .ok (.invokevirtual 100, 3) := by decide +kernel
theorem dL_rides_74 : decode cL_rides 74 = .ok (.iconst 1, 1) := by decide +kernel
theorem dL_rides_75 : decode cL_rides 75 = .ok (.if_icmp .ne 13, 3) := by decide +kernel
theorem dL_rides_78 : decode cL_rides 78 = .ok (.aload_n 0, 1) := by decide +kernel
theorem dL_rides_79 : decode cL_rides 79 = .ok (.iconst 1, 1) := by decide +kernel
theorem dL_rides_80 : decode cL_rides 80 = .ok (.iconst 0, 1) := by decide +kernel
theorem dL_rides_81 : decode cL_rides 81 = .ok (.invokevirtual 100, 3) := by decide +kernel
theorem dL_rides_84 : decode cL_rides 84 = .ok (.iconst 1, 1) := by decide +kernel
theorem dL_rides_85 : decode cL_rides 85 = .ok (.if_icmp .eq 5, 3) := by decide +kernel
theorem dL_rides_88 : decode cL_rides 88 = .ok (.iconst 0, 1) := by decide +kernel
theorem dL_rides_89 : decode cL_rides 89 = .ok (.ireturn, 1) := by decide +kernel
theorem dL_rides_90 : decode cL_rides 90 = .ok (.aload_n 0, 1) := by decide +kernel
theorem dL_rides_91 : decode cL_rides 91 = .ok (.iconst 1, 1) := by decide +kernel
theorem dL_rides_92 : decode cL_rides 92 = .ok (.invokevirtual 81, 3) := by decide +kernel
theorem dL_rides_95 : decode cL_rides 95 = .ok (.ifCond .ne 61, 3) := by decide +kernel
theorem dL_rides_98 : decode cL_rides 98 = .ok (.aload_n 0, 1) := by decide +kernel
theorem dL_rides_99 : decode cL_rides 99 = .ok (.iconst 0, 1) := by decide +kernel
theorem dL_rides_100 : decode cL_rides 100 = .ok (.iconst 0, 1) := by decide +kernel
theorem dL_rides_101 : decode cL_rides 101 = .ok (.invokevirtual 40, 3) := by decide +kernel
theorem dL_rides_104 : decode cL_rides 104 = .ok (.ifCond .ne 52, 3) := by decide +kernel
theorem dL_rides_107 : decode cL_rides 107 = .ok (.aload_n 0, 1) := by decide +kernel
theorem dL_rides_108 : decode cL_rides 108 = .ok (.iconst 0, 1) := by decide +kernel
theorem dL_rides_109 : decode cL_rides 109 = .ok (.bipush 10, 2) := by decide +kernel
theorem dL_rides_111 : decode cL_rides 111 = .ok (.invokevirtual 47, 3) := by decide +kernel
theorem dL_rides_114 : decode cL_rides 114 = .ok (.ifCond .ne 42, 3) := by decide +kernel
theorem dL_rides_117 : decode cL_rides 117 = .ok (.aload_n 0, 1) := by decide +kernel
theorem dL_rides_118 : decode cL_rides 118 = .ok (.iconst 0, 1) := by decide +kernel
theorem dL_rides_119 : decode cL_rides 119 = .ok (.iconst 0, 1) := by decide +kernel
theorem dL_rides_120 : decode cL_rides 120 = .ok (.iconst 0, 1) := by decide +kernel
theorem dL_rides_121 : decode cL_rides 121 = .ok (.iconst 0, 1) := by decide +kernel
theorem dL_rides_122 : decode cL_rides 122 = .ok (.iconst 0, 1) := by decide +kernel
theorem dL_rides_123 : decode cL_rides 123 = .ok (.invokestatic 197, 3) := by decide +kernel
theorem dL_rides_126 : decode cL_rides 126 = .ok (.ifCond .eq 30, 3) := by decide +kernel
theorem dL_rides_129 : decode cL_rides 129 = .ok (.aload_n 0, 1) := by decide +kernel
theorem dL_rides_130 : decode cL_rides 130 = .ok (.iconst 0, 1) := by decide +kernel
theorem dL_rides_131 : decode cL_rides 131 = .ok (.iconst 3, 1) := by decide +kernel
theorem dL_rides_132 : decode cL_rides 132 = .ok (.invokevirtual 19, 3) := by decide +kernel
theorem dL_rides_135 : decode cL_rides 135 = .ok (.iconst 1, 1) := by decide +kernel
theorem dL_rides_136 : decode cL_rides 136 = .ok (.if_icmp .ne 20, 3) := by decide +kernel
theorem dL_rides_139 : decode cL_rides 139 = .ok (.aload_n 0, 1) := by decide +kernel
theorem dL_rides_140 : decode cL_rides 140 = .ok (.iconst 4, 1) := by decide +kernel
theorem dL_rides_141 : decode cL_rides 141 = .ok (.invokevirtual 81, 3) := by decide +kernel
theorem dL_rides_144 : decode cL_rides 144 = .ok (.ifCond .ne 12, 3) := by decide +kernel
theorem dL_rides_147 : decode cL_rides 147 = .ok (.aload_n 0, 1) := by decide +kernel
theorem dL_rides_148 : decode cL_rides 148 = .ok (.iconst 1, 1) := by decide +kernel
theorem dL_rides_149 : decode cL_rides 149 = .ok (.invokevirtual 81, 3) := by decide +kernel
theorem dL_rides_152 : decode cL_rides 152 = .ok (.iconst 1, 1) := by decide +kernel
theorem dL_rides_153 : decode cL_rides 153 = .ok (.if_icmp .eq 5, 3) := by decide +kernel
theorem dL_rides_156 : decode cL_rides 156 = .ok (.iconst 0, 1) := by decide +kernel
theorem dL_rides_157 : decode cL_rides 157 = .ok (.ireturn, 1) := by decide +kernel
theorem dL_rides_158 : decode cL_rides 158 = .ok (.aload_n 0, 1) := by decide +kernel
theorem dL_rides_159 : decode cL_rides 159 = .ok (.bipush 12, 2) := by decide +kernel
theorem dL_rides_161 : decode cL_rides 161 = .ok (.invokevirtual 36, 3) := by decide +kernel
theorem dL_rides_164 : decode cL_rides 164 = .ok (.bipush 10, 2) := by decide +kernel
theorem dL_rides_166 : decode cL_rides 166 = .ok (.if_icmp .ne 79, 3) := by decide +kernel
theorem dL_rides_169 : decode cL_rides 169 = .ok (.aload_n 0, 1) := by decide +kernel
theorem dL_rides_170 : decode cL_rides 170 = .ok (.iconst 0, 1) := by decide +kernel
theorem dL_rides_171 : decode cL_rides 171 = .ok (.bipush 11, 2) := by decide +kernel
theorem dL_rides_173 : decode cL_rides 173 = .ok (.invokevirtual 47, 3) := by decide +kernel
theorem dL_rides_176 : decode cL_rides 176 = .ok (.iconst 5, 1) := by decide +kernel
theorem dL_rides_177 : decode cL_rides 177 = .ok (.if_icmp .ne 68, 3) := by decide +kernel
theorem dL_rides_180 : decode cL_rides 180 = .ok (.aload_n 0, 1) := by decide +kernel
theorem dL_rides_181 : decode cL_rides 181 = .ok (.iconst 0, 1) := by decide +kernel
theorem dL_rides_182 : decode cL_rides 182 = .ok (.bipush 12, 2) := by decide +kernel
theorem dL_rides_184 : decode cL_rides 184 = .ok (.invokevirtual 47, 3) := by decide +kernel
theorem dL_rides_187 : decode cL_rides 187 = .ok (.iconst 1, 1) := by decide +kernel
theorem dL_rides_188 : decode cL_rides 188 = .ok (.if_icmp .ne 57, 3) := by decide +kernel
theorem dL_rides_191 : decode cL_rides 191 = .ok (.aload_n 0, 1) := by decide +kernel
theorem dL_rides_192 : decode cL_rides 192 = .ok (.bipush 18, 2) := by decide +kernel
theorem dL_rides_194 : decode cL_rides 194 = .ok (.invokevirtual 36, 3) := by decide +kernel
theorem dL_rides_197 : decode cL_rides 197 = .ok (.iconst 5, 1) := by decide +kernel
theorem dL_rides_198 : decode cL_rides 198 = .ok (.if_icmp .ne 47, 3) := by decide +kernel
theorem dL_rides_201 : decode cL_rides 201 = .ok (.aload_n 0, 1) := by decide +kernel
theorem dL_rides_202 : decode cL_rides 202 = .ok (.iconst 1, 1) := by decide +kernel
theorem dL_rides_203 : decode cL_rides 203 = .ok (.iconst 4, 1) := by decide +kernel
theorem dL_rides_204 : decode cL_rides 204 = .ok (.invokevirtual 19, 3) := by decide +kernel
theorem dL_rides_207 : decode cL_rides 207 = .ok (.iconst 1, 1) := by decide +kernel
theorem dL_rides_208 : decode cL_rides 208 = .ok (.if_icmp .ne 37, 3) := by decide +kernel
theorem dL_rides_211 : decode cL_rides 211 = .ok (.aload_n 0, 1) := by decide +kernel
theorem dL_rides_212 : decode cL_rides 212 = .ok (.iconst 0, 1) := by decide +kernel
theorem dL_rides_213 : decode cL_rides 213 = .ok (.iconst 1, 1) := by decide +kernel
theorem dL_rides_214 : decode cL_rides 214 = .ok (.iconst 0, 1) := by decide +kernel
theorem dL_rides_215 : decode cL_rides 215 = .ok (.iconst 1, 1) := by decide +kernel
theorem dL_rides_216 : decode cL_rides 216 = .ok (.iconst 5, 1) := by decide +kernel
theorem dL_rides_217 : decode cL_rides 217 = .ok (.invokestatic 197, 3) := by decide +kernel
theorem dL_rides_220 : decode cL_rides 220 = .ok (.ifCond .eq 25, 3) := by decide +kernel
theorem dL_rides_223 : decode cL_rides 223 = .ok (.aload_n 0, 1) := by decide +kernel
theorem dL_rides_224 : decode cL_rides 224 = .ok (.iconst 0, 1) := by decide +kernel
theorem dL_rides_225 : decode cL_rides 225 = .ok (.iconst 0, 1) := by decide +kernel
theorem dL_rides_226 : decode cL_rides 226 = .ok (.invokevirtual 40, 3) := by decide +kernel
theorem dL_rides_229 : decode cL_rides 229 = .ok (.bipush (-5), 2) := by decide +kernel
theorem dL_rides_231 : decode cL_rides 231 = .ok (.if_icmp .ne 14, 3) := by decide +kernel
theorem dL_rides_234 : decode cL_rides 234 = .ok (.aload_n 0, 1) := by decide +kernel
theorem dL_rides_235 : decode cL_rides 235 = .ok (.iconst 0, 1) := by decide +kernel
theorem dL_rides_236 : decode cL_rides 236 = .ok (.iconst 1, 1) := by decide +kernel
theorem dL_rides_237 : decode cL_rides 237 = .ok (.invokevirtual 13, 3) := by decide +kernel
