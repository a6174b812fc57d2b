theorem dL_orders_217 : decode cL_orders 217 = .ok (.iconst 1, 1) := by decide +kernel
theorem dL_orders_218 : decode cL_orders 218 = .ok (.invokevirtual 96, 3) := by decide +kernel
theorem dL_orders_221 : decode cL_orders 221 = .ok (.bipush (-3), 2) := by decide +kernel
theorem dL_orders_223 : decode cL_orders 223 = .ok (.if_icmp .ne 72, 3) := by decide +kernel
theorem dL_orders_226 : decode cL_orders 226 = .ok (.aload_n 0, 1) := by decide +kernel
theorem dL_orders_227 : decode cL_orders 227 = .ok (.iconst 0, 1) := by decide +kernel
theorem dL_orders_228 : decode cL_orders 228 = .ok (.iconst 1, 1) := by decide +kernel
theorem dL_orders_229 : decode cL_orders 229 = .ok (.iconst 0, 1) := by decide +kernel
theorem dL_orders_230 : decode cL_orders 230 = .ok (.iconst 0, 1) := by decide +kernel
theorem dL_orders_231 : decode cL_orders 231 = .ok (.iconst 1, 1) := by decide +kernel
theorem dL_orders_232 : decode cL_orders 232 = .ok (.invokevirtual 96, 3) := by decide +kernel
theorem dL_orders_235 : decode cL_orders 235 = .ok (.bipush (-2), 2) := by decide +kernel
theorem dL_orders_237 : decode cL_orders 237 = .ok (.if_icmp .ne 58, 3) := by decide +kernel
theorem dL_orders_240 : decode cL_orders 240 = .ok (.aload_n 0, 1) := by decide +kernel
theorem dL_orders_241 : decode cL_orders 241 = .ok (.iconst 5, 1) := by decide +kernel
theorem dL_orders_242 : decode cL_orders 242 = .ok (.bipush 50, 2) := by decide +kernel
theorem dL_orders_244 : decode cL_orders 244 = .ok (.invokevirtual 106, 3) := by decide +kernel
theorem dL_orders_247 : decode cL_orders 247 = .ok (.iconst 2, 1) := by decide +kernel
theorem dL_orders_248 : decode cL_orders 248 = .ok (.if_icmp .ne 47, 3) := by decide +kernel
theorem dL_orders_251 : decode cL_orders 251 = .ok (.aload_n 0, 1) := by decide +kernel
theorem dL_orders_252 : decode cL_orders 252 = .ok (.bipush 39, 2) := by decide +kernel
theorem dL_orders_254 : decode cL_orders 254 = .ok (.iconst 1, 1) := by decide +kernel
theorem dL_orders_255 : decode cL_orders 255 = .ok (.invokevirtual 106, 3) := by decide +kernel
theorem dL_orders_258 : decode cL_orders 258 = .ok (.iconst 3, 1) := by decide +kernel
theorem dL_orders_259 : decode cL_orders 259 = .ok (.if_icmp .ne 36, 3) := by decide +kernel
theorem dL_orders_262 : decode cL_orders 262 = .ok (.aload_n 0, 1) := by decide +kernel
theorem dL_orders_263 : decode cL_orders 263 = .ok (.iconst 0, 1) := by decide +kernel
theorem dL_orders_264 : decode cL_orders 264 = .ok (.iconst 1, 1) := by decide +kernel
theorem dL_orders_265 : decode cL_orders 265 = .ok (.invokevirtual 106, 3) := by decide +kernel
theorem dL_orders_268 : decode cL_orders 268 = .ok (.bipush (-3), 2) := by decide +kernel
theorem dL_orders_270 : decode cL_orders 270 = .ok (.if_icmp .ne 25, 3) := by decide +kernel
theorem dL_orders_273 : decode cL_orders 273 = .ok (.aload_n 0, 1) := by decide +kernel
theorem dL_orders_274 : decode cL_orders 274 = .ok (.iconst 0, 1) := by decide +kernel
theorem dL_orders_275 : decode cL_orders 275 = .ok (.iconst 0, 1) := by decide +kernel
theorem dL_orders_276 : decode cL_orders 276 = .ok (.invokevirtual 106, 3) := by decide +kernel
theorem dL_orders_279 : decode cL_orders 279 = .ok (.bipush (-2), 2) := by decide +kernel
theorem dL_orders_281 : decode cL_orders 281 = .ok (.if_icmp .ne 14, 3) := by decide +kernel
theorem dL_orders_284 : decode cL_orders 284 = .ok (.aload_n 0, 1) := by decide +kernel
theorem dL_orders_285 : decode cL_orders 285 = .ok (.invokestatic 201, 3) := by decide +kernel
theorem dL_orders_288 : decode cL_orders 288 = .ok (.ifCond .eq 7, 3) := by decide +kernel
theorem dL_orders_291 : decode cL_orders 291 = .ok (.iconst 1, 1) := by decide +kernel
theorem dL_orders_292 : decode cL_orders 292 = .ok (.goto 4, 3) := by decide +kernel
theorem dL_orders_295 : decode cL_orders 295 = .ok (.iconst 0, 1) := by decide +kernel
theorem dL_orders_296 : decode cL_orders 296 = .ok (.ireturn, 1) := by decide +kernel
theorem dL_change_0 : decode cL_change 0 = .ok (.aload_n 0, 1) := by decide +kernel
theorem dL_change_1 : decode cL_change 1 = .ok (.iconst 1, 1) := by decide +kernel
theorem dL_change_2 : decode cL_change 2 = .ok (.invokevirtual 36, 3) := by decide +kernel
theorem dL_change_5 : decode cL_change 5 = .ok (.istore_n 2, 1) := by decide +kernel
theorem dL_change_6 : decode cL_change 6 = .ok (.aload_n 0, 1) := by decide +kernel
theorem dL_change_7 : decode cL_change 7 = .ok (.iload_n 1, 1) := by decide +kernel
theorem dL_change_8 : decode cL_change 8 = .ok (.iconst 4, 1) := by decide +kernel
theorem dL_change_9 : decode cL_change 9 = .ok (.ishr, 1) := by decide +kernel
theorem dL_change_10 : decode cL_change 10 = .ok (.invokestatic 205, 3) := by decide +kernel
theorem dL_change_13 : decode cL_change 13 = .ok (.istore_n 3, 1) := by decide +kernel
theorem dL_change_14 : decode cL_change 14 = .ok (.iload_n 2, 1) := by decide +kernel
theorem dL_change_15 : decode cL_change 15 = .ok (.ifCond .ne 7, 3) := by decide +kernel
theorem dL_change_18 : decode cL_change 18 = .ok (.iconst 0, 1) := by decide +kernel
theorem dL_change_19 : decode cL_change 19 = .ok (.goto 10, 3) := by decide +kernel
theorem dL_change_22 : decode cL_change 22 = .ok (.iload_n 1, 1) := by decide +kernel
theorem dL_change_23 : decode cL_change 23 = .ok (.iconst 5, 1) := by decide +kernel
theorem dL_change_24 : decode cL_change 24 = .ok (.ishr, 1) := by decide +kernel
theorem dL_change_25 : decode cL_change 25 = .ok (.iload_n 2, 1) := by decide +kernel
theorem dL_change_26 : decode cL_change 26 = .ok (.invokestatic 56, 3) := by decide +kernel
theorem dL_change_29 : decode cL_change 29 = .ok (.istore 4, 2) := by decide +kernel
theorem dL_change_31 : decode cL_change 31 = .ok (.iload_n 2, 1) := by decide +kernel
theorem dL_change_32 : decode cL_change 32 = .ok (.iconst 2, 1) := by decide +kernel
theorem dL_change_33 : decode cL_change 33 = .ok (.if_icmp .ge 7, 3) := by decide +kernel
theorem dL_change_36 : decode cL_change 36 = .ok (.iconst 0, 1) := by decide +kernel
theorem dL_change_37 : decode cL_change 37 = .ok (.goto 9, 3) := by decide +kernel
theorem dL_change_40 : decode cL_change 40 = .ok (.iload_n 1, 1) := by decide +kernel
theorem dL_change_41 : decode cL_change 41 = .ok (.bipush 15, 2) := by decide +kernel
theorem dL_change_43 : decode cL_change 43 = .ok (.invokestatic 56, 3) := by decide +kernel
theorem dL_change_46 : decode cL_change 46 = .ok (.tableswitch 229 4 14 #[58, 81, 105, 144, 156, 163, 178, 184, 200, 213, 213], 58) := by decide +kernel
theorem dL_change_104 : decode cL_change 104 = .ok (.aload_n 0, 1) := by decide +kernel
theorem dL_change_105 : decode cL_change 105 = .ok (.iload_n 1, 1) := by decide +kernel
theorem dL_change_106 : decode cL_change 106 = .ok (.iconst 4, 1) := by decide +kernel
theorem dL_change_107 : decode cL_change 107 = .ok (.ishr, 1) := by decide +kernel
theorem dL_change_108 : decode cL_change 108 = .ok (.iconst 2, 1) := by decide +kernel
theorem dL_change_109 : decode cL_change 109 = .ok (.invokestatic 56, 3) := by decide +kernel
theorem dL_change_112 : decode cL_change 112 = .ok (.iconst 2, 1) := by decide +kernel
theorem dL_change_113 : decode cL_change 113 = .ok (.iload_n 1, 1) := by decide +kernel
theorem dL_change_114 : decode cL_change 114 = .ok (.bipush 6, 2) := by decide +kernel
theorem dL_change_116 : decode cL_change 116 = .ok (.ishr, 1) := by decide +kernel
theorem dL_change_117 : decode cL_change 117 = .ok (.bipush 12, 2) := by decide +kernel
theorem dL_change_119 : decode cL_change 119 = .ok (.invokestatic 56, 3) := by decide +kernel
theorem dL_change_122 : decode cL_change 122 = .ok (.iadd, 1) := by decide +kernel
theorem dL_change_123 : decode cL_change 123 = .ok (.invokevirtual 59, 3) := by decide +kernel
theorem dL_change_126 : decode cL_change 126 = .ok (.ireturn, 1) := by decide +kernel
theorem dL_change_127 : decode cL_change 127 = .ok (.aload_n 0, 1) := by decide +kernel
theorem dL_change_128 : decode cL_change 128 = .ok (.iload_n 1, 1) := by decide +kernel
theorem dL_change_129 : decode cL_change 129 = .ok (.iconst 4, 1) := by decide +kernel
theorem dL_change_130 : decode cL_change 130 = .ok (.ishr, 1) := by decide +kernel
theorem dL_change_131 : decode cL_change 131 = .ok (.iconst 2, 1) := by decide +kernel
theorem dL_change_132 : decode cL_change 132 = .ok (.invokestatic 56, 3) := by decide +kernel
theorem dL_change_135 : decode cL_change 135 = .ok (.iload_n 1, 1) := by decide +kernel
theorem dL_change_136 : decode cL_change 136 = .ok (.bipush 6, 2) := by decide +kernel
theorem dL_change_138 : decode cL_change 138 = .ok (.ishr, 1) := by decide +kernel
theorem dL_change_139 : decode cL_change 139 = .ok (.bipush 23, 2) := by decide +kernel
theorem dL_change_141 : decode cL_change 141 = .ok (.invokestatic 56, 3) := by decide +kernel
theorem dL_change_144 : decode cL_change 144 = .ok (.bipush 11, 2) := by decide +kernel
theorem dL_change_146 : decode cL_change 146 = .ok (.isub, 1) := by decide +kernel
theorem dL_change_147 : decode cL_change 147 = .ok (.invokevirtual 69, 3) := by decide +kernel
theorem dL_change_150 : decode cL_change 150 = .ok (.ireturn, 1) := by decide +kernel
theorem dL_change_151 : decode cL_change 151 = .ok (.iload_n 1, 1) := by decide +kernel
theorem dL_change_152 : decode cL_change 152 = .ok (.bipush 7, 2) := by decide +kernel
theorem dL_change_154 : decode cL_change 154 = .ok (.ishr, 1) := by decide +kernel
theorem dL_change_155 : decode cL_change 155 = .ok (.iconst 2, 1) := by decide +kernel
theorem dL_change_156 : decode cL_change 156 = .ok (.invokestatic 56, 3) := by decide +kernel
theorem dL_change_159 : decode cL_change 159 = .ok (.ifCond .ne 18, 3) := by decide +kernel
theorem dL_change_162 : decode cL_change 162 = .ok (.aload_n 0, 1) := by decide +kernel
theorem dL_change_163 : decode cL_change 163 = .ok (.iload_n 1, 1) := by decide +kernel
theorem dL_change_164 : decode cL_change 164 = .ok (.iconst 4, 1) := by decide +kernel
theorem dL_change_165 : decode cL_change 165 = .ok (.ishr, 1) := by decide +kernel
theorem dL_change_166 : decode cL_change 166 = .ok (.bipush 40, 2) := by decide +kernel
theorem dL_change_168 : decode cL_change 168 = .ok (.invokestatic 56, 3) := by decide +kernel
theorem dL_change_171 : decode cL_change 171 = .ok (.invokevirtual 75, 3) := by decide +kernel
theorem dL_change_174 : decode cL_change 174 = .ok (.goto 15, 3) := by decide +kernel
theorem dL_change_177 : decode cL_change 177 = .ok (.aload_n 0, 1) := by decide +kernel
theorem dL_change_178 : decode cL_change 178 = .ok (.iload_n 1, 1) := by decide +kernel
theorem dL_change_179 : decode cL_change 179 = .ok (.iconst 4, 1) := by decide +kernel
theorem dL_change_180 : decode cL_change 180 = .ok (.ishr, 1) := by decide +kernel
theorem dL_change_181 : decode cL_change 181 = .ok (.bipush 9, 2) := by decide +kernel
theorem dL_change_183 : decode cL_change 183 = .ok (.invokestatic 56, 3) := by decide +kernel
theorem dL_change_186 : decode cL_change 186 = .ok (.invokevirtual 78, 3) := by decide +kernel
theorem dL_change_189 : decode cL_change 189 = .ok (.ireturn, 1) := by decide +kernel
theorem dL_change_190 : decode cL_change 190 = .ok (.aload_n 0, 1) := by decide +kernel
theorem dL_change_191 : decode cL_change 191 = .ok (.iload_n 1, 1) := by decide +kernel
theorem dL_change_192 : decode cL_change 192 = .ok (.iconst 4, 1) := by decide +kernel
theorem dL_change_193 : decode cL_change 193 = .ok (.ishr, 1) := by decide +kernel
theorem dL_change_194 : decode cL_change 194 = .ok (.iconst 2, 1) := by decide +kernel
theorem dL_change_195 : decode cL_change 195 = .ok (.invokestatic 56, 3) := by decide +kernel
theorem dL_change_198 : decode cL_change 198 = .ok (.invokevirtual 72, 3) := by decide +kernel
theorem dL_change_201 : decode cL_change 201 = .ok (.ireturn, 1) := by decide +kernel
theorem dL_change_202 : decode cL_change 202 = .ok (.aload_n 0, 1) := by decide +kernel
theorem dL_change_203 : decode cL_change 203 = .ok (.iload 4, 2) := by decide +kernel
theorem dL_change_205 : decode cL_change 205 = .ok (.invokevirtual 103, 3) := by decide +kernel
theorem dL_change_208 : decode cL_change 208 = .ok (.ireturn, 1) := by decide +kernel
theorem dL_change_209 : decode cL_change 209 = .ok (.aload_n 0, 1) := by decide +kernel
theorem dL_change_210 : decode cL_change 210 = .ok (.iload_n 3, 1) := by decide +kernel
theorem dL_change_211 : decode cL_change 211 = .ok (.iload_n 1, 1) := by decide +kernel
theorem dL_change_212 : decode cL_change 212 = .ok (.bipush 7, 2) := by decide +kernel
theorem dL_change_214 : decode cL_change 214 = .ok (.ishr, 1) := by decide +kernel
theorem dL_change_215 : decode cL_change 215 = .ok (.bipush 30, 2) := by decide +kernel
theorem dL_change_217 : decode cL_change 217 = .ok (.invokestatic 56, 3) := by decide +kernel
theorem dL_change_220 : decode cL_change 220 = .ok (.invokevirtual 87, 3) := by decide +kernel
theorem dL_change_223 : decode cL_change 223 = .ok (.ireturn, 1) := by decide +kernel
theorem dL_change_224 : decode cL_change 224 = .ok (.aload_n 0, 1) := by decide +kernel
theorem dL_change_225 : decode cL_change 225 = .ok (.iload_n 3, 1) := by decide +kernel
theorem dL_change_226 : decode cL_change 226 = .ok (.invokevirtual 90, 3) := by decide +kernel
theorem dL_change_229 : decode cL_change 229 = .ok (.ireturn, 1) := by decide +kernel
theorem dL_change_230 : decode cL_change 230 = .ok (.aload_n 0, 1) := by decide +kernel
theorem dL_change_231 : decode cL_change 231 = .ok (.iload 4, 2) := by decide +kernel
theorem dL_change_233 : decode cL_change 233 = .ok (.iload_n 1, 1) := by decide +kernel
theorem dL_change_234 : decode cL_change 234 = .ok (.bipush 7, 2) := by decide +kernel
theorem dL_change_236 : decode cL_change 236 = .ok (.ishr, 1) := by decide +kernel
theorem dL_change_237 : decode cL_change 237 = .ok (.bipush 9, 2) := by decide +kernel
theorem dL_change_239 : decode cL_change 239 = .ok (.invokestatic 56, 3) := by decide +kernel
theorem dL_change_242 : decode cL_change 242 = .ok (.invokevirtual 106, 3) := by decide +kernel
theorem dL_change_245 : decode cL_change 245 = .ok (.ireturn, 1) := by decide +kernel
theorem dL_change_246 : decode cL_change 246 = .ok (.aload_n 0, 1) := by decide +kernel
theorem dL_change_247 : decode cL_change 247 = .ok (.iload_n 1, 1) := by decide +kernel
theorem dL_change_248 : decode cL_change 248 = .ok (.bipush 7, 2) := by decide +kernel
theorem dL_change_250 : decode cL_change 250 = .ok (.ishr, 1) := by decide +kernel
theorem dL_change_251 : decode cL_change 251 = .ok (.iconst 4, 1) := by decide +kernel
theorem dL_change_252 : decode cL_change 252 = .ok (.invokestatic 56, 3) := by decide +kernel
theorem dL_change_255 : decode cL_change 255 = .ok (.invokevirtual 112, 3) := by decide +kernel
theorem dL_change_258 : decode cL_change 258 = .ok (.ireturn, 1) := by decide +kernel
theorem dL_change_259 : decode cL_change 259 = .ok (.aload_n 0, 1) := by decide +kernel
theorem dL_change_260 : decode cL_change 260 = .ok (.iconst 1, 1) := by decide +kernel
theorem dL_change_261 : decode cL_change 261 = .ok (.iload_n 1, 1) := by decide +kernel
theorem dL_change_262 : decode cL_change 262 = .ok (.bipush 6, 2) := by decide +kernel
theorem dL_change_264 : decode cL_change 264 = .ok (.ishr, 1) := by decide +kernel
theorem dL_change_265 : decode cL_change 265 = .ok (.bipush 9, 2) := by decide +kernel
theorem dL_change_267 : decode cL_change 267 = .ok (.invokestatic 56, 3) := by decide +kernel
theorem dL_change_270 : decode cL_change 270 = .ok (.iadd, 1) := by decide +kernel
theorem dL_change_271 : decode cL_change 271 = .ok (.invokevirtual 81, 3) := by decide +kernel
theorem dL_change_274 : decode cL_change 274 = .ok (.ireturn, 1) := by decide +kernel
theorem dL_change_275 : decode cL_change 275 = .ok (.aload_n 0, 1) := by decide +kernel
theorem dL_change_276 : decode cL_change 276 = .ok (.iload_n 1, 1) := by decide +kernel
theorem dL_change_277 : decode cL_change 277 = .ok (.iconst 3, 1) := by decide +kernel
theorem dL_change_278 : decode cL_change 278 = .ok (.ishr, 1) := by decide +kernel
theorem dL_change_279 : decode cL_change 279 = .ok (.bipush 30, 2) := by decide +kernel
theorem dL_change_281 : decode cL_change 281 = .ok (.invokestatic 56, 3) := by decide +kernel
theorem dL_change_284 : decode cL_change 284 = .ok (.iconst 1, 1) := by decide +kernel
theorem dL_change_285 : decode cL_change 285 = .ok (.iload_n 1, 1) := by decide +kernel
theorem dL_change_286 : decode cL_change 286 = .ok (.bipush 6, 2) := by decide +kernel
theorem dL_change_288 : decode cL_change 288 = .ok (.ishr, 1) := by decide +kernel
theorem dL_change_289 : decode cL_change 289 = .ok (.iconst 3, 1) := by decide +kernel
theorem dL_change_290 : decode cL_change 290 = .ok (.invokestatic 56, 3) := by decide +kernel
theorem dL_change_293 : decode cL_change 293 = .ok (.iadd, 1) := by decide +kernel
theorem dL_change_294 : decode cL_change 294 = .ok (.iload_n 3, 1) := by decide +kernel
theorem dL_change_295 : decode cL_change 295 = .ok (.aload_n 0, 1) := by decide +kernel
theorem dL_change_296 : decode cL_change 296 = .ok (.iload_n 1, 1) := by decide +kernel
theorem dL_change_297 : decode cL_change 297 = .ok (.bipush 8, 2) := by decide +kernel
theorem dL_change_299 : decode cL_change 299 = .ok (.ishr, 1) := by decide +kernel
theorem dL_change_300 : decode cL_change 300 = .ok (.invokestatic 205, 3) := by decide +kernel
theorem dL_change_303 : decode cL_change 303 = .ok (.iload_n 1, 1) := by decide +kernel
theorem dL_change_304 : decode cL_change 304 = .ok (.bipush 9, 2) := by decide +kernel
theorem dL_change_306 : decode cL_change 306 = .ok (.ishr, 1) := by decide +kernel
theorem dL_change_307 : decode cL_change 307 = .ok (.bipush 11, 2) := by decide +kernel
theorem dL_change_309 : decode cL_change 309 = .ok (.invokestatic 56, 3) := by decide +kernel
theorem dL_change_312 : decode cL_change 312 = .ok (.invokevirtual 96, 3) := by decide +kernel
theorem dL_change_315 : decode cL_change 315 = .ok (.ireturn, 1) := by decide +kernel
