theorem dLa_account_0 : decode bLa_account 0 = .ok (.aload_n 2, 1) := by decide +kernel
theorem dLa_account_1 : decode bLa_account 1 = .ok (.iconst 0, 1) := by decide +kernel
theorem dLa_account_2 : decode bLa_account 2 = .ok (.aload_n 0, 1) := by decide +kernel
theorem dLa_account_3 : decode bLa_account 3 = .ok (.iload_n 1, 1) := by decide +kernel
theorem dLa_account_4 : decode bLa_account 4 = .ok (.invokevirtual 7, 3) := by decide +kernel
theorem dLa_account_7 : decode bLa_account 7 = .ok (.i2l, 1) := by decide +kernel
theorem dLa_account_8 : decode bLa_account 8 = .ok (.lastore, 1) := by decide +kernel
theorem dLa_account_9 : decode bLa_account 9 = .ok (.goto 9, 3) := by decide +kernel
theorem dLa_account_12 : decode bLa_account 12 = .ok (.astore_n 3, 1) := by decide +kernel
theorem dLa_account_13 : decode bLa_account 13 = .ok (.iconst 1, 1) := by decide +kernel
theorem dLa_account_14 : decode bLa_account 14 = .ok (.ireturn, 1) := by decide +kernel
theorem dLa_account_15 : decode bLa_account 15 = .ok (.astore_n 3, 1) := by decide +kernel
theorem dLa_account_16 : decode bLa_account 16 = .ok (.iconst 2, 1) := by decide +kernel
theorem dLa_account_17 : decode bLa_account 17 = .ok (.ireturn, 1) := by decide +kernel
theorem dLa_account_18 : decode bLa_account 18 = .ok (.iconst 0, 1) := by decide +kernel
theorem dLa_account_19 : decode bLa_account 19 = .ok (.ireturn, 1) := by decide +kernel
theorem dLa_balance_0 : decode bLa_balance 0 = .ok (.aload 4, 2) := by decide +kernel
theorem dLa_balance_2 : decode bLa_balance 2 = .ok (.iconst 0, 1) := by decide +kernel
theorem dLa_balance_3 : decode bLa_balance 3 = .ok (.aload_n 0, 1) := by decide +kernel
theorem dLa_balance_4 : decode bLa_balance 4 = .ok (.iload_n 1, 1) := by decide +kernel
theorem dLa_balance_5 : decode bLa_balance 5 = .ok (.iload_n 2, 1) := by decide +kernel
theorem dLa_balance_6 : decode bLa_balance 6 = .ok (.iload_n 3, 1) := by decide +kernel
theorem dLa_balance_7 : decode bLa_balance 7 = .ok (.invokevirtual 29, 3) := by decide +kernel
theorem dLa_balance_10 : decode bLa_balance 10 = .ok (.lastore, 1) := by decide +kernel
theorem dLa_balance_11 : decode bLa_balance 11 = .ok (.goto 7, 3) := by decide +kernel
theorem dLa_balance_14 : decode bLa_balance 14 = .ok (.astore 5, 2) := by decide +kernel
theorem dLa_balance_16 : decode bLa_balance 16 = .ok (.iconst 1, 1) := by decide +kernel
theorem dLa_balance_17 : decode bLa_balance 17 = .ok (.ireturn, 1) := by decide +kernel
theorem dLa_balance_18 : decode bLa_balance 18 = .ok (.iconst 0, 1) := by decide +kernel
theorem dLa_balance_19 : decode bLa_balance 19 = .ok (.ireturn, 1) := by decide +kernel
theorem dLa_batch_0 : decode bLa_batch 0 = .ok (.aload_n 3, 1) := by decide +kernel
theorem dLa_batch_1 : decode bLa_batch 1 = .ok (.iconst 0, 1) := by decide +kernel
theorem dLa_batch_2 : decode bLa_batch 2 = .ok (.aload_n 0, 1) := by decide +kernel
theorem dLa_batch_3 : decode bLa_batch 3 = .ok (.iload_n 1, 1) := by decide +kernel
theorem dLa_batch_4 : decode bLa_batch 4 = .ok (.iload_n 2, 1) := by decide +kernel
theorem dLa_batch_5 : decode bLa_batch 5 = .ok (.invokevirtual 17, 3) := by decide +kernel
theorem dLa_batch_8 : decode bLa_batch 8 = .ok (.i2l, 1) := by decide +kernel
theorem dLa_batch_9 : decode bLa_batch 9 = .ok (.lastore, 1) := by decide +kernel
theorem dLa_batch_10 : decode bLa_batch 10 = .ok (.goto 11, 3) := by decide +kernel
theorem dLa_batch_13 : decode bLa_batch 13 = .ok (.astore 4, 2) := by decide +kernel
theorem dLa_batch_15 : decode bLa_batch 15 = .ok (.iconst 1, 1) := by decide +kernel
theorem dLa_batch_16 : decode bLa_batch 16 = .ok (.ireturn, 1) := by decide +kernel
theorem dLa_batch_17 : decode bLa_batch 17 = .ok (.astore 4, 2) := by decide +kernel
theorem dLa_batch_19 : decode bLa_batch 19 = .ok (.iconst 2, 1) := by decide +kernel
theorem dLa_batch_20 : decode bLa_batch 20 = .ok (.ireturn, 1) := by decide +kernel
theorem dLa_batch_21 : decode bLa_batch 21 = .ok (.iconst 0, 1) := by decide +kernel
theorem dLa_batch_22 : decode bLa_batch 22 = .ok (.ireturn, 1) := by decide +kernel
theorem dLa_law_0 : decode bLa_law 0 = .ok (.new 8, 3) := by decide +kernel
theorem dLa_law_3 : decode bLa_law 3 = .ok (.dup, 1) := by decide +kernel
theorem dLa_law_4 : decode bLa_law 4 = .ok (.invokespecial 52, 3) := by decide +kernel
theorem dLa_law_7 : decode bLa_law 7 = .ok (.astore_n 1, 1) := by decide +kernel
theorem dLa_law_8 : decode bLa_law 8 = .ok (.new 53, 3) := by decide +kernel
theorem dLa_law_11 : decode bLa_law 11 = .ok (.dup, 1) := by decide +kernel
theorem dLa_law_12 : decode bLa_law 12 = .ok (.invokespecial 55, 3) := by decide +kernel
theorem dLa_law_15 : decode bLa_law 15 = .ok (.astore_n 2, 1) := by decide +kernel
theorem dLa_law_16 : decode bLa_law 16 = .ok (.iconst 1, 1) := by decide +kernel
theorem dLa_law_17 : decode bLa_law 17 = .ok (.newarray .long, 2) := by decide +kernel
theorem dLa_law_19 : decode bLa_law 19 = .ok (.astore_n 3, 1) := by decide +kernel
theorem dLa_law_20 : decode bLa_law 20 = .ok (.iconst 0, 1) := by decide +kernel
theorem dLa_law_21 : decode bLa_law 21 = .ok (.istore 4, 2) := by decide +kernel
theorem dLa_law_23 : decode bLa_law 23 = .ok (.iload 4, 2) := by decide +kernel
theorem dLa_law_25 : decode bLa_law 25 = .ok (.aload_n 0, 1) := by decide +kernel
theorem dLa_law_26 : decode bLa_law 26 = .ok (.arraylength, 1) := by decide +kernel
theorem dLa_law_27 : decode bLa_law 27 = .ok (.iconst 5, 1) := by decide +kernel
theorem dLa_law_28 : decode bLa_law 28 = .ok (.isub, 1) := by decide +kernel
theorem dLa_law_29 : decode bLa_law 29 = .ok (.if_icmp .gt 1074, 3) := by decide +kernel
theorem dLa_law_32 : decode bLa_law 32 = .ok (.aload_n 0, 1) := by decide +kernel
theorem dLa_law_33 : decode bLa_law 33 = .ok (.iload 4, 2) := by decide +kernel
theorem dLa_law_35 : decode bLa_law 35 = .ok (.iaload, 1) := by decide +kernel
theorem dLa_law_36 : decode bLa_law 36 = .ok (.bipush 15, 2) := by decide +kernel
theorem dLa_law_38 : decode bLa_law 38 = .ok (.iand, 1) := by decide +kernel
theorem dLa_law_39 : decode bLa_law 39 = .ok (.tableswitch 1058 0 15 #[77, 133, 201, 282, 335, 391, 459, 484, 563, 642, 691, 728, 807, 898, 965, 1033], 77) := by decide +kernel
theorem dLa_law_116 : decode bLa_law 116 = .ok (.aload_n 1, 1) := by decide +kernel
theorem dLa_law_117 : decode bLa_law 117 = .ok (.aload_n 0, 1) := by decide +kernel
theorem dLa_law_118 : decode bLa_law 118 = .ok (.iload 4, 2) := by decide +kernel
theorem dLa_law_120 : decode bLa_law 120 = .ok (.iconst 1, 1) := by decide +kernel
theorem dLa_law_121 : decode bLa_law 121 = .ok (.iadd, 1) := by decide +kernel
theorem dLa_law_122 : decode bLa_law 122 = .ok (.iaload, 1) := by decide +kernel
theorem dLa_law_123 : decode bLa_law 123 = .ok (.aload_n 3, 1) := by decide +kernel
theorem dLa_law_124 : decode bLa_law 124 = .ok (.invokestatic 56, 3) := by decide +kernel
theorem dLa_law_127 : decode bLa_law 127 = .ok (.istore 5, 2) := by decide +kernel
theorem dLa_law_129 : decode bLa_law 129 = .ok (.aload_n 2, 1) := by decide +kernel
theorem dLa_law_130 : decode bLa_law 130 = .ok (.aload_n 0, 1) := by decide +kernel
theorem dLa_law_131 : decode bLa_law 131 = .ok (.iload 4, 2) := by decide +kernel
theorem dLa_law_133 : decode bLa_law 133 = .ok (.iconst 1, 1) := by decide +kernel
theorem dLa_law_134 : decode bLa_law 134 = .ok (.iadd, 1) := by decide +kernel
theorem dLa_law_135 : decode bLa_law 135 = .ok (.iaload, 1) := by decide +kernel
theorem dLa_law_136 : decode bLa_law 136 = .ok (.invokevirtual 61, 3) := by decide +kernel
theorem dLa_law_139 : decode bLa_law 139 = .ok (.istore 6, 2) := by decide +kernel
theorem dLa_law_141 : decode bLa_law 141 = .ok (.aload_n 2, 1) := by decide +kernel
theorem dLa_law_142 : decode bLa_law 142 = .ok (.invokevirtual 62, 3) := by decide +kernel
theorem dLa_law_145 : decode bLa_law 145 = .ok (.iload 5, 2) := by decide +kernel
theorem dLa_law_147 : decode bLa_law 147 = .ok (.if_icmp .eq 5, 3) := by decide +kernel
theorem dLa_law_150 : decode bLa_law 150 = .ok (.iconst 0, 1) := by decide +kernel
theorem dLa_law_151 : decode bLa_law 151 = .ok (.ireturn, 1) := by decide +kernel
theorem dLa_law_152 : decode bLa_law 152 = .ok (.iload 5, 2) := by decide +kernel
theorem dLa_law_154 : decode bLa_law 154 = .ok (.ifCond .ne 15, 3) := by decide +kernel
theorem dLa_law_157 : decode bLa_law 157 = .ok (.aload_n 3, 1) := by decide +kernel
theorem dLa_law_158 : decode bLa_law 158 = .ok (.iconst 0, 1) := by decide +kernel
theorem dLa_law_159 : decode bLa_law 159 = .ok (.laload, 1) := by decide +kernel
theorem dLa_law_160 : decode bLa_law 160 = .ok (.iload 6, 2) := by decide +kernel
theorem dLa_law_162 : decode bLa_law 162 = .ok (.i2l, 1) := by decide +kernel
theorem dLa_law_163 : decode bLa_law 163 = .ok (.lcmp, 1) := by decide +kernel
theorem dLa_law_164 : decode bLa_law 164 = .ok (.ifCond .eq 5, 3) := by decide +kernel
theorem dLa_law_167 : decode bLa_law 167 = .ok (.iconst 0, 1) := by decide +kernel
theorem dLa_law_168 : decode bLa_law 168 = .ok (.ireturn, 1) := by decide +kernel
theorem dLa_law_169 : decode bLa_law 169 = .ok (.goto 928, 3) := by decide +kernel
theorem dLa_law_172 : decode bLa_law 172 = .ok (.aload_n 1, 1) := by decide +kernel
theorem dLa_law_173 : decode bLa_law 173 = .ok (.aload_n 0, 1) := by decide +kernel
theorem dLa_law_174 : decode bLa_law 174 = .ok (.iload 4, 2) := by decide +kernel
theorem dLa_law_176 : decode bLa_law 176 = .ok (.iconst 1, 1) := by decide +kernel
theorem dLa_law_177 : decode bLa_law 177 = .ok (.iadd, 1) := by decide +kernel
theorem dLa_law_178 : decode bLa_law 178 = .ok (.iaload, 1) := by decide +kernel
theorem dLa_law_179 : decode bLa_law 179 = .ok (.aload_n 0, 1) := by decide +kernel
theorem dLa_law_180 : decode bLa_law 180 = .ok (.iload 4, 2) := by decide +kernel
theorem dLa_law_182 : decode bLa_law 182 = .ok (.iconst 2, 1) := by decide +kernel
theorem dLa_law_183 : decode bLa_law 183 = .ok (.iadd, 1) := by decide +kernel
theorem dLa_law_184 : decode bLa_law 184 = .ok (.iaload, 1) := by decide +kernel
theorem dLa_law_185 : decode bLa_law 185 = .ok (.aload_n 3, 1) := by decide +kernel
theorem dLa_law_186 : decode bLa_law 186 = .ok (.invokestatic 66, 3) := by decide +kernel
theorem dLa_law_189 : decode bLa_law 189 = .ok (.istore 5, 2) := by decide +kernel
theorem dLa_law_191 : decode bLa_law 191 = .ok (.aload_n 2, 1) := by decide +kernel
theorem dLa_law_192 : decode bLa_law 192 = .ok (.aload_n 0, 1) := by decide +kernel
theorem dLa_law_193 : decode bLa_law 193 = .ok (.iload 4, 2) := by decide +kernel
theorem dLa_law_195 : decode bLa_law 195 = .ok (.iconst 1, 1) := by decide +kernel
theorem dLa_law_196 : decode bLa_law 196 = .ok (.iadd, 1) := by decide +kernel
theorem dLa_law_197 : decode bLa_law 197 = .ok (.iaload, 1) := by decide +kernel
theorem dLa_law_198 : decode bLa_law 198 = .ok (.aload_n 0, 1) := by decide +kernel
theorem dLa_law_199 : decode bLa_law 199 = .ok (.iload 4, 2) := by decide +kernel
theorem dLa_law_201 : decode bLa_law 201 = .ok (.iconst 2, 1) := by decide +kernel
theorem dLa_law_202 : decode bLa_law 202 = .ok (.iadd, 1) := by decide +kernel
theorem dLa_law_203 : decode bLa_law 203 = .ok (.iaload, 1) := by decide +kernel
theorem dLa_law_204 : decode bLa_law 204 = .ok (.invokevirtual 69, 3) := by decide +kernel
theorem dLa_law_207 : decode bLa_law 207 = .ok (.istore 6, 2) := by decide +kernel
theorem dLa_law_209 : decode bLa_law 209 = .ok (.aload_n 2, 1) := by decide +kernel
theorem dLa_law_210 : decode bLa_law 210 = .ok (.invokevirtual 62, 3) := by decide +kernel
theorem dLa_law_213 : decode bLa_law 213 = .ok (.iload 5, 2) := by decide +kernel
theorem dLa_law_215 : decode bLa_law 215 = .ok (.if_icmp .eq 5, 3) := by decide +kernel
theorem dLa_law_218 : decode bLa_law 218 = .ok (.iconst 0, 1) := by decide +kernel
theorem dLa_law_219 : decode bLa_law 219 = .ok (.ireturn, 1) := by decide +kernel
theorem dLa_law_220 : decode bLa_law 220 = .ok (.iload 5, 2) := by decide +kernel
theorem dLa_law_222 : decode bLa_law 222 = .ok (.ifCond .ne 15, 3) := by decide +kernel
theorem dLa_law_225 : decode bLa_law 225 = .ok (.aload_n 3, 1) := by decide +kernel
theorem dLa_law_226 : decode bLa_law 226 = .ok (.iconst 0, 1) := by decide +kernel
theorem dLa_law_227 : decode bLa_law 227 = .ok (.laload, 1) := by decide +kernel
theorem dLa_law_228 : decode bLa_law 228 = .ok (.iload 6, 2) := by decide +kernel
theorem dLa_law_230 : decode bLa_law 230 = .ok (.i2l, 1) := by decide +kernel
theorem dLa_law_231 : decode bLa_law 231 = .ok (.lcmp, 1) := by decide +kernel
theorem dLa_law_232 : decode bLa_law 232 = .ok (.ifCond .eq 5, 3) := by decide +kernel
theorem dLa_law_235 : decode bLa_law 235 = .ok (.iconst 0, 1) := by decide +kernel
theorem dLa_law_236 : decode bLa_law 236 = .ok (.ireturn, 1) := by decide +kernel
theorem dLa_law_237 : decode bLa_law 237 = .ok (.goto 860, 3) := by decide +kernel
theorem dLa_law_240 : decode bLa_law 240 = .ok (.aload_n 1, 1) := by decide +kernel
theorem dLa_law_241 : decode bLa_law 241 = .ok (.aload_n 0, 1) := by decide +kernel
theorem dLa_law_242 : decode bLa_law 242 = .ok (.iload 4, 2) := by decide +kernel
theorem dLa_law_244 : decode bLa_law 244 = .ok (.iconst 1, 1) := by decide +kernel
theorem dLa_law_245 : decode bLa_law 245 = .ok (.iadd, 1) := by decide +kernel
theorem dLa_law_246 : decode bLa_law 246 = .ok (.iaload, 1) := by decide +kernel
theorem dLa_law_247 : decode bLa_law 247 = .ok (.aload_n 0, 1) := by decide +kernel
theorem dLa_law_248 : decode bLa_law 248 = .ok (.iload 4, 2) := by decide +kernel
theorem dLa_law_250 : decode bLa_law 250 = .ok (.iconst 2, 1) := by decide +kernel
theorem dLa_law_251 : decode bLa_law 251 = .ok (.iadd, 1) := by decide +kernel
theorem dLa_law_252 : decode bLa_law 252 = .ok (.iaload, 1) := by decide +kernel
theorem dLa_law_253 : decode bLa_law 253 = .ok (.aload_n 0, 1) := by decide +kernel
theorem dLa_law_254 : decode bLa_law 254 = .ok (.iload 4, 2) := by decide +kernel
theorem dLa_law_256 : decode bLa_law 256 = .ok (.iconst 3, 1) := by decide +kernel
theorem dLa_law_257 : decode bLa_law 257 = .ok (.iadd, 1) := by decide +kernel
theorem dLa_law_258 : decode bLa_law 258 = .ok (.iaload, 1) := by decide +kernel
theorem dLa_law_259 : decode bLa_law 259 = .ok (.i2l, 1) := by decide +kernel
theorem dLa_law_260 : decode bLa_law 260 = .ok (.bipush 32, 2) := by decide +kernel
theorem dLa_law_262 : decode bLa_law 262 = .ok (.lshl, 1) := by decide +kernel
theorem dLa_law_263 : decode bLa_law 263 = .ok (.aload_n 0, 1) := by decide +kernel
theorem dLa_law_264 : decode bLa_law 264 = .ok (.iload 4, 2) := by decide +kernel
theorem dLa_law_266 : decode bLa_law 266 = .ok (.iconst 4, 1) := by decide +kernel
theorem dLa_law_267 : decode bLa_law 267 = .ok (.iadd, 1) := by decide +kernel
theorem dLa_law_268 : decode bLa_law 268 = .ok (.iaload, 1) := by decide +kernel
theorem dLa_law_269 : decode bLa_law 269 = .ok (.i2l, 1) := by decide +kernel
theorem dLa_law_270 : decode bLa_law 270 = .ok (.ldc2_w 70, 3) := by decide +kernel
theorem dLa_law_273 : decode bLa_law 273 = .ok (.land, 1) := by decide +kernel
theorem dLa_law_274 : decode bLa_law 274 = .ok (.lor, 1) := by decide +kernel
theorem dLa_law_275 : decode bLa_law 275 = .ok (.invokevirtual 72, 3) := by decide +kernel
theorem dLa_law_278 : decode bLa_law 278 = .ok (.aload_n 2, 1) := by decide +kernel
theorem dLa_law_279 : decode bLa_law 279 = .ok (.aload_n 0, 1) := by decide +kernel
theorem dLa_law_280 : decode bLa_law 280 = .ok (.iload 4, 2) := by decide +kernel
theorem dLa_law_282 : decode bLa_law 282 = .ok (.iconst 1, 1) := by decide +kernel
theorem dLa_law_283 : decode bLa_law 283 = .ok (.iadd, 1) := by decide +kernel
theorem dLa_law_284 : decode bLa_law 284 = .ok (.iaload, 1) := by decide +kernel
theorem dLa_law_285 : decode bLa_law 285 = .ok (.aload_n 0, 1) := by decide +kernel
theorem dLa_law_286 : decode bLa_law 286 = .ok (.iload 4, 2) := by decide +kernel
theorem dLa_law_288 : decode bLa_law 288 = .ok (.iconst 2, 1) := by decide +kernel
theorem dLa_law_289 : decode bLa_law 289 = .ok (.iadd, 1) := by decide +kernel
theorem dLa_law_290 : decode bLa_law 290 = .ok (.iaload, 1) := by decide +kernel
theorem dLa_law_291 : decode bLa_law 291 = .ok (.aload_n 0, 1) := by decide +kernel
theorem dLa_law_292 : decode bLa_law 292 = .ok (.iload 4, 2) := by decide +kernel
theorem dLa_law_294 : decode bLa_law 294 = .ok (.iconst 3, 1) := by decide +kernel
theorem dLa_law_295 : decode bLa_law 295 = .ok (.iadd, 1) := by decide +kernel
theorem dLa_law_296 : decode bLa_law 296 = .ok (.iaload, 1) := by decide +kernel
theorem dLa_law_297 : decode bLa_law 297 = .ok (.i2l, 1) := by decide +kernel
theorem dLa_law_298 : decode bLa_law 298 = .ok (.bipush 32, 2) := by decide +kernel
theorem dLa_law_300 : decode bLa_law 300 = .ok (.lshl, 1) := by decide +kernel
theorem dLa_law_301 : decode bLa_law 301 = .ok (.aload_n 0, 1) := by decide +kernel
theorem dLa_law_302 : decode bLa_law 302 = .ok (.iload 4, 2) := by decide +kernel
theorem dLa_law_304 : decode bLa_law 304 = .ok (.iconst 4, 1) := by decide +kernel
theorem dLa_law_305 : decode bLa_law 305 = .ok (.iadd, 1) := by decide +kernel
theorem dLa_law_306 : decode bLa_law 306 = .ok (.iaload, 1) := by decide +kernel
theorem dLa_law_307 : decode bLa_law 307 = .ok (.i2l, 1) := by decide +kernel
theorem dLa_law_308 : decode bLa_law 308 = .ok (.ldc2_w 70, 3) := by decide +kernel
theorem dLa_law_311 : decode bLa_law 311 = .ok (.land, 1) := by decide +kernel
theorem dLa_law_312 : decode bLa_law 312 = .ok (.lor, 1) := by decide +kernel
theorem dLa_law_313 : decode bLa_law 313 = .ok (.invokevirtual 76, 3) := by decide +kernel
theorem dLa_law_316 : decode bLa_law 316 = .ok (.if_icmp .eq 781, 3) := by decide +kernel
theorem dLa_law_319 : decode bLa_law 319 = .ok (.iconst 0, 1) := by decide +kernel
theorem dLa_law_320 : decode bLa_law 320 = .ok (.ireturn, 1) := by decide +kernel
theorem dLa_law_321 : decode bLa_law 321 = .ok (.aload_n 1, 1) := by decide +kernel
theorem dLa_law_322 : decode bLa_law 322 = .ok (.aload_n 0, 1) := by decide +kernel
theorem dLa_law_323 : decode bLa_law 323 = .ok (.iload 4, 2) := by decide +kernel
theorem dLa_law_325 : decode bLa_law 325 = .ok (.iconst 1, 1) := by decide +kernel
theorem dLa_law_326 : decode bLa_law 326 = .ok (.iadd, 1) := by decide +kernel
theorem dLa_law_327 : decode bLa_law 327 = .ok (.iaload, 1) := by decide +kernel
theorem dLa_law_328 : decode bLa_law 328 = .ok (.aload_n 0, 1) := by decide +kernel
theorem dLa_law_329 : decode bLa_law 329 = .ok (.iload 4, 2) := by decide +kernel
theorem dLa_law_331 : decode bLa_law 331 = .ok (.iconst 2, 1) := by decide +kernel
theorem dLa_law_332 : decode bLa_law 332 = .ok (.iadd, 1) := by decide +kernel
theorem dLa_law_333 : decode bLa_law 333 = .ok (.iaload, 1) := by decide +kernel
theorem dLa_law_334 : decode bLa_law 334 = .ok (.ifCond .eq 7, 3) := by decide +kernel
theorem dLa_law_337 : decode bLa_law 337 = .ok (.iconst 1, 1) := by decide +kernel
theorem dLa_law_338 : decode bLa_law 338 = .ok (.goto 4, 3) := by decide +kernel
theorem dLa_law_341 : decode bLa_law 341 = .ok (.iconst 0, 1) := by decide +kernel
theorem dLa_law_342 : decode bLa_law 342 = .ok (.invokevirtual 77, 3) := by decide +kernel
theorem dLa_law_345 : decode bLa_law 345 = .ok (.aload_n 2, 1) := by decide +kernel
theorem dLa_law_346 : decode bLa_law 346 = .ok (.aload_n 0, 1) := by decide +kernel
theorem dLa_law_347 : decode bLa_law 347 = .ok (.iload 4, 2) := by decide +kernel
theorem dLa_law_349 : decode bLa_law 349 = .ok (.iconst 1, 1) := by decide +kernel
theorem dLa_law_350 : decode bLa_law 350 = .ok (.iadd, 1) := by decide +kernel
theorem dLa_law_351 : decode bLa_law 351 = .ok (.iaload, 1) := by decide +kernel
theorem dLa_law_352 : decode bLa_law 352 = .ok (.aload_n 0, 1) := by decide +kernel
theorem dLa_law_353 : decode bLa_law 353 = .ok (.iload 4, 2) := by decide +kernel
theorem dLa_law_355 : decode bLa_law 355 = .ok (.iconst 2, 1) := by decide +kernel
theorem dLa_law_356 : decode bLa_law 356 = .ok (.iadd, 1) := by decide +kernel
theorem dLa_law_357 : decode bLa_law 357 = .ok (.iaload, 1) := by decide +kernel
theorem dLa_law_358 : decode bLa_law 358 = .ok (.ifCond .eq 7, 3) := by decide +kernel
theorem dLa_law_361 : decode bLa_law 361 = .ok (.iconst 1, 1) := by decide +kernel
theorem dLa_law_362 : decode bLa_law 362 = .ok (.goto 4, 3) := by decide +kernel
theorem dLa_law_365 : decode bLa_law 365 = .ok (.iconst 0, 1) := by decide +kernel
theorem dLa_law_366 : decode bLa_law 366 = .ok (.invokevirtual 81, 3) := by decide +kernel
theorem dLa_law_369 : decode bLa_law 369 = .ok (.if_icmp .eq 728, 3) := by decide +kernel
theorem dLa_law_372 : decode bLa_law 372 = .ok (.iconst 0, 1) := by decide +kernel
theorem dLa_law_373 : decode bLa_law 373 = .ok (.ireturn, 1) := by decide +kernel
theorem dLa_law_374 : decode bLa_law 374 = .ok (.aload_n 1, 1) := by decide +kernel
theorem dLa_law_375 : decode bLa_law 375 = .ok (.aload_n 0, 1) := by decide +kernel
theorem dLa_law_376 : decode bLa_law 376 = .ok (.iload 4, 2) := by decide +kernel
theorem dLa_law_378 : decode bLa_law 378 = .ok (.iconst 1, 1) := by decide +kernel
theorem dLa_law_379 : decode bLa_law 379 = .ok (.iadd, 1) := by decide +kernel
theorem dLa_law_380 : decode bLa_law 380 = .ok (.iaload, 1) := by decide +kernel
theorem dLa_law_381 : decode bLa_law 381 = .ok (.aload_n 3, 1) := by decide +kernel
theorem dLa_law_382 : decode bLa_law 382 = .ok (.invokestatic 82, 3) := by decide +kernel
theorem dLa_law_385 : decode bLa_law 385 = .ok (.istore 5, 2) := by decide +kernel
theorem dLa_law_387 : decode bLa_law 387 = .ok (.aload_n 2, 1) := by decide +kernel
theorem dLa_law_388 : decode bLa_law 388 = .ok (.aload_n 0, 1) := by decide +kernel
theorem dLa_law_389 : decode bLa_law 389 = .ok (.iload 4, 2) := by decide +kernel
theorem dLa_law_391 : decode bLa_law 391 = .ok (.iconst 1, 1) := by decide +kernel
theorem dLa_law_392 : decode bLa_law 392 = .ok (.iadd, 1) := by decide +kernel
theorem dLa_law_393 : decode bLa_law 393 = .ok (.iaload, 1) := by decide +kernel
theorem dLa_law_394 : decode bLa_law 394 = .ok (.invokevirtual 84, 3) := by decide +kernel
theorem dLa_law_397 : decode bLa_law 397 = .ok (.istore 6, 2) := by decide +kernel
theorem dLa_law_399 : decode bLa_law 399 = .ok (.aload_n 2, 1) := by decide +kernel
theorem dLa_law_400 : decode bLa_law 400 = .ok (.invokevirtual 62, 3) := by decide +kernel
theorem dLa_law_403 : decode bLa_law 403 = .ok (.iload 5, 2) := by decide +kernel
theorem dLa_law_405 : decode bLa_law 405 = .ok (.if_icmp .eq 5, 3) := by decide +kernel
theorem dLa_law_408 : decode bLa_law 408 = .ok (.iconst 0, 1) := by decide +kernel
theorem dLa_law_409 : decode bLa_law 409 = .ok (.ireturn, 1) := by decide +kernel
theorem dLa_law_410 : decode bLa_law 410 = .ok (.iload 5, 2) := by decide +kernel
theorem dLa_law_412 : decode bLa_law 412 = .ok (.ifCond .ne 15, 3) := by decide +kernel
theorem dLa_law_415 : decode bLa_law 415 = .ok (.aload_n 3, 1) := by decide +kernel
theorem dLa_law_416 : decode bLa_law 416 = .ok (.iconst 0, 1) := by decide +kernel
theorem dLa_law_417 : decode bLa_law 417 = .ok (.laload, 1) := by decide +kernel
theorem dLa_law_418 : decode bLa_law 418 = .ok (.iload 6, 2) := by decide +kernel
theorem dLa_law_420 : decode bLa_law 420 = .ok (.i2l, 1) := by decide +kernel
theorem dLa_law_421 : decode bLa_law 421 = .ok (.lcmp, 1) := by decide +kernel
theorem dLa_law_422 : decode bLa_law 422 = .ok (.ifCond .eq 5, 3) := by decide +kernel
theorem dLa_law_425 : decode bLa_law 425 = .ok (.iconst 0, 1) := by decide +kernel
theorem dLa_law_426 : decode bLa_law 426 = .ok (.ireturn, 1) := by decide +kernel
theorem dLa_law_427 : decode bLa_law 427 = .ok (.goto 670, 3) := by decide +kernel
theorem dLa_law_430 : decode bLa_law 430 = .ok (.aload_n 1, 1) := by decide +kernel
theorem dLa_law_431 : decode bLa_law 431 = .ok (.aload_n 0, 1) := by decide +kernel
theorem dLa_law_432 : decode bLa_law 432 = .ok (.iload 4, 2) := by decide +kernel
theorem dLa_law_434 : decode bLa_law 434 = .ok (.iconst 1, 1) := by decide +kernel
theorem dLa_law_435 : decode bLa_law 435 = .ok (.iadd, 1) := by decide +kernel
theorem dLa_law_436 : decode bLa_law 436 = .ok (.iaload, 1) := by decide +kernel
theorem dLa_law_437 : decode bLa_law 437 = .ok (.aload_n 0, 1) := by decide +kernel
theorem dLa_law_438 : decode bLa_law 438 = .ok (.iload 4, 2) := by decide +kernel
theorem dLa_law_440 : decode bLa_law 440 = .ok (.iconst 2, 1) := by decide +kernel
theorem dLa_law_441 : decode bLa_law 441 = .ok (.iadd, 1) := by decide +kernel
theorem dLa_law_442 : decode bLa_law 442 = .ok (.iaload, 1) := by decide +kernel
theorem dLa_law_443 : decode bLa_law 443 = .ok (.aload_n 3, 1) := by decide +kernel
theorem dLa_law_444 : decode bLa_law 444 = .ok (.invokestatic 85, 3) := by decide +kernel
theorem dLa_law_447 : decode bLa_law 447 = .ok (.istore 5, 2) := by decide +kernel
theorem dLa_law_449 : decode bLa_law 449 = .ok (.aload_n 2, 1) := by decide +kernel
theorem dLa_law_450 : decode bLa_law 450 = .ok (.aload_n 0, 1) := by decide +kernel
theorem dLa_law_451 : decode bLa_law 451 = .ok (.iload 4, 2) := by decide +kernel
theorem dLa_law_453 : decode bLa_law 453 = .ok (.iconst 1, 1) := by decide +kernel
theorem dLa_law_454 : decode bLa_law 454 = .ok (.iadd, 1) := by decide +kernel
theorem dLa_law_455 : decode bLa_law 455 = .ok (.iaload, 1) := by decide +kernel
theorem dLa_law_456 : decode bLa_law 456 = .ok (.aload_n 0, 1) := by decide +kernel
theorem dLa_law_457 : decode bLa_law 457 = .ok (.iload 4, 2) := by decide +kernel
theorem dLa_law_459 : decode bLa_law 459 = .ok (.iconst 2, 1) := by decide +kernel
theorem dLa_law_460 : decode bLa_law 460 = .ok (.iadd, 1) := by decide +kernel
theorem dLa_law_461 : decode bLa_law 461 = .ok (.iaload, 1) := by decide +kernel
theorem dLa_law_462 : decode bLa_law 462 = .ok (.invokevirtual 87, 3) := by decide +kernel
theorem dLa_law_465 : decode bLa_law 465 = .ok (.istore 6, 2) := by decide +kernel
theorem dLa_law_467 : decode bLa_law 467 = .ok (.aload_n 2, 1) := by decide +kernel
theorem dLa_law_468 : decode bLa_law 468 = .ok (.invokevirtual 62, 3) := by decide +kernel
theorem dLa_law_471 : decode bLa_law 471 = .ok (.iload 5, 2) := by decide +kernel
theorem dLa_law_473 : decode bLa_law 473 = .ok (.if_icmp .eq 5, 3) := by decide +kernel
theorem dLa_law_476 : decode bLa_law 476 = .ok (.iconst 0, 1) := by decide +kernel
theorem dLa_law_477 : decode bLa_law 477 = .ok (.ireturn, 1) := by decide +kernel
theorem dLa_law_478 : decode bLa_law 478 = .ok (.iload 5, 2) := by decide +kernel
theorem dLa_law_480 : decode bLa_law 480 = .ok (.ifCond .ne 15, 3) := by decide +kernel
theorem dLa_law_483 : decode bLa_law 483 = .ok (.aload_n 3, 1) := by decide +kernel
theorem dLa_law_484 : decode bLa_law 484 = .ok (.iconst 0, 1) := by decide +kernel
theorem dLa_law_485 : decode bLa_law 485 = .ok (.laload, 1) := by decide +kernel
theorem dLa_law_486 : decode bLa_law 486 = .ok (.iload 6, 2) := by decide +kernel
theorem dLa_law_488 : decode bLa_law 488 = .ok (.i2l, 1) := by decide +kernel
theorem dLa_law_489 : decode bLa_law 489 = .ok (.lcmp, 1) := by decide +kernel
theorem dLa_law_490 : decode bLa_law 490 = .ok (.ifCond .eq 5, 3) := by decide +kernel
theorem dLa_law_493 : decode bLa_law 493 = .ok (.iconst 0, 1) := by decide +kernel
theorem dLa_law_494 : decode bLa_law 494 = .ok (.ireturn, 1) := by decide +kernel
theorem dLa_law_495 : decode bLa_law 495 = .ok (.goto 602, 3) := by decide +kernel
theorem dLa_law_498 : decode bLa_law 498 = .ok (.aload_n 1, 1) := by decide +kernel
theorem dLa_law_499 : decode bLa_law 499 = .ok (.aload_n 0, 1) := by decide +kernel
theorem dLa_law_500 : decode bLa_law 500 = .ok (.iload 4, 2) := by decide +kernel
theorem dLa_law_502 : decode bLa_law 502 = .ok (.iconst 1, 1) := by decide +kernel
theorem dLa_law_503 : decode bLa_law 503 = .ok (.iadd, 1) := by decide +kernel
theorem dLa_law_504 : decode bLa_law 504 = .ok (.iaload, 1) := by decide +kernel
theorem dLa_law_505 : decode bLa_law 505 = .ok (.invokevirtual 88, 3) := by decide +kernel
theorem dLa_law_508 : decode bLa_law 508 = .ok (.aload_n 2, 1) := by decide +kernel
theorem dLa_law_509 : decode bLa_law 509 = .ok (.aload_n 0, 1) := by decide +kernel
theorem dLa_law_510 : decode bLa_law 510 = .ok (.iload 4, 2) := by decide +kernel
theorem dLa_law_512 : decode bLa_law 512 = .ok (.iconst 1, 1) := by decide +kernel
theorem dLa_law_513 : decode bLa_law 513 = .ok (.iadd, 1) := by decide +kernel
theorem dLa_law_514 : decode bLa_law 514 = .ok (.iaload, 1) := by decide +kernel
theorem dLa_law_515 : decode bLa_law 515 = .ok (.invokevirtual 92, 3) := by decide +kernel
theorem dLa_law_518 : decode bLa_law 518 = .ok (.if_icmp .eq 579, 3) := by decide +kernel
theorem dLa_law_521 : decode bLa_law 521 = .ok (.iconst 0, 1) := by decide +kernel
theorem dLa_law_522 : decode bLa_law 522 = .ok (.ireturn, 1) := by decide +kernel
theorem dLa_law_523 : decode bLa_law 523 = .ok (.aload_n 1, 1) := by decide +kernel
theorem dLa_law_524 : decode bLa_law 524 = .ok (.aload_n 0, 1) := by decide +kernel
theorem dLa_law_525 : decode bLa_law 525 = .ok (.iload 4, 2) := by decide +kernel
theorem dLa_law_527 : decode bLa_law 527 = .ok (.iconst 1, 1) := by decide +kernel
theorem dLa_law_528 : decode bLa_law 528 = .ok (.iadd, 1) := by decide +kernel
theorem dLa_law_529 : decode bLa_law 529 = .ok (.iaload, 1) := by decide +kernel
theorem dLa_law_530 : decode bLa_law 530 = .ok (.aload_n 0, 1) := by decide +kernel
theorem dLa_law_531 : decode bLa_law 531 = .ok (.iload 4, 2) := by decide +kernel
theorem dLa_law_533 : decode bLa_law 533 = .ok (.iconst 2, 1) := by decide +kernel
theorem dLa_law_534 : decode bLa_law 534 = .ok (.iadd, 1) := by decide +kernel
theorem dLa_law_535 : decode bLa_law 535 = .ok (.iaload, 1) := by decide +kernel
theorem dLa_law_536 : decode bLa_law 536 = .ok (.aload_n 0, 1) := by decide +kernel
theorem dLa_law_537 : decode bLa_law 537 = .ok (.iload 4, 2) := by decide +kernel
theorem dLa_law_539 : decode bLa_law 539 = .ok (.iconst 3, 1) := by decide +kernel
theorem dLa_law_540 : decode bLa_law 540 = .ok (.iadd, 1) := by decide +kernel
theorem dLa_law_541 : decode bLa_law 541 = .ok (.iaload, 1) := by decide +kernel
theorem dLa_law_542 : decode bLa_law 542 = .ok (.aload_n 3, 1) := by decide +kernel
theorem dLa_law_543 : decode bLa_law 543 = .ok (.invokestatic 93, 3) := by decide +kernel
theorem dLa_law_546 : decode bLa_law 546 = .ok (.istore 5, 2) := by decide +kernel
theorem dLa_law_548 : decode bLa_law 548 = .ok (.aload_n 2, 1) := by decide +kernel
theorem dLa_law_549 : decode bLa_law 549 = .ok (.aload_n 0, 1) := by decide +kernel
theorem dLa_law_550 : decode bLa_law 550 = .ok (.iload 4, 2) := by decide +kernel
theorem dLa_law_552 : decode bLa_law 552 = .ok (.iconst 1, 1) := by decide +kernel
theorem dLa_law_553 : decode bLa_law 553 = .ok (.iadd, 1) := by decide +kernel
theorem dLa_law_554 : decode bLa_law 554 = .ok (.iaload, 1) := by decide +kernel
theorem dLa_law_555 : decode bLa_law 555 = .ok (.aload_n 0, 1) := by decide +kernel
theorem dLa_law_556 : decode bLa_law 556 = .ok (.iload 4, 2) := by decide +kernel
theorem dLa_law_558 : decode bLa_law 558 = .ok (.iconst 2, 1) := by decide +kernel
theorem dLa_law_559 : decode bLa_law 559 = .ok (.iadd, 1) := by decide +kernel
theorem dLa_law_560 : decode bLa_law 560 = .ok (.iaload, 1) := by decide +kernel
theorem dLa_law_561 : decode bLa_law 561 = .ok (.aload_n 0, 1) := by decide +kernel
theorem dLa_law_562 : decode bLa_law 562 = .ok (.iload 4, 2) := by decide +kernel
theorem dLa_law_564 : decode bLa_law 564 = .ok (.iconst 3, 1) := by decide +kernel
theorem dLa_law_565 : decode bLa_law 565 = .ok (.iadd, 1) := by decide +kernel
theorem dLa_law_566 : decode bLa_law 566 = .ok (.iaload, 1) := by decide +kernel
theorem dLa_law_567 : decode bLa_law 567 = .ok (.invokevirtual 96, 3) := by decide +kernel
theorem dLa_law_570 : decode bLa_law 570 = .ok (.lstore 6, 2) := by decide +kernel
theorem dLa_law_572 : decode bLa_law 572 = .ok (.aload_n 2, 1) := by decide +kernel
theorem dLa_law_573 : decode bLa_law 573 = .ok (.invokevirtual 62, 3) := by decide +kernel
theorem dLa_law_576 : decode bLa_law 576 = .ok (.iload 5, 2) := by decide +kernel
theorem dLa_law_578 : decode bLa_law 578 = .ok (.if_icmp .eq 5, 3) := by decide +kernel
theorem dLa_law_581 : decode bLa_law 581 = .ok (.iconst 0, 1) := by decide +kernel
theorem dLa_law_582 : decode bLa_law 582 = .ok (.ireturn, 1) := by decide +kernel
theorem dLa_law_583 : decode bLa_law 583 = .ok (.iload 5, 2) := by decide +kernel
theorem dLa_law_585 : decode bLa_law 585 = .ok (.ifCond .ne 14, 3) := by decide +kernel
theorem dLa_law_588 : decode bLa_law 588 = .ok (.aload_n 3, 1) := by decide +kernel
theorem dLa_law_589 : decode bLa_law 589 = .ok (.iconst 0, 1) := by decide +kernel
theorem dLa_law_590 : decode bLa_law 590 = .ok (.laload, 1) := by decide +kernel
theorem dLa_law_591 : decode bLa_law 591 = .ok (.lload 6, 2) := by decide +kernel
theorem dLa_law_593 : decode bLa_law 593 = .ok (.lcmp, 1) := by decide +kernel
theorem dLa_law_594 : decode bLa_law 594 = .ok (.ifCond .eq 5, 3) := by decide +kernel
theorem dLa_law_597 : decode bLa_law 597 = .ok (.iconst 0, 1) := by decide +kernel
theorem dLa_law_598 : decode bLa_law 598 = .ok (.ireturn, 1) := by decide +kernel
theorem dLa_law_599 : decode bLa_law 599 = .ok (.goto 498, 3) := by decide +kernel
theorem dLa_law_602 : decode bLa_law 602 = .ok (.aload_n 1, 1) := by decide +kernel
theorem dLa_law_603 : decode bLa_law 603 = .ok (.aload_n 0, 1) := by decide +kernel
theorem dLa_law_604 : decode bLa_law 604 = .ok (.iload 4, 2) := by decide +kernel
theorem dLa_law_606 : decode bLa_law 606 = .ok (.iconst 1, 1) := by decide +kernel
theorem dLa_law_607 : decode bLa_law 607 = .ok (.iadd, 1) := by decide +kernel
theorem dLa_law_608 : decode bLa_law 608 = .ok (.iaload, 1) := by decide +kernel
theorem dLa_law_609 : decode bLa_law 609 = .ok (.aload_n 0, 1) := by decide +kernel
theorem dLa_law_610 : decode bLa_law 610 = .ok (.iload 4, 2) := by decide +kernel
theorem dLa_law_612 : decode bLa_law 612 = .ok (.iconst 2, 1) := by decide +kernel
theorem dLa_law_613 : decode bLa_law 613 = .ok (.iadd, 1) := by decide +kernel
theorem dLa_law_614 : decode bLa_law 614 = .ok (.iaload, 1) := by decide +kernel
theorem dLa_law_615 : decode bLa_law 615 = .ok (.aload_n 0, 1) := by decide +kernel
theorem dLa_law_616 : decode bLa_law 616 = .ok (.iload 4, 2) := by decide +kernel
theorem dLa_law_618 : decode bLa_law 618 = .ok (.iconst 3, 1) := by decide +kernel
theorem dLa_law_619 : decode bLa_law 619 = .ok (.iadd, 1) := by decide +kernel
theorem dLa_law_620 : decode bLa_law 620 = .ok (.iaload, 1) := by decide +kernel
theorem dLa_law_621 : decode bLa_law 621 = .ok (.aload_n 3, 1) := by decide +kernel
theorem dLa_law_622 : decode bLa_law 622 = .ok (.invokestatic 97, 3) := by decide +kernel
theorem dLa_law_625 : decode bLa_law 625 = .ok (.istore 5, 2) := by decide +kernel
theorem dLa_law_627 : decode bLa_law 627 = .ok (.aload_n 2, 1) := by decide +kernel
theorem dLa_law_628 : decode bLa_law 628 = .ok (.aload_n 0, 1) := by decide +kernel
theorem dLa_law_629 : decode bLa_law 629 = .ok (.iload 4, 2) := by decide +kernel
theorem dLa_law_631 : decode bLa_law 631 = .ok (.iconst 1, 1) := by decide +kernel
theorem dLa_law_632 : decode bLa_law 632 = .ok (.iadd, 1) := by decide +kernel
theorem dLa_law_633 : decode bLa_law 633 = .ok (.iaload, 1) := by decide +kernel
theorem dLa_law_634 : decode bLa_law 634 = .ok (.aload_n 0, 1) := by decide +kernel
theorem dLa_law_635 : decode bLa_law 635 = .ok (.iload 4, 2) := by decide +kernel
theorem dLa_law_637 : decode bLa_law 637 = .ok (.iconst 2, 1) := by decide +kernel
theorem dLa_law_638 : decode bLa_law 638 = .ok (.iadd, 1) := by decide +kernel
theorem dLa_law_639 : decode bLa_law 639 = .ok (.iaload, 1) := by decide +kernel
theorem dLa_law_640 : decode bLa_law 640 = .ok (.aload_n 0, 1) := by decide +kernel
theorem dLa_law_641 : decode bLa_law 641 = .ok (.iload 4, 2) := by decide +kernel
theorem dLa_law_643 : decode bLa_law 643 = .ok (.iconst 3, 1) := by decide +kernel
theorem dLa_law_644 : decode bLa_law 644 = .ok (.iadd, 1) := by decide +kernel
theorem dLa_law_645 : decode bLa_law 645 = .ok (.iaload, 1) := by decide +kernel
theorem dLa_law_646 : decode bLa_law 646 = .ok (.invokevirtual 99, 3) := by decide +kernel
theorem dLa_law_649 : decode bLa_law 649 = .ok (.lstore 6, 2) := by decide +kernel
theorem dLa_law_651 : decode bLa_law 651 = .ok (.aload_n 2, 1) := by decide +kernel
theorem dLa_law_652 : decode bLa_law 652 = .ok (.invokevirtual 62, 3) := by decide +kernel
theorem dLa_law_655 : decode bLa_law 655 = .ok (.iload 5, 2) := by decide +kernel
theorem dLa_law_657 : decode bLa_law 657 = .ok (.if_icmp .eq 5, 3) := by decide +kernel
theorem dLa_law_660 : decode bLa_law 660 = .ok (.iconst 0, 1) := by decide +kernel
theorem dLa_law_661 : decode bLa_law 661 = .ok (.ireturn, 1) := by decide +kernel
theorem dLa_law_662 : decode bLa_law 662 = .ok (.iload 5, 2) := by decide +kernel
theorem dLa_law_664 : decode bLa_law 664 = .ok (.ifCond .ne 14, 3) := by decide +kernel
theorem dLa_law_667 : decode bLa_law 667 = .ok (.aload_n 3, 1) := by decide +kernel
theorem dLa_law_668 : decode bLa_law 668 = .ok (.iconst 0, 1) := by decide +kernel
theorem dLa_law_669 : decode bLa_law 669 = .ok (.laload, 1) := by decide +kernel
theorem dLa_law_670 : decode bLa_law 670 = .ok (.lload 6, 2) := by decide +kernel
theorem dLa_law_672 : decode bLa_law 672 = .ok (.lcmp, 1) := by decide +kernel
theorem dLa_law_673 : decode bLa_law 673 = .ok (.ifCond .eq 5, 3) := by decide +kernel
theorem dLa_law_676 : decode bLa_law 676 = .ok (.iconst 0, 1) := by decide +kernel
theorem dLa_law_677 : decode bLa_law 677 = .ok (.ireturn, 1) := by decide +kernel
theorem dLa_law_678 : decode bLa_law 678 = .ok (.goto 419, 3) := by decide +kernel
theorem dLa_law_681 : decode bLa_law 681 = .ok (.aload_n 1, 1) := by decide +kernel
theorem dLa_law_682 : decode bLa_law 682 = .ok (.aload_n 0, 1) := by decide +kernel
theorem dLa_law_683 : decode bLa_law 683 = .ok (.iload 4, 2) := by decide +kernel
theorem dLa_law_685 : decode bLa_law 685 = .ok (.iconst 1, 1) := by decide +kernel
theorem dLa_law_686 : decode bLa_law 686 = .ok (.iadd, 1) := by decide +kernel
theorem dLa_law_687 : decode bLa_law 687 = .ok (.iaload, 1) := by decide +kernel
theorem dLa_law_688 : decode bLa_law 688 = .ok (.aload_n 0, 1) := by decide +kernel
theorem dLa_law_689 : decode bLa_law 689 = .ok (.iload 4, 2) := by decide +kernel
theorem dLa_law_691 : decode bLa_law 691 = .ok (.iconst 2, 1) := by decide +kernel
theorem dLa_law_692 : decode bLa_law 692 = .ok (.iadd, 1) := by decide +kernel
theorem dLa_law_693 : decode bLa_law 693 = .ok (.iaload, 1) := by decide +kernel
theorem dLa_law_694 : decode bLa_law 694 = .ok (.aload_n 0, 1) := by decide +kernel
theorem dLa_law_695 : decode bLa_law 695 = .ok (.iload 4, 2) := by decide +kernel
theorem dLa_law_697 : decode bLa_law 697 = .ok (.iconst 3, 1) := by decide +kernel
theorem dLa_law_698 : decode bLa_law 698 = .ok (.iadd, 1) := by decide +kernel
theorem dLa_law_699 : decode bLa_law 699 = .ok (.iaload, 1) := by decide +kernel
theorem dLa_law_700 : decode bLa_law 700 = .ok (.invokevirtual 100, 3) := by decide +kernel
theorem dLa_law_703 : decode bLa_law 703 = .ok (.aload_n 2, 1) := by decide +kernel
theorem dLa_law_704 : decode bLa_law 704 = .ok (.aload_n 0, 1) := by decide +kernel
theorem dLa_law_705 : decode bLa_law 705 = .ok (.iload 4, 2) := by decide +kernel
theorem dLa_law_707 : decode bLa_law 707 = .ok (.iconst 1, 1) := by decide +kernel
theorem dLa_law_708 : decode bLa_law 708 = .ok (.iadd, 1) := by decide +kernel
theorem dLa_law_709 : decode bLa_law 709 = .ok (.iaload, 1) := by decide +kernel
theorem dLa_law_710 : decode bLa_law 710 = .ok (.aload_n 0, 1) := by decide +kernel
theorem dLa_law_711 : decode bLa_law 711 = .ok (.iload 4, 2) := by decide +kernel
theorem dLa_law_713 : decode bLa_law 713 = .ok (.iconst 2, 1) := by decide +kernel
theorem dLa_law_714 : decode bLa_law 714 = .ok (.iadd, 1) := by decide +kernel
theorem dLa_law_715 : decode bLa_law 715 = .ok (.iaload, 1) := by decide +kernel
theorem dLa_law_716 : decode bLa_law 716 = .ok (.aload_n 0, 1) := by decide +kernel
theorem dLa_law_717 : decode bLa_law 717 = .ok (.iload 4, 2) := by decide +kernel
theorem dLa_law_719 : decode bLa_law 719 = .ok (.iconst 3, 1) := by decide +kernel
theorem dLa_law_720 : decode bLa_law 720 = .ok (.iadd, 1) := by decide +kernel
theorem dLa_law_721 : decode bLa_law 721 = .ok (.iaload, 1) := by decide +kernel
theorem dLa_law_722 : decode bLa_law 722 = .ok (.invokevirtual 104, 3) := by decide +kernel
theorem dLa_law_725 : decode bLa_law 725 = .ok (.if_icmp .eq 372, 3) := by decide +kernel
theorem dLa_law_728 : decode bLa_law 728 = .ok (.iconst 0, 1) := by decide +kernel
theorem dLa_law_729 : decode bLa_law 729 = .ok (.ireturn, 1) := by decide +kernel
theorem dLa_law_730 : decode bLa_law 730 = .ok (.aload_n 1, 1) := by decide +kernel
theorem dLa_law_731 : decode bLa_law 731 = .ok (.aload_n 0, 1) := by decide +kernel
theorem dLa_law_732 : decode bLa_law 732 = .ok (.iload 4, 2) := by decide +kernel
theorem dLa_law_734 : decode bLa_law 734 = .ok (.iconst 1, 1) := by decide +kernel
theorem dLa_law_735 : decode bLa_law 735 = .ok (.iadd, 1) := by decide +kernel
theorem dLa_law_736 : decode bLa_law 736 = .ok (.iaload, 1) := by decide +kernel
theorem dLa_law_737 : decode bLa_law 737 = .ok (.aload_n 0, 1) := by decide +kernel
theorem dLa_law_738 : decode bLa_law 738 = .ok (.iload 4, 2) := by decide +kernel
theorem dLa_law_740 : decode bLa_law 740 = .ok (.iconst 2, 1) := by decide +kernel
theorem dLa_law_741 : decode bLa_law 741 = .ok (.iadd, 1) := by decide +kernel
theorem dLa_law_742 : decode bLa_law 742 = .ok (.iaload, 1) := by decide +kernel
theorem dLa_law_743 : decode bLa_law 743 = .ok (.invokevirtual 105, 3) := by decide +kernel
theorem dLa_law_746 : decode bLa_law 746 = .ok (.aload_n 2, 1) := by decide +kernel
theorem dLa_law_747 : decode bLa_law 747 = .ok (.aload_n 0, 1) := by decide +kernel
theorem dLa_law_748 : decode bLa_law 748 = .ok (.iload 4, 2) := by decide +kernel
theorem dLa_law_750 : decode bLa_law 750 = .ok (.iconst 1, 1) := by decide +kernel
theorem dLa_law_751 : decode bLa_law 751 = .ok (.iadd, 1) := by decide +kernel
theorem dLa_law_752 : decode bLa_law 752 = .ok (.iaload, 1) := by decide +kernel
theorem dLa_law_753 : decode bLa_law 753 = .ok (.aload_n 0, 1) := by decide +kernel
theorem dLa_law_754 : decode bLa_law 754 = .ok (.iload 4, 2) := by decide +kernel
theorem dLa_law_756 : decode bLa_law 756 = .ok (.iconst 2, 1) := by decide +kernel
theorem dLa_law_757 : decode bLa_law 757 = .ok (.iadd, 1) := by decide +kernel
theorem dLa_law_758 : decode bLa_law 758 = .ok (.iaload, 1) := by decide +kernel
theorem dLa_law_759 : decode bLa_law 759 = .ok (.invokevirtual 109, 3) := by decide +kernel
theorem dLa_law_762 : decode bLa_law 762 = .ok (.if_icmp .eq 335, 3) := by decide +kernel
theorem dLa_law_765 : decode bLa_law 765 = .ok (.iconst 0, 1) := by decide +kernel
theorem dLa_law_766 : decode bLa_law 766 = .ok (.ireturn, 1) := by decide +kernel
theorem dLa_law_767 : decode bLa_law 767 = .ok (.aload_n 1, 1) := by decide +kernel
theorem dLa_law_768 : decode bLa_law 768 = .ok (.aload_n 0, 1) := by decide +kernel
theorem dLa_law_769 : decode bLa_law 769 = .ok (.iload 4, 2) := by decide +kernel
theorem dLa_law_771 : decode bLa_law 771 = .ok (.iconst 1, 1) := by decide +kernel
theorem dLa_law_772 : decode bLa_law 772 = .ok (.iadd, 1) := by decide +kernel
theorem dLa_law_773 : decode bLa_law 773 = .ok (.iaload, 1) := by decide +kernel
theorem dLa_law_774 : decode bLa_law 774 = .ok (.aload_n 0, 1) := by decide +kernel
theorem dLa_law_775 : decode bLa_law 775 = .ok (.iload 4, 2) := by decide +kernel
theorem dLa_law_777 : decode bLa_law 777 = .ok (.iconst 2, 1) := by decide +kernel
theorem dLa_law_778 : decode bLa_law 778 = .ok (.iadd, 1) := by decide +kernel
theorem dLa_law_779 : decode bLa_law 779 = .ok (.iaload, 1) := by decide +kernel
theorem dLa_law_780 : decode bLa_law 780 = .ok (.aload_n 0, 1) := by decide +kernel
theorem dLa_law_781 : decode bLa_law 781 = .ok (.iload 4, 2) := by decide +kernel
theorem dLa_law_783 : decode bLa_law 783 = .ok (.iconst 3, 1) := by decide +kernel
theorem dLa_law_784 : decode bLa_law 784 = .ok (.iadd, 1) := by decide +kernel
theorem dLa_law_785 : decode bLa_law 785 = .ok (.iaload, 1) := by decide +kernel
theorem dLa_law_786 : decode bLa_law 786 = .ok (.aload_n 3, 1) := by decide +kernel
theorem dLa_law_787 : decode bLa_law 787 = .ok (.invokestatic 110, 3) := by decide +kernel
theorem dLa_law_790 : decode bLa_law 790 = .ok (.istore 5, 2) := by decide +kernel
theorem dLa_law_792 : decode bLa_law 792 = .ok (.aload_n 2, 1) := by decide +kernel
theorem dLa_law_793 : decode bLa_law 793 = .ok (.aload_n 0, 1) := by decide +kernel
theorem dLa_law_794 : decode bLa_law 794 = .ok (.iload 4, 2) := by decide +kernel
theorem dLa_law_796 : decode bLa_law 796 = .ok (.iconst 1, 1) := by decide +kernel
theorem dLa_law_797 : decode bLa_law 797 = .ok (.iadd, 1) := by decide +kernel
theorem dLa_law_798 : decode bLa_law 798 = .ok (.iaload, 1) := by decide +kernel
theorem dLa_law_799 : decode bLa_law 799 = .ok (.aload_n 0, 1) := by decide +kernel
theorem dLa_law_800 : decode bLa_law 800 = .ok (.iload 4, 2) := by decide +kernel
theorem dLa_law_802 : decode bLa_law 802 = .ok (.iconst 2, 1) := by decide +kernel
theorem dLa_law_803 : decode bLa_law 803 = .ok (.iadd, 1) := by decide +kernel
theorem dLa_law_804 : decode bLa_law 804 = .ok (.iaload, 1) := by decide +kernel
theorem dLa_law_805 : decode bLa_law 805 = .ok (.aload_n 0, 1) := by decide +kernel
theorem dLa_law_806 : decode bLa_law 806 = .ok (.iload 4, 2) := by decide +kernel
theorem dLa_law_808 : decode bLa_law 808 = .ok (.iconst 3, 1) := by decide +kernel
theorem dLa_law_809 : decode bLa_law 809 = .ok (.iadd, 1) := by decide +kernel
theorem dLa_law_810 : decode bLa_law 810 = .ok (.iaload, 1) := by decide +kernel
theorem dLa_law_811 : decode bLa_law 811 = .ok (.invokevirtual 112, 3) := by decide +kernel
theorem dLa_law_814 : decode bLa_law 814 = .ok (.lstore 6, 2) := by decide +kernel
theorem dLa_law_816 : decode bLa_law 816 = .ok (.aload_n 2, 1) := by decide +kernel
theorem dLa_law_817 : decode bLa_law 817 = .ok (.invokevirtual 62, 3) := by decide +kernel
theorem dLa_law_820 : decode bLa_law 820 = .ok (.iload 5, 2) := by decide +kernel
theorem dLa_law_822 : decode bLa_law 822 = .ok (.if_icmp .eq 5, 3) := by decide +kernel
theorem dLa_law_825 : decode bLa_law 825 = .ok (.iconst 0, 1) := by decide +kernel
theorem dLa_law_826 : decode bLa_law 826 = .ok (.ireturn, 1) := by decide +kernel
theorem dLa_law_827 : decode bLa_law 827 = .ok (.iload 5, 2) := by decide +kernel
theorem dLa_law_829 : decode bLa_law 829 = .ok (.ifCond .ne 14, 3) := by decide +kernel
theorem dLa_law_832 : decode bLa_law 832 = .ok (.aload_n 3, 1) := by decide +kernel
theorem dLa_law_833 : decode bLa_law 833 = .ok (.iconst 0, 1) := by decide +kernel
theorem dLa_law_834 : decode bLa_law 834 = .ok (.laload, 1) := by decide +kernel
theorem dLa_law_835 : decode bLa_law 835 = .ok (.lload 6, 2) := by decide +kernel
theorem dLa_law_837 : decode bLa_law 837 = .ok (.lcmp, 1) := by decide +kernel
theorem dLa_law_838 : decode bLa_law 838 = .ok (.ifCond .eq 5, 3) := by decide +kernel
theorem dLa_law_841 : decode bLa_law 841 = .ok (.iconst 0, 1) := by decide +kernel
theorem dLa_law_842 : decode bLa_law 842 = .ok (.ireturn, 1) := by decide +kernel
theorem dLa_law_843 : decode bLa_law 843 = .ok (.goto 254, 3) := by decide +kernel
theorem dLa_law_846 : decode bLa_law 846 = .ok (.aload_n 1, 1) := by decide +kernel
theorem dLa_law_847 : decode bLa_law 847 = .ok (.aload_n 0, 1) := by decide +kernel
theorem dLa_law_848 : decode bLa_law 848 = .ok (.iload 4, 2) := by decide +kernel
theorem dLa_law_850 : decode bLa_law 850 = .ok (.iconst 1, 1) := by decide +kernel
theorem dLa_law_851 : decode bLa_law 851 = .ok (.iadd, 1) := by decide +kernel
theorem dLa_law_852 : decode bLa_law 852 = .ok (.iaload, 1) := by decide +kernel
theorem dLa_law_853 : decode bLa_law 853 = .ok (.aload_n 0, 1) := by decide +kernel
theorem dLa_law_854 : decode bLa_law 854 = .ok (.iload 4, 2) := by decide +kernel
theorem dLa_law_856 : decode bLa_law 856 = .ok (.iconst 2, 1) := by decide +kernel
theorem dLa_law_857 : decode bLa_law 857 = .ok (.iadd, 1) := by decide +kernel
theorem dLa_law_858 : decode bLa_law 858 = .ok (.iaload, 1) := by decide +kernel
theorem dLa_law_859 : decode bLa_law 859 = .ok (.aload_n 0, 1) := by decide +kernel
theorem dLa_law_860 : decode bLa_law 860 = .ok (.iload 4, 2) := by decide +kernel
theorem dLa_law_862 : decode bLa_law 862 = .ok (.iconst 3, 1) := by decide +kernel
theorem dLa_law_863 : decode bLa_law 863 = .ok (.iadd, 1) := by decide +kernel
theorem dLa_law_864 : decode bLa_law 864 = .ok (.iaload, 1) := by decide +kernel
theorem dLa_law_865 : decode bLa_law 865 = .ok (.aload_n 0, 1) := by decide +kernel
theorem dLa_law_866 : decode bLa_law 866 = .ok (.iload 4, 2) := by decide +kernel
theorem dLa_law_868 : decode bLa_law 868 = .ok (.iconst 4, 1) := by decide +kernel
theorem dLa_law_869 : decode bLa_law 869 = .ok (.iadd, 1) := by decide +kernel
theorem dLa_law_870 : decode bLa_law 870 = .ok (.iaload, 1) := by decide +kernel
theorem dLa_law_871 : decode bLa_law 871 = .ok (.aload_n 3, 1) := by decide +kernel
theorem dLa_law_872 : decode bLa_law 872 = .ok (.invokestatic 113, 3) := by decide +kernel
theorem dLa_law_875 : decode bLa_law 875 = .ok (.istore 5, 2) := by decide +kernel
theorem dLa_law_877 : decode bLa_law 877 = .ok (.aload_n 2, 1) := by decide +kernel
theorem dLa_law_878 : decode bLa_law 878 = .ok (.aload_n 0, 1) := by decide +kernel
theorem dLa_law_879 : decode bLa_law 879 = .ok (.iload 4, 2) := by decide +kernel
theorem dLa_law_881 : decode bLa_law 881 = .ok (.iconst 1, 1) := by decide +kernel
theorem dLa_law_882 : decode bLa_law 882 = .ok (.iadd, 1) := by decide +kernel
theorem dLa_law_883 : decode bLa_law 883 = .ok (.iaload, 1) := by decide +kernel
theorem dLa_law_884 : decode bLa_law 884 = .ok (.aload_n 0, 1) := by decide +kernel
theorem dLa_law_885 : decode bLa_law 885 = .ok (.iload 4, 2) := by decide +kernel
theorem dLa_law_887 : decode bLa_law 887 = .ok (.iconst 2, 1) := by decide +kernel
theorem dLa_law_888 : decode bLa_law 888 = .ok (.iadd, 1) := by decide +kernel
theorem dLa_law_889 : decode bLa_law 889 = .ok (.iaload, 1) := by decide +kernel
theorem dLa_law_890 : decode bLa_law 890 = .ok (.aload_n 0, 1) := by decide +kernel
theorem dLa_law_891 : decode bLa_law 891 = .ok (.iload 4, 2) := by decide +kernel
theorem dLa_law_893 : decode bLa_law 893 = .ok (.iconst 3, 1) := by decide +kernel
theorem dLa_law_894 : decode bLa_law 894 = .ok (.iadd, 1) := by decide +kernel
theorem dLa_law_895 : decode bLa_law 895 = .ok (.iaload, 1) := by decide +kernel
theorem dLa_law_896 : decode bLa_law 896 = .ok (.aload_n 0, 1) := by decide +kernel
theorem dLa_law_897 : decode bLa_law 897 = .ok (.iload 4, 2) := by decide +kernel
theorem dLa_law_899 : decode bLa_law 899 = .ok (.iconst 4, 1) := by decide +kernel
theorem dLa_law_900 : decode bLa_law 900 = .ok (.iadd, 1) := by decide +kernel
theorem dLa_law_901 : decode bLa_law 901 = .ok (.iaload, 1) := by decide +kernel
theorem dLa_law_902 : decode bLa_law 902 = .ok (.invokevirtual 116, 3) := by decide +kernel
theorem dLa_law_905 : decode bLa_law 905 = .ok (.lstore 6, 2) := by decide +kernel
theorem dLa_law_907 : decode bLa_law 907 = .ok (.aload_n 2, 1) := by decide +kernel
theorem dLa_law_908 : decode bLa_law 908 = .ok (.invokevirtual 62, 3) := by decide +kernel
theorem dLa_law_911 : decode bLa_law 911 = .ok (.iload 5, 2) := by decide +kernel
theorem dLa_law_913 : decode bLa_law 913 = .ok (.if_icmp .eq 5, 3) := by decide +kernel
theorem dLa_law_916 : decode bLa_law 916 = .ok (.iconst 0, 1) := by decide +kernel
theorem dLa_law_917 : decode bLa_law 917 = .ok (.ireturn, 1) := by decide +kernel
theorem dLa_law_918 : decode bLa_law 918 = .ok (.iload 5, 2) := by decide +kernel
theorem dLa_law_920 : decode bLa_law 920 = .ok (.ifCond .ne 14, 3) := by decide +kernel
theorem dLa_law_923 : decode bLa_law 923 = .ok (.aload_n 3, 1) := by decide +kernel
theorem dLa_law_924 : decode bLa_law 924 = .ok (.iconst 0, 1) := by decide +kernel
theorem dLa_law_925 : decode bLa_law 925 = .ok (.laload, 1) := by decide +kernel
theorem dLa_law_926 : decode bLa_law 926 = .ok (.lload 6, 2) := by decide +kernel
theorem dLa_law_928 : decode bLa_law 928 = .ok (.lcmp, 1) := by decide +kernel
theorem dLa_law_929 : decode bLa_law 929 = .ok (.ifCond .eq 5, 3) := by decide +kernel
theorem dLa_law_932 : decode bLa_law 932 = .ok (.iconst 0, 1) := by decide +kernel
theorem dLa_law_933 : decode bLa_law 933 = .ok (.ireturn, 1) := by decide +kernel
theorem dLa_law_934 : decode bLa_law 934 = .ok (.goto 163, 3) := by decide +kernel
theorem dLa_law_937 : decode bLa_law 937 = .ok (.aload_n 1, 1) := by decide +kernel
theorem dLa_law_938 : decode bLa_law 938 = .ok (.aload_n 0, 1) := by decide +kernel
theorem dLa_law_939 : decode bLa_law 939 = .ok (.iload 4, 2) := by decide +kernel
theorem dLa_law_941 : decode bLa_law 941 = .ok (.iconst 1, 1) := by decide +kernel
theorem dLa_law_942 : decode bLa_law 942 = .ok (.iadd, 1) := by decide +kernel
theorem dLa_law_943 : decode bLa_law 943 = .ok (.iaload, 1) := by decide +kernel
theorem dLa_law_944 : decode bLa_law 944 = .ok (.aload_n 0, 1) := by decide +kernel
theorem dLa_law_945 : decode bLa_law 945 = .ok (.iload 4, 2) := by decide +kernel
theorem dLa_law_947 : decode bLa_law 947 = .ok (.iconst 2, 1) := by decide +kernel
theorem dLa_law_948 : decode bLa_law 948 = .ok (.iadd, 1) := by decide +kernel
theorem dLa_law_949 : decode bLa_law 949 = .ok (.iaload, 1) := by decide +kernel
theorem dLa_law_950 : decode bLa_law 950 = .ok (.aload_n 3, 1) := by decide +kernel
theorem dLa_law_951 : decode bLa_law 951 = .ok (.invokestatic 117, 3) := by decide +kernel
theorem dLa_law_954 : decode bLa_law 954 = .ok (.istore 5, 2) := by decide +kernel
theorem dLa_law_956 : decode bLa_law 956 = .ok (.aload_n 2, 1) := by decide +kernel
theorem dLa_law_957 : decode bLa_law 957 = .ok (.aload_n 0, 1) := by decide +kernel
theorem dLa_law_958 : decode bLa_law 958 = .ok (.iload 4, 2) := by decide +kernel
theorem dLa_law_960 : decode bLa_law 960 = .ok (.iconst 1, 1) := by decide +kernel
theorem dLa_law_961 : decode bLa_law 961 = .ok (.iadd, 1) := by decide +kernel
theorem dLa_law_962 : decode bLa_law 962 = .ok (.iaload, 1) := by decide +kernel
theorem dLa_law_963 : decode bLa_law 963 = .ok (.aload_n 0, 1) := by decide +kernel
theorem dLa_law_964 : decode bLa_law 964 = .ok (.iload 4, 2) := by decide +kernel
theorem dLa_law_966 : decode bLa_law 966 = .ok (.iconst 2, 1) := by decide +kernel
theorem dLa_law_967 : decode bLa_law 967 = .ok (.iadd, 1) := by decide +kernel
theorem dLa_law_968 : decode bLa_law 968 = .ok (.iaload, 1) := by decide +kernel
theorem dLa_law_969 : decode bLa_law 969 = .ok (.invokevirtual 119, 3) := by decide +kernel
theorem dLa_law_972 : decode bLa_law 972 = .ok (.lstore 6, 2) := by decide +kernel
theorem dLa_law_974 : decode bLa_law 974 = .ok (.aload_n 2, 1) := by decide +kernel
theorem dLa_law_975 : decode bLa_law 975 = .ok (.invokevirtual 62, 3) := by decide +kernel
theorem dLa_law_978 : decode bLa_law 978 = .ok (.iload 5, 2) := by decide +kernel
theorem dLa_law_980 : decode bLa_law 980 = .ok (.if_icmp .eq 5, 3) := by decide +kernel
theorem dLa_law_983 : decode bLa_law 983 = .ok (.iconst 0, 1) := by decide +kernel
theorem dLa_law_984 : decode bLa_law 984 = .ok (.ireturn, 1) := by decide +kernel
theorem dLa_law_985 : decode bLa_law 985 = .ok (.iload 5, 2) := by decide +kernel
theorem dLa_law_987 : decode bLa_law 987 = .ok (.ifCond .ne 14, 3) := by decide +kernel
theorem dLa_law_990 : decode bLa_law 990 = .ok (.aload_n 3, 1) := by decide +kernel
theorem dLa_law_991 : decode bLa_law 991 = .ok (.iconst 0, 1) := by decide +kernel
theorem dLa_law_992 : decode bLa_law 992 = .ok (.laload, 1) := by decide +kernel
theorem dLa_law_993 : decode bLa_law 993 = .ok (.lload 6, 2) := by decide +kernel
theorem dLa_law_995 : decode bLa_law 995 = .ok (.lcmp, 1) := by decide +kernel
theorem dLa_law_996 : decode bLa_law 996 = .ok (.ifCond .eq 5, 3) := by decide +kernel
theorem dLa_law_999 : decode bLa_law 999 = .ok (.iconst 0, 1) := by decide +kernel
theorem dLa_law_1000 : decode bLa_law 1000 = .ok (.ireturn, 1) := by decide +kernel
theorem dLa_law_1001 : decode bLa_law 1001 = .ok (.goto 96, 3) := by decide +kernel
theorem dLa_law_1004 : decode bLa_law 1004 = .ok (.aload_n 1, 1) := by decide +kernel
theorem dLa_law_1005 : decode bLa_law 1005 = .ok (.aload_n 0, 1) := by decide +kernel
theorem dLa_law_1006 : decode bLa_law 1006 = .ok (.iload 4, 2) := by decide +kernel
theorem dLa_law_1008 : decode bLa_law 1008 = .ok (.iconst 1, 1) := by decide +kernel
theorem dLa_law_1009 : decode bLa_law 1009 = .ok (.iadd, 1) := by decide +kernel
theorem dLa_law_1010 : decode bLa_law 1010 = .ok (.iaload, 1) := by decide +kernel
theorem dLa_law_1011 : decode bLa_law 1011 = .ok (.aload_n 0, 1) := by decide +kernel
theorem dLa_law_1012 : decode bLa_law 1012 = .ok (.iload 4, 2) := by decide +kernel
theorem dLa_law_1014 : decode bLa_law 1014 = .ok (.iconst 2, 1) := by decide +kernel
theorem dLa_law_1015 : decode bLa_law 1015 = .ok (.iadd, 1) := by decide +kernel
theorem dLa_law_1016 : decode bLa_law 1016 = .ok (.iaload, 1) := by decide +kernel
theorem dLa_law_1017 : decode bLa_law 1017 = .ok (.aload_n 3, 1) := by decide +kernel
theorem dLa_law_1018 : decode bLa_law 1018 = .ok (.invokestatic 120, 3) := by decide +kernel
theorem dLa_law_1021 : decode bLa_law 1021 = .ok (.istore 5, 2) := by decide +kernel
theorem dLa_law_1023 : decode bLa_law 1023 = .ok (.aload_n 2, 1) := by decide +kernel
theorem dLa_law_1024 : decode bLa_law 1024 = .ok (.aload_n 0, 1) := by decide +kernel
theorem dLa_law_1025 : decode bLa_law 1025 = .ok (.iload 4, 2) := by decide +kernel
theorem dLa_law_1027 : decode bLa_law 1027 = .ok (.iconst 1, 1) := by decide +kernel
theorem dLa_law_1028 : decode bLa_law 1028 = .ok (.iadd, 1) := by decide +kernel
theorem dLa_law_1029 : decode bLa_law 1029 = .ok (.iaload, 1) := by decide +kernel
theorem dLa_law_1030 : decode bLa_law 1030 = .ok (.aload_n 0, 1) := by decide +kernel
theorem dLa_law_1031 : decode bLa_law 1031 = .ok (.iload 4, 2) := by decide +kernel
theorem dLa_law_1033 : decode bLa_law 1033 = .ok (.iconst 2, 1) := by decide +kernel
theorem dLa_law_1034 : decode bLa_law 1034 = .ok (.iadd, 1) := by decide +kernel
theorem dLa_law_1035 : decode bLa_law 1035 = .ok (.iaload, 1) := by decide +kernel
theorem dLa_law_1036 : decode bLa_law 1036 = .ok (.invokevirtual 122, 3) := by decide +kernel
theorem dLa_law_1039 : decode bLa_law 1039 = .ok (.istore 6, 2) := by decide +kernel
theorem dLa_law_1041 : decode bLa_law 1041 = .ok (.aload_n 2, 1) := by decide +kernel
theorem dLa_law_1042 : decode bLa_law 1042 = .ok (.invokevirtual 62, 3) := by decide +kernel
theorem dLa_law_1045 : decode bLa_law 1045 = .ok (.iload 5, 2) := by decide +kernel
theorem dLa_law_1047 : decode bLa_law 1047 = .ok (.if_icmp .eq 5, 3) := by decide +kernel
theorem dLa_law_1050 : decode bLa_law 1050 = .ok (.iconst 0, 1) := by decide +kernel
theorem dLa_law_1051 : decode bLa_law 1051 = .ok (.ireturn, 1) := by decide +kernel
theorem dLa_law_1052 : decode bLa_law 1052 = .ok (.iload 5, 2) := by decide +kernel
theorem dLa_law_1054 : decode bLa_law 1054 = .ok (.ifCond .ne 15, 3) := by decide +kernel
theorem dLa_law_1057 : decode bLa_law 1057 = .ok (.aload_n 3, 1) := by decide +kernel
theorem dLa_law_1058 : decode bLa_law 1058 = .ok (.iconst 0, 1) := by decide +kernel
theorem dLa_law_1059 : decode bLa_law 1059 = .ok (.laload, 1) := by decide +kernel
theorem dLa_law_1060 : decode bLa_law 1060 = .ok (.iload 6, 2) := by decide +kernel
theorem dLa_law_1062 : decode bLa_law 1062 = .ok (.i2l, 1) := by decide +kernel
theorem dLa_law_1063 : decode bLa_law 1063 = .ok (.lcmp, 1) := by decide +kernel
theorem dLa_law_1064 : decode bLa_law 1064 = .ok (.ifCond .eq 5, 3) := by decide +kernel
theorem dLa_law_1067 : decode bLa_law 1067 = .ok (.iconst 0, 1) := by decide +kernel
theorem dLa_law_1068 : decode bLa_law 1068 = .ok (.ireturn, 1) := by decide +kernel
theorem dLa_law_1069 : decode bLa_law 1069 = .ok (.goto 28, 3) := by decide +kernel
theorem dLa_law_1072 : decode bLa_law 1072 = .ok (.aload_n 1, 1) := by decide +kernel
theorem dLa_law_1073 : decode bLa_law 1073 = .ok (.aload_n 0, 1) := by decide +kernel
theorem dLa_law_1074 : decode bLa_law 1074 = .ok (.iload 4, 2) := by decide +kernel
theorem dLa_law_1076 : decode bLa_law 1076 = .ok (.iconst 1, 1) := by decide +kernel
theorem dLa_law_1077 : decode bLa_law 1077 = .ok (.iadd, 1) := by decide +kernel
theorem dLa_law_1078 : decode bLa_law 1078 = .ok (.iaload, 1) := by decide +kernel
theorem dLa_law_1079 : decode bLa_law 1079 = .ok (.invokevirtual 123, 3) := by decide +kernel
theorem dLa_law_1082 : decode bLa_law 1082 = .ok (.aload_n 2, 1) := by decide +kernel
theorem dLa_law_1083 : decode bLa_law 1083 = .ok (.aload_n 0, 1) := by decide +kernel
theorem dLa_law_1084 : decode bLa_law 1084 = .ok (.iload 4, 2) := by decide +kernel
theorem dLa_law_1086 : decode bLa_law 1086 = .ok (.iconst 1, 1) := by decide +kernel
theorem dLa_law_1087 : decode bLa_law 1087 = .ok (.iadd, 1) := by decide +kernel
theorem dLa_law_1088 : decode bLa_law 1088 = .ok (.iaload, 1) := by decide +kernel
theorem dLa_law_1089 : decode bLa_law 1089 = .ok (.invokevirtual 126, 3) := by decide +kernel
theorem dLa_law_1092 : decode bLa_law 1092 = .ok (.if_icmp .eq 5, 3) := by decide +kernel
theorem dLa_law_1095 : decode bLa_law 1095 = .ok (.iconst 0, 1) := by decide +kernel
theorem dLa_law_1096 : decode bLa_law 1096 = .ok (.ireturn, 1) := by decide +kernel
theorem dLa_law_1097 : decode bLa_law 1097 = .ok (.iinc 4 5, 3) := by decide +kernel
theorem dLa_law_1100 : decode bLa_law 1100 = .ok (.goto (-1077), 3) := by decide +kernel
theorem dLa_law_1103 : decode bLa_law 1103 = .ok (.iconst 1, 1) := by decide +kernel
theorem dLa_law_1104 : decode bLa_law 1104 = .ok (.ireturn, 1) := by decide +kernel
theorem dLa_look_0 : decode bLa_look 0 = .ok (.aload_n 3, 1) := by decide +kernel
theorem dLa_look_1 : decode bLa_look 1 = .ok (.iconst 0, 1) := by decide +kernel
theorem dLa_look_2 : decode bLa_look 2 = .ok (.aload_n 0, 1) := by decide +kernel
theorem dLa_look_3 : decode bLa_look 3 = .ok (.iload_n 1, 1) := by decide +kernel
theorem dLa_look_4 : decode bLa_look 4 = .ok (.iload_n 2, 1) := by decide +kernel
theorem dLa_look_5 : decode bLa_look 5 = .ok (.invokevirtual 49, 3) := by decide +kernel
theorem dLa_look_8 : decode bLa_look 8 = .ok (.i2l, 1) := by decide +kernel
theorem dLa_look_9 : decode bLa_look 9 = .ok (.lastore, 1) := by decide +kernel
theorem dLa_look_10 : decode bLa_look 10 = .ok (.goto 7, 3) := by decide +kernel
theorem dLa_look_13 : decode bLa_look 13 = .ok (.astore 4, 2) := by decide +kernel
theorem dLa_look_15 : decode bLa_look 15 = .ok (.iconst 1, 1) := by decide +kernel
theorem dLa_look_16 : decode bLa_look 16 = .ok (.ireturn, 1) := by decide +kernel
theorem dLa_look_17 : decode bLa_look 17 = .ok (.iconst 0, 1) := by decide +kernel
theorem dLa_look_18 : decode bLa_look 18 = .ok (.ireturn, 1) := by decide +kernel
theorem dLa_passed_0 : decode bLa_passed 0 = .ok (.aload 4, 2) := by decide +kernel
theorem dLa_passed_2 : decode bLa_passed 2 = .ok (.iconst 0, 1) := by decide +kernel
theorem dLa_passed_3 : decode bLa_passed 3 = .ok (.aload_n 0, 1) := by decide +kernel
theorem dLa_passed_4 : decode bLa_passed 4 = .ok (.iload_n 1, 1) := by decide +kernel
theorem dLa_passed_5 : decode bLa_passed 5 = .ok (.iload_n 2, 1) := by decide +kernel
theorem dLa_passed_6 : decode bLa_passed 6 = .ok (.iload_n 3, 1) := by decide +kernel
theorem dLa_passed_7 : decode bLa_passed 7 = .ok (.invokevirtual 36, 3) := by decide +kernel
theorem dLa_passed_10 : decode bLa_passed 10 = .ok (.lastore, 1) := by decide +kernel
theorem dLa_passed_11 : decode bLa_passed 11 = .ok (.goto 7, 3) := by decide +kernel
theorem dLa_passed_14 : decode bLa_passed 14 = .ok (.astore 5, 2) := by decide +kernel
theorem dLa_passed_16 : decode bLa_passed 16 = .ok (.iconst 1, 1) := by decide +kernel
theorem dLa_passed_17 : decode bLa_passed 17 = .ok (.ireturn, 1) := by decide +kernel
theorem dLa_passed_18 : decode bLa_passed 18 = .ok (.iconst 0, 1) := by decide +kernel
theorem dLa_passed_19 : decode bLa_passed 19 = .ok (.ireturn, 1) := by decide +kernel
theorem dLa_post_0 : decode bLa_post 0 = .ok (.aload_n 2, 1) := by decide +kernel
theorem dLa_post_1 : decode bLa_post 1 = .ok (.iconst 0, 1) := by decide +kernel
theorem dLa_post_2 : decode bLa_post 2 = .ok (.aload_n 0, 1) := by decide +kernel
theorem dLa_post_3 : decode bLa_post 3 = .ok (.iload_n 1, 1) := by decide +kernel
theorem dLa_post_4 : decode bLa_post 4 = .ok (.invokevirtual 21, 3) := by decide +kernel
theorem dLa_post_7 : decode bLa_post 7 = .ok (.i2l, 1) := by decide +kernel
theorem dLa_post_8 : decode bLa_post 8 = .ok (.lastore, 1) := by decide +kernel
theorem dLa_post_9 : decode bLa_post 9 = .ok (.goto 12, 3) := by decide +kernel
theorem dLa_post_12 : decode bLa_post 12 = .ok (.astore_n 3, 1) := by decide +kernel
theorem dLa_post_13 : decode bLa_post 13 = .ok (.iconst 1, 1) := by decide +kernel
theorem dLa_post_14 : decode bLa_post 14 = .ok (.ireturn, 1) := by decide +kernel
theorem dLa_post_15 : decode bLa_post 15 = .ok (.astore_n 3, 1) := by decide +kernel
theorem dLa_post_16 : decode bLa_post 16 = .ok (.iconst 2, 1) := by decide +kernel
theorem dLa_post_17 : decode bLa_post 17 = .ok (.ireturn, 1) := by decide +kernel
theorem dLa_post_18 : decode bLa_post 18 = .ok (.astore_n 3, 1) := by decide +kernel
theorem dLa_post_19 : decode bLa_post 19 = .ok (.iconst 3, 1) := by decide +kernel
theorem dLa_post_20 : decode bLa_post 20 = .ok (.ireturn, 1) := by decide +kernel
theorem dLa_post_21 : decode bLa_post 21 = .ok (.iconst 0, 1) := by decide +kernel
theorem dLa_post_22 : decode bLa_post 22 = .ok (.ireturn, 1) := by decide +kernel
theorem dLa_read_0 : decode bLa_read 0 = .ok (.aload_n 3, 1) := by decide +kernel
theorem dLa_read_1 : decode bLa_read 1 = .ok (.iconst 0, 1) := by decide +kernel
theorem dLa_read_2 : decode bLa_read 2 = .ok (.aload_n 0, 1) := by decide +kernel
theorem dLa_read_3 : decode bLa_read 3 = .ok (.iload_n 1, 1) := by decide +kernel
theorem dLa_read_4 : decode bLa_read 4 = .ok (.iload_n 2, 1) := by decide +kernel
theorem dLa_read_5 : decode bLa_read 5 = .ok (.invokevirtual 43, 3) := by decide +kernel
theorem dLa_read_8 : decode bLa_read 8 = .ok (.lastore, 1) := by decide +kernel
theorem dLa_read_9 : decode bLa_read 9 = .ok (.goto 7, 3) := by decide +kernel
theorem dLa_read_12 : decode bLa_read 12 = .ok (.astore 4, 2) := by decide +kernel
theorem dLa_read_14 : decode bLa_read 14 = .ok (.iconst 1, 1) := by decide +kernel
theorem dLa_read_15 : decode bLa_read 15 = .ok (.ireturn, 1) := by decide +kernel
theorem dLa_read_16 : decode bLa_read 16 = .ok (.iconst 0, 1) := by decide +kernel
theorem dLa_read_17 : decode bLa_read 17 = .ok (.ireturn, 1) := by decide +kernel
theorem dLa_reconcile_0 : decode bLa_reconcile 0 = .ok (.aload 5, 2) := by decide +kernel
theorem dLa_reconcile_2 : decode bLa_reconcile 2 = .ok (.iconst 0, 1) := by decide +kernel
theorem dLa_reconcile_3 : decode bLa_reconcile 3 = .ok (.aload_n 0, 1) := by decide +kernel
theorem dLa_reconcile_4 : decode bLa_reconcile 4 = .ok (.iload_n 1, 1) := by decide +kernel
theorem dLa_reconcile_5 : decode bLa_reconcile 5 = .ok (.iload_n 2, 1) := by decide +kernel
theorem dLa_reconcile_6 : decode bLa_reconcile 6 = .ok (.iload_n 3, 1) := by decide +kernel
theorem dLa_reconcile_7 : decode bLa_reconcile 7 = .ok (.iload 4, 2) := by decide +kernel
theorem dLa_reconcile_9 : decode bLa_reconcile 9 = .ok (.invokevirtual 39, 3) := by decide +kernel
theorem dLa_reconcile_12 : decode bLa_reconcile 12 = .ok (.lastore, 1) := by decide +kernel
theorem dLa_reconcile_13 : decode bLa_reconcile 13 = .ok (.goto 7, 3) := by decide +kernel
theorem dLa_reconcile_16 : decode bLa_reconcile 16 = .ok (.astore 6, 2) := by decide +kernel
theorem dLa_reconcile_18 : decode bLa_reconcile 18 = .ok (.iconst 1, 1) := by decide +kernel
theorem dLa_reconcile_19 : decode bLa_reconcile 19 = .ok (.ireturn, 1) := by decide +kernel
theorem dLa_reconcile_20 : decode bLa_reconcile 20 = .ok (.iconst 0, 1) := by decide +kernel
theorem dLa_reconcile_21 : decode bLa_reconcile 21 = .ok (.ireturn, 1) := by decide +kernel
theorem dLa_reverse_0 : decode bLa_reverse 0 = .ok (.aload_n 3, 1) := by decide +kernel
theorem dLa_reverse_1 : decode bLa_reverse 1 = .ok (.iconst 0, 1) := by decide +kernel
theorem dLa_reverse_2 : decode bLa_reverse 2 = .ok (.aload_n 0, 1) := by decide +kernel
theorem dLa_reverse_3 : decode bLa_reverse 3 = .ok (.iload_n 1, 1) := by decide +kernel
theorem dLa_reverse_4 : decode bLa_reverse 4 = .ok (.iload_n 2, 1) := by decide +kernel
theorem dLa_reverse_5 : decode bLa_reverse 5 = .ok (.invokevirtual 26, 3) := by decide +kernel
theorem dLa_reverse_8 : decode bLa_reverse 8 = .ok (.i2l, 1) := by decide +kernel
theorem dLa_reverse_9 : decode bLa_reverse 9 = .ok (.lastore, 1) := by decide +kernel
theorem dLa_reverse_10 : decode bLa_reverse 10 = .ok (.goto 11, 3) := by decide +kernel
theorem dLa_reverse_13 : decode bLa_reverse 13 = .ok (.astore 4, 2) := by decide +kernel
theorem dLa_reverse_15 : decode bLa_reverse 15 = .ok (.iconst 1, 1) := by decide +kernel
theorem dLa_reverse_16 : decode bLa_reverse 16 = .ok (.ireturn, 1) := by decide +kernel
theorem dLa_reverse_17 : decode bLa_reverse 17 = .ok (.astore 4, 2) := by decide +kernel
theorem dLa_reverse_19 : decode bLa_reverse 19 = .ok (.iconst 2, 1) := by decide +kernel
theorem dLa_reverse_20 : decode bLa_reverse 20 = .ok (.ireturn, 1) := by decide +kernel
theorem dLa_reverse_21 : decode bLa_reverse 21 = .ok (.iconst 0, 1) := by decide +kernel
theorem dLa_reverse_22 : decode bLa_reverse 22 = .ok (.ireturn, 1) := by decide +kernel
theorem dLa_statement_0 : decode bLa_statement 0 = .ok (.aload 4, 2) := by decide +kernel
theorem dLa_statement_2 : decode bLa_statement 2 = .ok (.iconst 0, 1) := by decide +kernel
theorem dLa_statement_3 : decode bLa_statement 3 = .ok (.aload_n 0, 1) := by decide +kernel
theorem dLa_statement_4 : decode bLa_statement 4 = .ok (.iload_n 1, 1) := by decide +kernel
theorem dLa_statement_5 : decode bLa_statement 5 = .ok (.iload_n 2, 1) := by decide +kernel
theorem dLa_statement_6 : decode bLa_statement 6 = .ok (.iload_n 3, 1) := by decide +kernel
theorem dLa_statement_7 : decode bLa_statement 7 = .ok (.invokevirtual 33, 3) := by decide +kernel
theorem dLa_statement_10 : decode bLa_statement 10 = .ok (.lastore, 1) := by decide +kernel
theorem dLa_statement_11 : decode bLa_statement 11 = .ok (.goto 7, 3) := by decide +kernel
theorem dLa_statement_14 : decode bLa_statement 14 = .ok (.astore 5, 2) := by decide +kernel
theorem dLa_statement_16 : decode bLa_statement 16 = .ok (.iconst 1, 1) := by decide +kernel
theorem dLa_statement_17 : decode bLa_statement 17 = .ok (.ireturn, 1) := by decide +kernel
theorem dLa_statement_18 : decode bLa_statement 18 = .ok (.iconst 0, 1) := by decide +kernel
theorem dLa_statement_19 : decode bLa_statement 19 = .ok (.ireturn, 1) := by decide +kernel
abbrev hLa_account : List (Nat × Nat × Nat × Nat) := [(0, 9, 12, 13), (0, 9, 15, 15)]
abbrev hLa_balance : List (Nat × Nat × Nat × Nat) := [(0, 11, 14, 13)]
abbrev hLa_batch : List (Nat × Nat × Nat × Nat) := [(0, 10, 13, 13), (0, 10, 17, 15)]
abbrev hLa_look : List (Nat × Nat × Nat × Nat) := [(0, 10, 13, 47)]
abbrev hLa_passed : List (Nat × Nat × Nat × Nat) := [(0, 11, 14, 13)]
abbrev hLa_post : List (Nat × Nat × Nat × Nat) := [(0, 9, 12, 13), (0, 9, 15, 15), (0, 9, 18, 24)]
abbrev hLa_read : List (Nat × Nat × Nat × Nat) := [(0, 9, 12, 47)]
abbrev hLa_reconcile : List (Nat × Nat × Nat × Nat) := [(0, 13, 16, 13)]
abbrev hLa_reverse : List (Nat × Nat × Nat × Nat) := [(0, 10, 13, 13), (0, 10, 17, 15)]
abbrev hLa_statement : List (Nat × Nat × Nat × Nat) := [(0, 11, 14, 13)]
theorem gLa_56 : ∀ w ∈ va_wsS RLa 56 yLa_account [Cond.codeWith yLa_account bLa_account 4 (some .int) hLa_account], w ∈ zT := List.forall_mem_cons.mpr ⟨zw_198, List.forall_mem_cons.mpr ⟨zw_199, List.forall_mem_cons.mpr ⟨zw_27, List.forall_mem_cons.mpr ⟨zw_200, fun _ h => absurd h List.not_mem_nil⟩⟩⟩⟩
theorem gLa_66 : ∀ w ∈ va_wsS RLa 66 yLa_batch [Cond.codeWith yLa_batch bLa_batch 5 (some .int) hLa_batch], w ∈ zT := List.forall_mem_cons.mpr ⟨zw_292, List.forall_mem_cons.mpr ⟨zw_293, List.forall_mem_cons.mpr ⟨zw_27, List.forall_mem_cons.mpr ⟨zw_294, fun _ h => absurd h List.not_mem_nil⟩⟩⟩⟩
theorem gLa_82 : ∀ w ∈ va_wsS RLa 82 yLa_post [Cond.codeWith yLa_post bLa_post 4 (some .int) hLa_post], w ∈ zT := List.forall_mem_cons.mpr ⟨zw_351, List.forall_mem_cons.mpr ⟨zw_352, List.forall_mem_cons.mpr ⟨zw_27, List.forall_mem_cons.mpr ⟨zw_353, fun _ h => absurd h List.not_mem_nil⟩⟩⟩⟩
theorem gLa_85 : ∀ w ∈ va_wsS RLa 85 yLa_reverse [Cond.codeWith yLa_reverse bLa_reverse 5 (some .int) hLa_reverse], w ∈ zT := List.forall_mem_cons.mpr ⟨zw_424, List.forall_mem_cons.mpr ⟨zw_425, List.forall_mem_cons.mpr ⟨zw_27, List.forall_mem_cons.mpr ⟨zw_426, fun _ h => absurd h List.not_mem_nil⟩⟩⟩⟩
theorem gLa_93 : ∀ w ∈ va_wsS RLa 93 yLa_balance [Cond.codeWith yLa_balance bLa_balance 6 (some .int) hLa_balance], w ∈ zT := List.forall_mem_cons.mpr ⟨zw_437, List.forall_mem_cons.mpr ⟨zw_438, List.forall_mem_cons.mpr ⟨zw_27, List.forall_mem_cons.mpr ⟨zw_439, fun _ h => absurd h List.not_mem_nil⟩⟩⟩⟩
theorem gLa_97 : ∀ w ∈ va_wsS RLa 97 yLa_statement [Cond.codeWith yLa_statement bLa_statement 6 (some .int) hLa_statement], w ∈ zT := List.forall_mem_cons.mpr ⟨zw_449, List.forall_mem_cons.mpr ⟨zw_450, List.forall_mem_cons.mpr ⟨zw_27, List.forall_mem_cons.mpr ⟨zw_451, fun _ h => absurd h List.not_mem_nil⟩⟩⟩⟩
theorem gLa_110 : ∀ w ∈ va_wsS RLa 110 yLa_passed [Cond.codeWith yLa_passed bLa_passed 6 (some .int) hLa_passed], w ∈ zT := List.forall_mem_cons.mpr ⟨zw_460, List.forall_mem_cons.mpr ⟨zw_461, List.forall_mem_cons.mpr ⟨zw_27, List.forall_mem_cons.mpr ⟨zw_462, fun _ h => absurd h List.not_mem_nil⟩⟩⟩⟩
theorem gLa_113 : ∀ w ∈ va_wsS RLa 113 yLa_reconcile [Cond.codeWith yLa_reconcile bLa_reconcile 7 (some .int) hLa_reconcile], w ∈ zT := List.forall_mem_cons.mpr ⟨zw_509, List.forall_mem_cons.mpr ⟨zw_510, List.forall_mem_cons.mpr ⟨zw_27, List.forall_mem_cons.mpr ⟨zw_511, fun _ h => absurd h List.not_mem_nil⟩⟩⟩⟩
theorem gLa_117 : ∀ w ∈ va_wsS RLa 117 yLa_read [Cond.codeWith yLa_read bLa_read 5 (some .int) hLa_read], w ∈ zT := List.forall_mem_cons.mpr ⟨zw_517, List.forall_mem_cons.mpr ⟨zw_518, List.forall_mem_cons.mpr ⟨zw_27, List.forall_mem_cons.mpr ⟨zw_519, fun _ h => absurd h List.not_mem_nil⟩⟩⟩⟩
theorem gLa_120 : ∀ w ∈ va_wsS RLa 120 yLa_look [Cond.codeWith yLa_look bLa_look 5 (some .int) hLa_look], w ∈ zT := List.forall_mem_cons.mpr ⟨zw_542, List.forall_mem_cons.mpr ⟨zw_543, List.forall_mem_cons.mpr ⟨zw_27, List.forall_mem_cons.mpr ⟨zw_544, fun _ h => absurd h List.not_mem_nil⟩⟩⟩⟩
