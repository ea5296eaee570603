/-! written by program (wip/gen) -/
theorem dX6_take_68 : decode cX6_take 68 = .ok (.aload_n 0, 1) := by decide +kernel
theorem dX6_take_69 : decode cX6_take 69 = .ok (.getfield 76, 3) := by decide +kernel
theorem dX6_take_72 : decode cX6_take 72 = .ok (.ifCond .eq 22, 3) := by decide +kernel
theorem dX6_take_75 : decode cX6_take 75 = .ok (.aload_n 0, 1) := by decide +kernel
theorem dX6_take_76 : decode cX6_take 76 = .ok (.getfield 69, 3) := by decide +kernel
theorem dX6_take_79 : decode cX6_take 79 = .ok (.iload 7, 2) := by decide +kernel
theorem dX6_take_81 : decode cX6_take 81 = .ok (.iadd, 1) := by decide +kernel
theorem dX6_take_82 : decode cX6_take 82 = .ok (.aload_n 0, 1) := by decide +kernel
theorem dX6_take_83 : decode cX6_take 83 = .ok (.getfield 229, 3) := by decide +kernel
theorem dX6_take_86 : decode cX6_take 86 = .ok (.isub, 1) := by decide +kernel
theorem dX6_take_87 : decode cX6_take 87 = .ok (.ifCond .lt 7, 3) := by decide +kernel
theorem dX6_take_90 : decode cX6_take 90 = .ok (.iconst 1, 1) := by decide +kernel
theorem dX6_take_91 : decode cX6_take 91 = .ok (.goto 4, 3) := by decide +kernel
theorem dX6_take_94 : decode cX6_take 94 = .ok (.iconst 0, 1) := by decide +kernel
theorem dX6_take_95 : decode cX6_take 95 = .ok (.istore 8, 2) := by decide +kernel
theorem dX6_take_97 : decode cX6_take 97 = .ok (.iload 7, 2) := by decide +kernel
theorem dX6_take_99 : decode cX6_take 99 = .ok (.ifCond .lt 62, 3) := by decide +kernel
theorem dX6_take_102 : decode cX6_take 102 = .ok (.iload 7, 2) := by decide +kernel
theorem dX6_take_104 : decode cX6_take 104 = .ok (.iload 5, 2) := by decide +kernel
theorem dX6_take_106 : decode cX6_take 106 = .ok (.if_icmp .ge 55, 3) := by decide +kernel
theorem dX6_take_109 : decode cX6_take 109 = .ok (.iload 8, 2) := by decide +kernel
theorem dX6_take_111 : decode cX6_take 111 = .ok (.ifCond .ne 50, 3) := by decide +kernel
theorem dX6_take_114 : decode cX6_take 114 = .ok (.aload_n 0, 1) := by decide +kernel
theorem dX6_take_115 : decode cX6_take 115 = .ok (.getfield 16, 3) := by decide +kernel
theorem dX6_take_118 : decode cX6_take 118 = .ok (.aload_n 0, 1) := by decide +kernel
theorem dX6_take_119 : decode cX6_take 119 = .ok (.getfield 66, 3) := by decide +kernel
theorem dX6_take_122 : decode cX6_take 122 = .ok (.iload 7, 2) := by decide +kernel
theorem dX6_take_124 : decode cX6_take 124 = .ok (.iadd, 1) := by decide +kernel
theorem dX6_take_125 : decode cX6_take 125 = .ok (.baload, 1) := by decide +kernel
theorem dX6_take_126 : decode cX6_take 126 = .ok (.ifCond .ne 35, 3) := by decide +kernel
theorem dX6_take_129 : decode cX6_take 129 = .ok (.aload_n 0, 1) := by decide +kernel
theorem dX6_take_130 : decode cX6_take 130 = .ok (.getfield 16, 3) := by decide +kernel
theorem dX6_take_133 : decode cX6_take 133 = .ok (.aload_n 0, 1) := by decide +kernel
theorem dX6_take_134 : decode cX6_take 134 = .ok (.getfield 66, 3) := by decide +kernel
theorem dX6_take_137 : decode cX6_take 137 = .ok (.iload 7, 2) := by decide +kernel
theorem dX6_take_139 : decode cX6_take 139 = .ok (.iadd, 1) := by decide +kernel
theorem dX6_take_140 : decode cX6_take 140 = .ok (.iconst 1, 1) := by decide +kernel
theorem dX6_take_141 : decode cX6_take 141 = .ok (.bastore, 1) := by decide +kernel
theorem dX6_take_142 : decode cX6_take 142 = .ok (.aload_n 0, 1) := by decide +kernel
theorem dX6_take_143 : decode cX6_take 143 = .ok (.getfield 13, 3) := by decide +kernel
theorem dX6_take_146 : decode cX6_take 146 = .ok (.aload_n 0, 1) := by decide +kernel
theorem dX6_take_147 : decode cX6_take 147 = .ok (.getfield 66, 3) := by decide +kernel
theorem dX6_take_150 : decode cX6_take 150 = .ok (.iload 7, 2) := by decide +kernel
theorem dX6_take_152 : decode cX6_take 152 = .ok (.iadd, 1) := by decide +kernel
theorem dX6_take_153 : decode cX6_take 153 = .ok (.aload_n 0, 1) := by decide +kernel
theorem dX6_take_154 : decode cX6_take 154 = .ok (.getfield 27, 3) := by decide +kernel
theorem dX6_take_157 : decode cX6_take 157 = .ok (.iload 6, 2) := by decide +kernel
theorem dX6_take_159 : decode cX6_take 159 = .ok (.iaload, 1) := by decide +kernel
theorem dX6_take_160 : decode cX6_take 160 = .ok (.iastore, 1) := by decide +kernel
theorem dX6_take_161 : decode cX6_take 161 = .ok (.iinc 6 1, 3) := by decide +kernel
theorem dX6_take_164 : decode cX6_take 164 = .ok (.goto (-116), 3) := by decide +kernel
theorem dX6_take_167 : decode cX6_take 167 = .ok (.iload_n 3, 1) := by decide +kernel
theorem dX6_take_168 : decode cX6_take 168 = .ok (.aload_n 0, 1) := by decide +kernel
theorem dX6_take_169 : decode cX6_take 169 = .ok (.getfield 175, 3) := by decide +kernel
theorem dX6_take_172 : decode cX6_take 172 = .ok (.iadd, 1) := by decide +kernel
theorem dX6_take_173 : decode cX6_take 173 = .ok (.istore 6, 2) := by decide +kernel
theorem dX6_take_175 : decode cX6_take 175 = .ok (.iload 4, 2) := by decide +kernel
theorem dX6_take_177 : decode cX6_take 177 = .ok (.ifCond .eq 46, 3) := by decide +kernel
theorem dX6_take_180 : decode cX6_take 180 = .ok (.iload_n 1, 1) := by decide +kernel
theorem dX6_take_181 : decode cX6_take 181 = .ok (.iconst 2, 1) := by decide +kernel
theorem dX6_take_182 : decode cX6_take 182 = .ok (.invokestatic 178, 3) := by decide +kernel
theorem dX6_take_185 : decode cX6_take 185 = .ok (.ifCond .eq 38, 3) := by decide +kernel
theorem dX6_take_188 : decode cX6_take 188 = .ok (.iload 6, 2) := by decide +kernel
theorem dX6_take_190 : decode cX6_take 190 = .ok (.ifCond .lt 33, 3) := by decide +kernel
theorem dX6_take_193 : decode cX6_take 193 = .ok (.iload 6, 2) := by decide +kernel
theorem dX6_take_195 : decode cX6_take 195 = .ok (.iload 5, 2) := by decide +kernel
theorem dX6_take_197 : decode cX6_take 197 = .ok (.if_icmp .ge 26, 3) := by decide +kernel
theorem dX6_take_200 : decode cX6_take 200 = .ok (.aload_n 0, 1) := by decide +kernel
theorem dX6_take_201 : decode cX6_take 201 = .ok (.getfield 76, 3) := by decide +kernel
theorem dX6_take_204 : decode cX6_take 204 = .ok (.ifCond .ne 19, 3) := by decide +kernel
theorem dX6_take_207 : decode cX6_take 207 = .ok (.aload_n 0, 1) := by decide +kernel
theorem dX6_take_208 : decode cX6_take 208 = .ok (.iconst 1, 1) := by decide +kernel
theorem dX6_take_209 : decode cX6_take 209 = .ok (.putfield 76, 3) := by decide +kernel
theorem dX6_take_212 : decode cX6_take 212 = .ok (.aload_n 0, 1) := by decide +kernel
theorem dX6_take_213 : decode cX6_take 213 = .ok (.aload_n 0, 1) := by decide +kernel
theorem dX6_take_214 : decode cX6_take 214 = .ok (.getfield 69, 3) := by decide +kernel
theorem dX6_take_217 : decode cX6_take 217 = .ok (.iload 6, 2) := by decide +kernel
theorem dX6_take_219 : decode cX6_take 219 = .ok (.iadd, 1) := by decide +kernel
theorem dX6_take_220 : decode cX6_take 220 = .ok (.putfield 229, 3) := by decide +kernel
theorem dX6_take_223 : decode cX6_take 223 = .ok (.iload 4, 2) := by decide +kernel
theorem dX6_take_225 : decode cX6_take 225 = .ok (.ifCond .eq 76, 3) := by decide +kernel
theorem dX6_take_228 : decode cX6_take 228 = .ok (.aload_n 0, 1) := by decide +kernel
theorem dX6_take_229 : decode cX6_take 229 = .ok (.getfield 66, 3) := by decide +kernel
theorem dX6_take_232 : decode cX6_take 232 = .ok (.sipush 2048, 3) := by decide +kernel
theorem dX6_take_235 : decode cX6_take 235 = .ok (.if_icmp .ge 66, 3) := by decide +kernel
theorem dX6_take_238 : decode cX6_take 238 = .ok (.aload_n 0, 1) := by decide +kernel
theorem dX6_take_239 : decode cX6_take 239 = .ok (.getfield 16, 3) := by decide +kernel
theorem dX6_take_242 : decode cX6_take 242 = .ok (.aload_n 0, 1) := by decide +kernel
theorem dX6_take_243 : decode cX6_take 243 = .ok (.getfield 66, 3) := by decide +kernel
theorem dX6_take_246 : decode cX6_take 246 = .ok (.baload, 1) := by decide +kernel
theorem dX6_take_247 : decode cX6_take 247 = .ok (.ifCond .eq 54, 3) := by decide +kernel
theorem dX6_take_250 : decode cX6_take 250 = .ok (.aload_n 0, 1) := by decide +kernel
theorem dX6_take_251 : decode cX6_take 251 = .ok (.getfield 76, 3) := by decide +kernel
theorem dX6_take_254 : decode cX6_take 254 = .ok (.ifCond .eq 14, 3) := by decide +kernel
theorem dX6_take_257 : decode cX6_take 257 = .ok (.aload_n 0, 1) := by decide +kernel
theorem dX6_take_258 : decode cX6_take 258 = .ok (.getfield 69, 3) := by decide +kernel
theorem dX6_take_261 : decode cX6_take 261 = .ok (.aload_n 0, 1) := by decide +kernel
theorem dX6_take_262 : decode cX6_take 262 = .ok (.getfield 229, 3) := by decide +kernel
theorem dX6_take_265 : decode cX6_take 265 = .ok (.if_icmp .eq 36, 3) := by decide +kernel
theorem dX6_take_268 : decode cX6_take 268 = .ok (.aload_n 0, 1) := by decide +kernel
theorem dX6_take_269 : decode cX6_take 269 = .ok (.getfield 16, 3) := by decide +kernel
theorem dX6_take_272 : decode cX6_take 272 = .ok (.aload_n 0, 1) := by decide +kernel
theorem dX6_take_273 : decode cX6_take 273 = .ok (.getfield 66, 3) := by decide +kernel
theorem dX6_take_276 : decode cX6_take 276 = .ok (.iconst 0, 1) := by decide +kernel
theorem dX6_take_277 : decode cX6_take 277 = .ok (.bastore, 1) := by decide +kernel
theorem dX6_take_278 : decode cX6_take 278 = .ok (.aload_n 0, 1) := by decide +kernel
theorem dX6_take_279 : decode cX6_take 279 = .ok (.dup, 1) := by decide +kernel
theorem dX6_take_280 : decode cX6_take 280 = .ok (.getfield 66, 3) := by decide +kernel
theorem dX6_take_283 : decode cX6_take 283 = .ok (.iconst 1, 1) := by decide +kernel
theorem dX6_take_284 : decode cX6_take 284 = .ok (.iadd, 1) := by decide +kernel
theorem dX6_take_285 : decode cX6_take 285 = .ok (.putfield 66, 3) := by decide +kernel
theorem dX6_take_288 : decode cX6_take 288 = .ok (.aload_n 0, 1) := by decide +kernel
theorem dX6_take_289 : decode cX6_take 289 = .ok (.dup, 1) := by decide +kernel
theorem dX6_take_290 : decode cX6_take 290 = .ok (.getfield 69, 3) := by decide +kernel
theorem dX6_take_293 : decode cX6_take 293 = .ok (.iconst 1, 1) := by decide +kernel
theorem dX6_take_294 : decode cX6_take 294 = .ok (.iadd, 1) := by decide +kernel
theorem dX6_take_295 : decode cX6_take 295 = .ok (.putfield 69, 3) := by decide +kernel
theorem dX6_take_298 : decode cX6_take 298 = .ok (.goto (-75), 3) := by decide +kernel
theorem dX6_take_301 : decode cX6_take 301 = .ok (.aload_n 0, 1) := by decide +kernel
theorem dX6_take_302 : decode cX6_take 302 = .ok (.aload_n 0, 1) := by decide +kernel
theorem dX6_take_303 : decode cX6_take 303 = .ok (.getfield 112, 3) := by decide +kernel
theorem dX6_take_306 : decode cX6_take 306 = .ok (.ifCond .ne 18, 3) := by decide +kernel
theorem dX6_take_309 : decode cX6_take 309 = .ok (.aload_n 0, 1) := by decide +kernel
theorem dX6_take_310 : decode cX6_take 310 = .ok (.getfield 175, 3) := by decide +kernel
theorem dX6_take_313 : decode cX6_take 313 = .ok (.ifCond .gt 11, 3) := by decide +kernel
theorem dX6_take_316 : decode cX6_take 316 = .ok (.iload_n 1, 1) := by decide +kernel
theorem dX6_take_317 : decode cX6_take 317 = .ok (.iconst 2, 1) := by decide +kernel
theorem dX6_take_318 : decode cX6_take 318 = .ok (.invokestatic 178, 3) := by decide +kernel
theorem dX6_take_321 : decode cX6_take 321 = .ok (.ifCond .eq 7, 3) := by decide +kernel
theorem dX6_take_324 : decode cX6_take 324 = .ok (.iconst 1, 1) := by decide +kernel
theorem dX6_take_325 : decode cX6_take 325 = .ok (.goto 4, 3) := by decide +kernel
theorem dX6_take_328 : decode cX6_take 328 = .ok (.iconst 0, 1) := by decide +kernel
theorem dX6_take_329 : decode cX6_take 329 = .ok (.putfield 112, 3) := by decide +kernel
theorem dX6_take_332 : decode cX6_take 332 = .ok (.iload 4, 2) := by decide +kernel
theorem dX6_take_334 : decode cX6_take 334 = .ok (.ifCond .eq 68, 3) := by decide +kernel
theorem dX6_take_337 : decode cX6_take 337 = .ok (.aload_n 0, 1) := by decide +kernel
theorem dX6_take_338 : decode cX6_take 338 = .ok (.getfield 76, 3) := by decide +kernel
theorem dX6_take_341 : decode cX6_take 341 = .ok (.ifCond .eq 61, 3) := by decide +kernel
theorem dX6_take_344 : decode cX6_take 344 = .ok (.aload_n 0, 1) := by decide +kernel
theorem dX6_take_345 : decode cX6_take 345 = .ok (.getfield 69, 3) := by decide +kernel
theorem dX6_take_348 : decode cX6_take 348 = .ok (.aload_n 0, 1) := by decide +kernel
theorem dX6_take_349 : decode cX6_take 349 = .ok (.getfield 229, 3) := by decide +kernel
theorem dX6_take_352 : decode cX6_take 352 = .ok (.if_icmp .ne 50, 3) := by decide +kernel
theorem dX6_take_355 : decode cX6_take 355 = .ok (.aload_n 0, 1) := by decide +kernel
theorem dX6_take_356 : decode cX6_take 356 = .ok (.dup, 1) := by decide +kernel
theorem dX6_take_357 : decode cX6_take 357 = .ok (.getfield 69, 3) := by decide +kernel
theorem dX6_take_360 : decode cX6_take 360 = .ok (.iconst 1, 1) := by decide +kernel
theorem dX6_take_361 : decode cX6_take 361 = .ok (.iadd, 1) := by decide +kernel
theorem dX6_take_362 : decode cX6_take 362 = .ok (.putfield 69, 3) := by decide +kernel
theorem dX6_take_365 : decode cX6_take 365 = .ok (.aload_n 0, 1) := by decide +kernel
theorem dX6_take_366 : decode cX6_take 366 = .ok (.iconst 1, 1) := by decide +kernel
theorem dX6_take_367 : decode cX6_take 367 = .ok (.putfield 79, 3) := by decide +kernel
theorem dX6_take_370 : decode cX6_take 370 = .ok (.aload_n 0, 1) := by decide +kernel
theorem dX6_take_371 : decode cX6_take 371 = .ok (.aload_n 0, 1) := by decide +kernel
theorem dX6_take_372 : decode cX6_take 372 = .ok (.getfield 118, 3) := by decide +kernel
theorem dX6_take_375 : decode cX6_take 375 = .ok (.iconst 4, 1) := by decide +kernel
theorem dX6_take_376 : decode cX6_take 376 = .ok (.if_icmp .ne 8, 3) := by decide +kernel
theorem dX6_take_379 : decode cX6_take 379 = .ok (.bipush 7, 2) := by decide +kernel
theorem dX6_take_381 : decode cX6_take 381 = .ok (.goto 18, 3) := by decide +kernel
theorem dX6_take_384 : decode cX6_take 384 = .ok (.aload_n 0, 1) := by decide +kernel
theorem dX6_take_385 : decode cX6_take 385 = .ok (.getfield 118, 3) := by decide +kernel
theorem dX6_take_388 : decode cX6_take 388 = .ok (.iconst 5, 1) := by decide +kernel
theorem dX6_take_389 : decode cX6_take 389 = .ok (.if_icmp .ne 8, 3) := by decide +kernel
theorem dX6_take_392 : decode cX6_take 392 = .ok (.bipush 8, 2) := by decide +kernel
theorem dX6_take_394 : decode cX6_take 394 = .ok (.goto 5, 3) := by decide +kernel
theorem dX6_take_397 : decode cX6_take 397 = .ok (.bipush 10, 2) := by decide +kernel
theorem dX6_take_399 : decode cX6_take 399 = .ok (.invokevirtual 147, 3) := by decide +kernel
theorem dX6_take_402 : decode cX6_take 402 = .ok (.return_, 1) := by decide +kernel
theorem dX6_learn_0 : decode cX6_learn 0 = .ok (.aload_n 0, 1) := by decide +kernel
theorem dX6_learn_1 : decode cX6_learn 1 = .ok (.getfield 91, 3) := by decide +kernel
theorem dX6_learn_4 : decode cX6_learn 4 = .ok (.ifCond .eq 52, 3) := by decide +kernel
theorem dX6_learn_7 : decode cX6_learn 7 = .ok (.iload_n 1, 1) := by decide +kernel
theorem dX6_learn_8 : decode cX6_learn 8 = .ok (.aload_n 0, 1) := by decide +kernel
theorem dX6_learn_9 : decode cX6_learn 9 = .ok (.getfield 94, 3) := by decide +kernel
theorem dX6_learn_12 : decode cX6_learn 12 = .ok (.bipush 8, 2) := by decide +kernel
theorem dX6_learn_14 : decode cX6_learn 14 = .ok (.idiv, 1) := by decide +kernel
theorem dX6_learn_15 : decode cX6_learn 15 = .ok (.isub, 1) := by decide +kernel
theorem dX6_learn_16 : decode cX6_learn 16 = .ok (.istore_n 2, 1) := by decide +kernel
theorem dX6_learn_17 : decode cX6_learn 17 = .ok (.aload_n 0, 1) := by decide +kernel
theorem dX6_learn_18 : decode cX6_learn 18 = .ok (.dup, 1) := by decide +kernel
theorem dX6_learn_19 : decode cX6_learn 19 = .ok (.getfield 94, 3) := by decide +kernel
theorem dX6_learn_22 : decode cX6_learn 22 = .ok (.iload_n 2, 1) := by decide +kernel
theorem dX6_learn_23 : decode cX6_learn 23 = .ok (.iadd, 1) := by decide +kernel
theorem dX6_learn_24 : decode cX6_learn 24 = .ok (.putfield 94, 3) := by decide +kernel
theorem dX6_learn_27 : decode cX6_learn 27 = .ok (.aload_n 0, 1) := by decide +kernel
theorem dX6_learn_28 : decode cX6_learn 28 = .ok (.dup, 1) := by decide +kernel
theorem dX6_learn_29 : decode cX6_learn 29 = .ok (.getfield 97, 3) := by decide +kernel
theorem dX6_learn_32 : decode cX6_learn 32 = .ok (.iload_n 2, 1) := by decide +kernel
theorem dX6_learn_33 : decode cX6_learn 33 = .ok (.ifCond .ge 8, 3) := by decide +kernel
theorem dX6_learn_36 : decode cX6_learn 36 = .ok (.iload_n 2, 1) := by decide +kernel
theorem dX6_learn_37 : decode cX6_learn 37 = .ok (.ineg, 1) := by decide +kernel
theorem dX6_learn_38 : decode cX6_learn 38 = .ok (.goto 4, 3) := by decide +kernel
theorem dX6_learn_41 : decode cX6_learn 41 = .ok (.iload_n 2, 1) := by decide +kernel
theorem dX6_learn_42 : decode cX6_learn 42 = .ok (.aload_n 0, 1) := by decide +kernel
theorem dX6_learn_43 : decode cX6_learn 43 = .ok (.getfield 97, 3) := by decide +kernel
theorem dX6_learn_46 : decode cX6_learn 46 = .ok (.iconst 4, 1) := by decide +kernel
theorem dX6_learn_47 : decode cX6_learn 47 = .ok (.idiv, 1) := by decide +kernel
theorem dX6_learn_48 : decode cX6_learn 48 = .ok (.isub, 1) := by decide +kernel
theorem dX6_learn_49 : decode cX6_learn 49 = .ok (.iadd, 1) := by decide +kernel
theorem dX6_learn_50 : decode cX6_learn 50 = .ok (.putfield 97, 3) := by decide +kernel
theorem dX6_learn_53 : decode cX6_learn 53 = .ok (.goto 23, 3) := by decide +kernel
theorem dX6_learn_56 : decode cX6_learn 56 = .ok (.aload_n 0, 1) := by decide +kernel
theorem dX6_learn_57 : decode cX6_learn 57 = .ok (.iconst 1, 1) := by decide +kernel
theorem dX6_learn_58 : decode cX6_learn 58 = .ok (.putfield 91, 3) := by decide +kernel
theorem dX6_learn_61 : decode cX6_learn 61 = .ok (.aload_n 0, 1) := by decide +kernel
theorem dX6_learn_62 : decode cX6_learn 62 = .ok (.bipush 8, 2) := by decide +kernel
theorem dX6_learn_64 : decode cX6_learn 64 = .ok (.iload_n 1, 1) := by decide +kernel
theorem dX6_learn_65 : decode cX6_learn 65 = .ok (.imul, 1) := by decide +kernel
theorem dX6_learn_66 : decode cX6_learn 66 = .ok (.putfield 94, 3) := by decide +kernel
theorem dX6_learn_69 : decode cX6_learn 69 = .ok (.aload_n 0, 1) := by decide +kernel
theorem dX6_learn_70 : decode cX6_learn 70 = .ok (.iconst 2, 1) := by decide +kernel
theorem dX6_learn_71 : decode cX6_learn 71 = .ok (.iload_n 1, 1) := by decide +kernel
theorem dX6_learn_72 : decode cX6_learn 72 = .ok (.imul, 1) := by decide +kernel
theorem dX6_learn_73 : decode cX6_learn 73 = .ok (.putfield 97, 3) := by decide +kernel
theorem dX6_learn_76 : decode cX6_learn 76 = .ok (.aload_n 0, 1) := by decide +kernel
theorem dX6_learn_77 : decode cX6_learn 77 = .ok (.getfield 94, 3) := by decide +kernel
theorem dX6_learn_80 : decode cX6_learn 80 = .ok (.bipush 8, 2) := by decide +kernel
theorem dX6_learn_82 : decode cX6_learn 82 = .ok (.idiv, 1) := by decide +kernel
theorem dX6_learn_83 : decode cX6_learn 83 = .ok (.aload_n 0, 1) := by decide +kernel
theorem dX6_learn_84 : decode cX6_learn 84 = .ok (.getfield 97, 3) := by decide +kernel
theorem dX6_learn_87 : decode cX6_learn 87 = .ok (.iconst 1, 1) := by decide +kernel
theorem dX6_learn_88 : decode cX6_learn 88 = .ok (.if_icmp .le 10, 3) := by decide +kernel
theorem dX6_learn_91 : decode cX6_learn 91 = .ok (.aload_n 0, 1) := by decide +kernel
theorem dX6_learn_92 : decode cX6_learn 92 = .ok (.getfield 97, 3) := by decide +kernel
theorem dX6_learn_95 : decode cX6_learn 95 = .ok (.goto 4, 3) := by decide +kernel
theorem dX6_learn_98 : decode cX6_learn 98 = .ok (.iconst 1, 1) := by decide +kernel
theorem dX6_learn_99 : decode cX6_learn 99 = .ok (.iadd, 1) := by decide +kernel
theorem dX6_learn_100 : decode cX6_learn 100 = .ok (.istore_n 2, 1) := by decide +kernel
theorem dX6_learn_101 : decode cX6_learn 101 = .ok (.aload_n 0, 1) := by decide +kernel
theorem dX6_learn_102 : decode cX6_learn 102 = .ok (.iload_n 2, 1) := by decide +kernel
theorem dX6_learn_103 : decode cX6_learn 103 = .ok (.bipush 20, 2) := by decide +kernel
theorem dX6_learn_105 : decode cX6_learn 105 = .ok (.if_icmp .ge 8, 3) := by decide +kernel
theorem dX6_learn_108 : decode cX6_learn 108 = .ok (.bipush 20, 2) := by decide +kernel
theorem dX6_learn_110 : decode cX6_learn 110 = .ok (.goto 17, 3) := by decide +kernel
theorem dX6_learn_113 : decode cX6_learn 113 = .ok (.iload_n 2, 1) := by decide +kernel
theorem dX6_learn_114 : decode cX6_learn 114 = .ok (.sipush 1200, 3) := by decide +kernel
theorem dX6_learn_117 : decode cX6_learn 117 = .ok (.if_icmp .le 9, 3) := by decide +kernel
theorem dX6_learn_120 : decode cX6_learn 120 = .ok (.sipush 1200, 3) := by decide +kernel
theorem dX6_learn_123 : decode cX6_learn 123 = .ok (.goto 4, 3) := by decide +kernel
theorem dX6_learn_126 : decode cX6_learn 126 = .ok (.iload_n 2, 1) := by decide +kernel
theorem dX6_learn_127 : decode cX6_learn 127 = .ok (.putfield 24, 3) := by decide +kernel
theorem dX6_learn_130 : decode cX6_learn 130 = .ok (.return_, 1) := by decide +kernel
theorem dX6_thanked_0 : decode cX6_thanked 0 = .ok (.iload_n 1, 1) := by decide +kernel
theorem dX6_thanked_1 : decode cX6_thanked 1 = .ok (.aload_n 0, 1) := by decide +kernel
theorem dX6_thanked_2 : decode cX6_thanked 2 = .ok (.getfield 57, 3) := by decide +kernel
theorem dX6_thanked_5 : decode cX6_thanked 5 = .ok (.isub, 1) := by decide +kernel
theorem dX6_thanked_6 : decode cX6_thanked 6 = .ok (.istore_n 2, 1) := by decide +kernel
theorem dX6_thanked_7 : decode cX6_thanked 7 = .ok (.iload_n 2, 1) := by decide +kernel
theorem dX6_thanked_8 : decode cX6_thanked 8 = .ok (.ifCond .ge 7, 3) := by decide +kernel
theorem dX6_thanked_11 : decode cX6_thanked 11 = .ok (.iconst 0, 1) := by decide +kernel
theorem dX6_thanked_12 : decode cX6_thanked 12 = .ok (.goto 19, 3) := by decide +kernel
theorem dX6_thanked_15 : decode cX6_thanked 15 = .ok (.iload_n 2, 1) := by decide +kernel
theorem dX6_thanked_16 : decode cX6_thanked 16 = .ok (.aload_n 0, 1) := by decide +kernel
theorem dX6_thanked_17 : decode cX6_thanked 17 = .ok (.getfield 60, 3) := by decide +kernel
theorem dX6_thanked_20 : decode cX6_thanked 20 = .ok (.if_icmp .le 10, 3) := by decide +kernel
theorem dX6_thanked_23 : decode cX6_thanked 23 = .ok (.aload_n 0, 1) := by decide +kernel
theorem dX6_thanked_24 : decode cX6_thanked 24 = .ok (.getfield 60, 3) := by decide +kernel
theorem dX6_thanked_27 : decode cX6_thanked 27 = .ok (.goto 4, 3) := by decide +kernel
theorem dX6_thanked_30 : decode cX6_thanked 30 = .ok (.iload_n 2, 1) := by decide +kernel
theorem dX6_thanked_31 : decode cX6_thanked 31 = .ok (.istore_n 3, 1) := by decide +kernel
theorem dX6_thanked_32 : decode cX6_thanked 32 = .ok (.iload_n 3, 1) := by decide +kernel
theorem dX6_thanked_33 : decode cX6_thanked 33 = .ok (.istore 4, 2) := by decide +kernel
theorem dX6_thanked_35 : decode cX6_thanked 35 = .ok (.iload 4, 2) := by decide +kernel
theorem dX6_thanked_37 : decode cX6_thanked 37 = .ok (.aload_n 0, 1) := by decide +kernel
theorem dX6_thanked_38 : decode cX6_thanked 38 = .ok (.getfield 60, 3) := by decide +kernel
theorem dX6_thanked_41 : decode cX6_thanked 41 = .ok (.if_icmp .ge 25, 3) := by decide +kernel
theorem dX6_thanked_44 : decode cX6_thanked 44 = .ok (.aload_n 0, 1) := by decide +kernel
theorem dX6_thanked_45 : decode cX6_thanked 45 = .ok (.getfield 7, 3) := by decide +kernel
theorem dX6_thanked_48 : decode cX6_thanked 48 = .ok (.iload 4, 2) := by decide +kernel
theorem dX6_thanked_50 : decode cX6_thanked 50 = .ok (.iload_n 3, 1) := by decide +kernel
theorem dX6_thanked_51 : decode cX6_thanked 51 = .ok (.isub, 1) := by decide +kernel
theorem dX6_thanked_52 : decode cX6_thanked 52 = .ok (.aload_n 0, 1) := by decide +kernel
theorem dX6_thanked_53 : decode cX6_thanked 53 = .ok (.getfield 7, 3) := by decide +kernel
theorem dX6_thanked_56 : decode cX6_thanked 56 = .ok (.iload 4, 2) := by decide +kernel
theorem dX6_thanked_58 : decode cX6_thanked 58 = .ok (.iaload, 1) := by decide +kernel
theorem dX6_thanked_59 : decode cX6_thanked 59 = .ok (.iastore, 1) := by decide +kernel
theorem dX6_thanked_60 : decode cX6_thanked 60 = .ok (.iinc 4 1, 3) := by decide +kernel
theorem dX6_thanked_63 : decode cX6_thanked 63 = .ok (.goto (-28), 3) := by decide +kernel
theorem dX6_thanked_66 : decode cX6_thanked 66 = .ok (.aload_n 0, 1) := by decide +kernel
theorem dX6_thanked_67 : decode cX6_thanked 67 = .ok (.dup, 1) := by decide +kernel
theorem dX6_thanked_68 : decode cX6_thanked 68 = .ok (.getfield 60, 3) := by decide +kernel
theorem dX6_thanked_71 : decode cX6_thanked 71 = .ok (.iload_n 3, 1) := by decide +kernel
theorem dX6_thanked_72 : decode cX6_thanked 72 = .ok (.isub, 1) := by decide +kernel
theorem dX6_thanked_73 : decode cX6_thanked 73 = .ok (.putfield 60, 3) := by decide +kernel
theorem dX6_thanked_76 : decode cX6_thanked 76 = .ok (.aload_n 0, 1) := by decide +kernel
theorem dX6_thanked_77 : decode cX6_thanked 77 = .ok (.dup, 1) := by decide +kernel
theorem dX6_thanked_78 : decode cX6_thanked 78 = .ok (.getfield 57, 3) := by decide +kernel
theorem dX6_thanked_81 : decode cX6_thanked 81 = .ok (.iload_n 3, 1) := by decide +kernel
theorem dX6_thanked_82 : decode cX6_thanked 82 = .ok (.iadd, 1) := by decide +kernel
theorem dX6_thanked_83 : decode cX6_thanked 83 = .ok (.putfield 57, 3) := by decide +kernel
theorem dX6_thanked_86 : decode cX6_thanked 86 = .ok (.aload_n 0, 1) := by decide +kernel
theorem dX6_thanked_87 : decode cX6_thanked 87 = .ok (.iload_n 1, 1) := by decide +kernel
theorem dX6_thanked_88 : decode cX6_thanked 88 = .ok (.putfield 51, 3) := by decide +kernel
theorem dX6_thanked_91 : decode cX6_thanked 91 = .ok (.aload_n 0, 1) := by decide +kernel
theorem dX6_thanked_92 : decode cX6_thanked 92 = .ok (.getfield 115, 3) := by decide +kernel
theorem dX6_thanked_95 : decode cX6_thanked 95 = .ok (.ifCond .eq 30, 3) := by decide +kernel
theorem dX6_thanked_98 : decode cX6_thanked 98 = .ok (.aload_n 0, 1) := by decide +kernel
theorem dX6_thanked_99 : decode cX6_thanked 99 = .ok (.getfield 203, 3) := by decide +kernel
theorem dX6_thanked_102 : decode cX6_thanked 102 = .ok (.iload_n 1, 1) := by decide +kernel
theorem dX6_thanked_103 : decode cX6_thanked 103 = .ok (.isub, 1) := by decide +kernel
theorem dX6_thanked_104 : decode cX6_thanked 104 = .ok (.ifCond .gt 21, 3) := by decide +kernel
theorem dX6_thanked_107 : decode cX6_thanked 107 = .ok (.aload_n 0, 1) := by decide +kernel
theorem dX6_thanked_108 : decode cX6_thanked 108 = .ok (.iconst 0, 1) := by decide +kernel
theorem dX6_thanked_109 : decode cX6_thanked 109 = .ok (.putfield 115, 3) := by decide +kernel
theorem dX6_thanked_112 : decode cX6_thanked 112 = .ok (.aload_n 0, 1) := by decide +kernel
theorem dX6_thanked_113 : decode cX6_thanked 113 = .ok (.aload_n 0, 1) := by decide +kernel
theorem dX6_thanked_114 : decode cX6_thanked 114 = .ok (.getfield 121, 3) := by decide +kernel
theorem dX6_thanked_117 : decode cX6_thanked 117 = .ok (.aload_n 0, 1) := by decide +kernel
theorem dX6_thanked_118 : decode cX6_thanked 118 = .ok (.getfield 206, 3) := by decide +kernel
theorem dX6_thanked_121 : decode cX6_thanked 121 = .ok (.isub, 1) := by decide +kernel
theorem dX6_thanked_122 : decode cX6_thanked 122 = .ok (.invokevirtual 209, 3) := by decide +kernel
theorem dX6_thanked_125 : decode cX6_thanked 125 = .ok (.aload_n 0, 1) := by decide +kernel
theorem dX6_thanked_126 : decode cX6_thanked 126 = .ok (.iconst 0, 1) := by decide +kernel
theorem dX6_thanked_127 : decode cX6_thanked 127 = .ok (.putfield 88, 3) := by decide +kernel
theorem dX6_thanked_130 : decode cX6_thanked 130 = .ok (.aload_n 0, 1) := by decide +kernel
theorem dX6_thanked_131 : decode cX6_thanked 131 = .ok (.iconst 0, 1) := by decide +kernel
theorem dX6_thanked_132 : decode cX6_thanked 132 = .ok (.putfield 106, 3) := by decide +kernel
theorem dX6_thanked_135 : decode cX6_thanked 135 = .ok (.aload_n 0, 1) := by decide +kernel
theorem dX6_thanked_136 : decode cX6_thanked 136 = .ok (.aload_n 0, 1) := by decide +kernel
theorem dX6_thanked_137 : decode cX6_thanked 137 = .ok (.getfield 51, 3) := by decide +kernel
theorem dX6_thanked_140 : decode cX6_thanked 140 = .ok (.aload_n 0, 1) := by decide +kernel
theorem dX6_thanked_141 : decode cX6_thanked 141 = .ok (.getfield 54, 3) := by decide +kernel
theorem dX6_thanked_144 : decode cX6_thanked 144 = .ok (.if_icmp .eq 15, 3) := by decide +kernel
theorem dX6_thanked_147 : decode cX6_thanked 147 = .ok (.aload_n 0, 1) := by decide +kernel
theorem dX6_thanked_148 : decode cX6_thanked 148 = .ok (.getfield 121, 3) := by decide +kernel
theorem dX6_thanked_151 : decode cX6_thanked 151 = .ok (.aload_n 0, 1) := by decide +kernel
theorem dX6_thanked_152 : decode cX6_thanked 152 = .ok (.getfield 24, 3) := by decide +kernel
theorem dX6_thanked_155 : decode cX6_thanked 155 = .ok (.iadd, 1) := by decide +kernel
theorem dX6_thanked_156 : decode cX6_thanked 156 = .ok (.goto 4, 3) := by decide +kernel
theorem dX6_thanked_159 : decode cX6_thanked 159 = .ok (.iconst (-1), 1) := by decide +kernel
theorem dX6_thanked_160 : decode cX6_thanked 160 = .ok (.putfield 20, 3) := by decide +kernel
theorem dX6_thanked_163 : decode cX6_thanked 163 = .ok (.return_, 1) := by decide +kernel
theorem dX6_hitByReset_0 : decode cX6_hitByReset 0 = .ok (.iload_n 1, 1) := by decide +kernel
theorem dX6_hitByReset_1 : decode cX6_hitByReset 1 = .ok (.ifCond .ne 11, 3) := by decide +kernel
theorem dX6_hitByReset_4 : decode cX6_hitByReset 4 = .ok (.aload_n 0, 1) := by decide +kernel
theorem dX6_hitByReset_5 : decode cX6_hitByReset 5 = .ok (.iconst 1, 1) := by decide +kernel
theorem dX6_hitByReset_6 : decode cX6_hitByReset 6 = .ok (.putfield 112, 3) := by decide +kernel
theorem dX6_hitByReset_9 : decode cX6_hitByReset 9 = .ok (.goto 71, 3) := by decide +kernel
theorem dX6_hitByReset_12 : decode cX6_hitByReset 12 = .ok (.aload_n 0, 1) := by decide +kernel
theorem dX6_hitByReset_13 : decode cX6_hitByReset 13 = .ok (.getfield 118, 3) := by decide +kernel
theorem dX6_hitByReset_16 : decode cX6_hitByReset 16 = .ok (.iconst 3, 1) := by decide +kernel
theorem dX6_hitByReset_17 : decode cX6_hitByReset 17 = .ok (.if_icmp .ne 26, 3) := by decide +kernel
theorem dX6_hitByReset_20 : decode cX6_hitByReset 20 = .ok (.aload_n 0, 1) := by decide +kernel
theorem dX6_hitByReset_21 : decode cX6_hitByReset 21 = .ok (.getfield 131, 3) := by decide +kernel
theorem dX6_hitByReset_24 : decode cX6_hitByReset 24 = .ok (.ifCond .eq 19, 3) := by decide +kernel
theorem dX6_hitByReset_27 : decode cX6_hitByReset 27 = .ok (.aload_n 0, 1) := by decide +kernel
theorem dX6_hitByReset_28 : decode cX6_hitByReset 28 = .ok (.aload_n 0, 1) := by decide +kernel
theorem dX6_hitByReset_29 : decode cX6_hitByReset 29 = .ok (.getfield 48, 3) := by decide +kernel
theorem dX6_hitByReset_32 : decode cX6_hitByReset 32 = .ok (.invokevirtual 127, 3) := by decide +kernel
theorem dX6_hitByReset_35 : decode cX6_hitByReset 35 = .ok (.aload_n 0, 1) := by decide +kernel
theorem dX6_hitByReset_36 : decode cX6_hitByReset 36 = .ok (.iconst 1, 1) := by decide +kernel
theorem dX6_hitByReset_37 : decode cX6_hitByReset 37 = .ok (.putfield 118, 3) := by decide +kernel
theorem dX6_hitByReset_40 : decode cX6_hitByReset 40 = .ok (.goto 40, 3) := by decide +kernel
theorem dX6_hitByReset_43 : decode cX6_hitByReset 43 = .ok (.aload_n 0, 1) := by decide +kernel
theorem dX6_hitByReset_44 : decode cX6_hitByReset 44 = .ok (.aload_n 0, 1) := by decide +kernel
theorem dX6_hitByReset_45 : decode cX6_hitByReset 45 = .ok (.getfield 118, 3) := by decide +kernel
theorem dX6_hitByReset_48 : decode cX6_hitByReset 48 = .ok (.bipush 8, 2) := by decide +kernel
theorem dX6_hitByReset_50 : decode cX6_hitByReset 50 = .ok (.if_icmp .eq 21, 3) := by decide +kernel
theorem dX6_hitByReset_53 : decode cX6_hitByReset 53 = .ok (.aload_n 0, 1) := by decide +kernel
theorem dX6_hitByReset_54 : decode cX6_hitByReset 54 = .ok (.getfield 118, 3) := by decide +kernel
theorem dX6_hitByReset_57 : decode cX6_hitByReset 57 = .ok (.bipush 9, 2) := by decide +kernel
theorem dX6_hitByReset_59 : decode cX6_hitByReset 59 = .ok (.if_icmp .eq 12, 3) := by decide +kernel
theorem dX6_hitByReset_62 : decode cX6_hitByReset 62 = .ok (.aload_n 0, 1) := by decide +kernel
theorem dX6_hitByReset_63 : decode cX6_hitByReset 63 = .ok (.getfield 118, 3) := by decide +kernel
theorem dX6_hitByReset_66 : decode cX6_hitByReset 66 = .ok (.bipush 10, 2) := by decide +kernel
theorem dX6_hitByReset_68 : decode cX6_hitByReset 68 = .ok (.if_icmp .ne 7, 3) := by decide +kernel
theorem dX6_hitByReset_71 : decode cX6_hitByReset 71 = .ok (.iconst 0, 1) := by decide +kernel
theorem dX6_hitByReset_72 : decode cX6_hitByReset 72 = .ok (.goto 5, 3) := by decide +kernel
theorem dX6_hitByReset_75 : decode cX6_hitByReset 75 = .ok (.bipush 11, 2) := by decide +kernel
theorem dX6_hitByReset_77 : decode cX6_hitByReset 77 = .ok (.invokevirtual 147, 3) := by decide +kernel
theorem dX6_hitByReset_80 : decode cX6_hitByReset 80 = .ok (.return_, 1) := by decide +kernel
theorem dX6_toOthers_0 : decode cX6_toOthers 0 = .ok (.iload_n 1, 1) := by decide +kernel
theorem dX6_toOthers_1 : decode cX6_toOthers 1 = .ok (.iconst 4, 1) := by decide +kernel
theorem dX6_toOthers_2 : decode cX6_toOthers 2 = .ok (.invokestatic 178, 3) := by decide +kernel
theorem dX6_toOthers_5 : decode cX6_toOthers 5 = .ok (.istore 5, 2) := by decide +kernel
theorem dX6_toOthers_7 : decode cX6_toOthers 7 = .ok (.aload_n 0, 1) := by decide +kernel
theorem dX6_toOthers_8 : decode cX6_toOthers 8 = .ok (.iload_n 1, 1) := by decide +kernel
theorem dX6_toOthers_9 : decode cX6_toOthers 9 = .ok (.iload_n 2, 1) := by decide +kernel
theorem dX6_toOthers_10 : decode cX6_toOthers 10 = .ok (.invokevirtual 212, 3) := by decide +kernel
theorem dX6_toOthers_13 : decode cX6_toOthers 13 = .ok (.ifCond .ne 55, 3) := by decide +kernel
theorem dX6_toOthers_16 : decode cX6_toOthers 16 = .ok (.aload_n 0, 1) := by decide +kernel
theorem dX6_toOthers_17 : decode cX6_toOthers 17 = .ok (.aload_n 0, 1) := by decide +kernel
theorem dX6_toOthers_18 : decode cX6_toOthers 18 = .ok (.getfield 112, 3) := by decide +kernel
theorem dX6_toOthers_21 : decode cX6_toOthers 21 = .ok (.ifCond .ne 8, 3) := by decide +kernel
theorem dX6_toOthers_24 : decode cX6_toOthers 24 = .ok (.iload 5, 2) := by decide +kernel
theorem dX6_toOthers_26 : decode cX6_toOthers 26 = .ok (.ifCond .ne 7, 3) := by decide +kernel
theorem dX6_toOthers_29 : decode cX6_toOthers 29 = .ok (.iconst 1, 1) := by decide +kernel
theorem dX6_toOthers_30 : decode cX6_toOthers 30 = .ok (.goto 4, 3) := by decide +kernel
theorem dX6_toOthers_33 : decode cX6_toOthers 33 = .ok (.iconst 0, 1) := by decide +kernel
theorem dX6_toOthers_34 : decode cX6_toOthers 34 = .ok (.putfield 112, 3) := by decide +kernel
theorem dX6_toOthers_37 : decode cX6_toOthers 37 = .ok (.aload_n 0, 1) := by decide +kernel
theorem dX6_toOthers_38 : decode cX6_toOthers 38 = .ok (.getfield 118, 3) := by decide +kernel
theorem dX6_toOthers_41 : decode cX6_toOthers 41 = .ok (.bipush 10, 2) := by decide +kernel
theorem dX6_toOthers_43 : decode cX6_toOthers 43 = .ok (.if_icmp .ne 24, 3) := by decide +kernel
theorem dX6_toOthers_46 : decode cX6_toOthers 46 = .ok (.iload_n 1, 1) := by decide +kernel
theorem dX6_toOthers_47 : decode cX6_toOthers 47 = .ok (.iconst 2, 1) := by decide +kernel
theorem dX6_toOthers_48 : decode cX6_toOthers 48 = .ok (.invokestatic 178, 3) := by decide +kernel
theorem dX6_toOthers_51 : decode cX6_toOthers 51 = .ok (.ifCond .eq 16, 3) := by decide +kernel
theorem dX6_toOthers_54 : decode cX6_toOthers 54 = .ok (.aload_n 0, 1) := by decide +kernel
theorem dX6_toOthers_55 : decode cX6_toOthers 55 = .ok (.aload_n 0, 1) := by decide +kernel
theorem dX6_toOthers_56 : decode cX6_toOthers 56 = .ok (.getfield 121, 3) := by decide +kernel
theorem dX6_toOthers_59 : decode cX6_toOthers 59 = .ok (.aload_n 0, 1) := by decide +kernel
theorem dX6_toOthers_60 : decode cX6_toOthers 60 = .ok (.getfield 39, 3) := by decide +kernel
theorem dX6_toOthers_63 : decode cX6_toOthers 63 = .ok (.iadd, 1) := by decide +kernel
theorem dX6_toOthers_64 : decode cX6_toOthers 64 = .ok (.putfield 124, 3) := by decide +kernel
theorem dX6_toOthers_67 : decode cX6_toOthers 67 = .ok (.return_, 1) := by decide +kernel
theorem dX6_toOthers_68 : decode cX6_toOthers 68 = .ok (.iload 5, 2) := by decide +kernel
theorem dX6_toOthers_70 : decode cX6_toOthers 70 = .ok (.ifCond .eq 21, 3) := by decide +kernel
theorem dX6_toOthers_73 : decode cX6_toOthers 73 = .ok (.aload_n 0, 1) := by decide +kernel
theorem dX6_toOthers_74 : decode cX6_toOthers 74 = .ok (.iload_n 2, 1) := by decide +kernel
theorem dX6_toOthers_75 : decode cX6_toOthers 75 = .ok (.aload_n 0, 1) := by decide +kernel
theorem dX6_toOthers_76 : decode cX6_toOthers 76 = .ok (.getfield 69, 3) := by decide +kernel
theorem dX6_toOthers_79 : decode cX6_toOthers 79 = .ok (.if_icmp .ne 7, 3) := by decide +kernel
theorem dX6_toOthers_82 : decode cX6_toOthers 82 = .ok (.iconst 1, 1) := by decide +kernel
theorem dX6_toOthers_83 : decode cX6_toOthers 83 = .ok (.goto 4, 3) := by decide +kernel
theorem dX6_toOthers_86 : decode cX6_toOthers 86 = .ok (.iconst 0, 1) := by decide +kernel
theorem dX6_toOthers_87 : decode cX6_toOthers 87 = .ok (.invokevirtual 215, 3) := by decide +kernel
theorem dX6_toOthers_90 : decode cX6_toOthers 90 = .ok (.return_, 1) := by decide +kernel
theorem dX6_toOthers_91 : decode cX6_toOthers 91 = .ok (.iload_n 1, 1) := by decide +kernel
theorem dX6_toOthers_92 : decode cX6_toOthers 92 = .ok (.iconst 1, 1) := by decide +kernel
theorem dX6_toOthers_93 : decode cX6_toOthers 93 = .ok (.invokestatic 178, 3) := by decide +kernel
theorem dX6_toOthers_96 : decode cX6_toOthers 96 = .ok (.ifCond .eq 9, 3) := by decide +kernel
theorem dX6_toOthers_99 : decode cX6_toOthers 99 = .ok (.aload_n 0, 1) := by decide +kernel
theorem dX6_toOthers_100 : decode cX6_toOthers 100 = .ok (.iconst 1, 1) := by decide +kernel
theorem dX6_toOthers_101 : decode cX6_toOthers 101 = .ok (.putfield 112, 3) := by decide +kernel
theorem dX6_toOthers_104 : decode cX6_toOthers 104 = .ok (.return_, 1) := by decide +kernel
theorem dX6_toOthers_105 : decode cX6_toOthers 105 = .ok (.iload_n 1, 1) := by decide +kernel
theorem dX6_toOthers_106 : decode cX6_toOthers 106 = .ok (.bipush 8, 2) := by decide +kernel
theorem dX6_toOthers_108 : decode cX6_toOthers 108 = .ok (.invokestatic 178, 3) := by decide +kernel
theorem dX6_toOthers_111 : decode cX6_toOthers 111 = .ok (.ifCond .ne 4, 3) := by decide +kernel
theorem dX6_toOthers_114 : decode cX6_toOthers 114 = .ok (.return_, 1) := by decide +kernel
theorem dX6_toOthers_115 : decode cX6_toOthers 115 = .ok (.aload_n 0, 1) := by decide +kernel
theorem dX6_toOthers_116 : decode cX6_toOthers 116 = .ok (.getfield 118, 3) := by decide +kernel
theorem dX6_toOthers_119 : decode cX6_toOthers 119 = .ok (.iconst 3, 1) := by decide +kernel
theorem dX6_toOthers_120 : decode cX6_toOthers 120 = .ok (.if_icmp .ne 43, 3) := by decide +kernel
theorem dX6_toOthers_123 : decode cX6_toOthers 123 = .ok (.iload_n 3, 1) := by decide +kernel
theorem dX6_toOthers_124 : decode cX6_toOthers 124 = .ok (.aload_n 0, 1) := by decide +kernel
theorem dX6_toOthers_125 : decode cX6_toOthers 125 = .ok (.getfield 54, 3) := by decide +kernel
theorem dX6_toOthers_128 : decode cX6_toOthers 128 = .ok (.if_icmp .eq 11, 3) := by decide +kernel
theorem dX6_toOthers_131 : decode cX6_toOthers 131 = .ok (.aload_n 0, 1) := by decide +kernel
theorem dX6_toOthers_132 : decode cX6_toOthers 132 = .ok (.iload_n 1, 1) := by decide +kernel
theorem dX6_toOthers_133 : decode cX6_toOthers 133 = .ok (.iload_n 2, 1) := by decide +kernel
theorem dX6_toOthers_134 : decode cX6_toOthers 134 = .ok (.iload_n 3, 1) := by decide +kernel
theorem dX6_toOthers_135 : decode cX6_toOthers 135 = .ok (.invokevirtual 192, 3) := by decide +kernel
theorem dX6_toOthers_138 : decode cX6_toOthers 138 = .ok (.return_, 1) := by decide +kernel
theorem dX6_toOthers_139 : decode cX6_toOthers 139 = .ok (.aload_n 0, 1) := by decide +kernel
theorem dX6_toOthers_140 : decode cX6_toOthers 140 = .ok (.aload_n 0, 1) := by decide +kernel
theorem dX6_toOthers_141 : decode cX6_toOthers 141 = .ok (.getfield 82, 3) := by decide +kernel
theorem dX6_toOthers_144 : decode cX6_toOthers 144 = .ok (.ifCond .eq 7, 3) := by decide +kernel
theorem dX6_toOthers_147 : decode cX6_toOthers 147 = .ok (.iconst 5, 1) := by decide +kernel
theorem dX6_toOthers_148 : decode cX6_toOthers 148 = .ok (.goto 4, 3) := by decide +kernel
theorem dX6_toOthers_151 : decode cX6_toOthers 151 = .ok (.iconst 4, 1) := by decide +kernel
theorem dX6_toOthers_152 : decode cX6_toOthers 152 = .ok (.putfield 118, 3) := by decide +kernel
theorem dX6_toOthers_155 : decode cX6_toOthers 155 = .ok (.aload_n 0, 1) := by decide +kernel
theorem dX6_toOthers_156 : decode cX6_toOthers 156 = .ok (.iconst 0, 1) := by decide +kernel
theorem dX6_toOthers_157 : decode cX6_toOthers 157 = .ok (.putfield 103, 3) := by decide +kernel
theorem dX6_toOthers_160 : decode cX6_toOthers 160 = .ok (.goto 18, 3) := by decide +kernel
theorem dX6_toOthers_163 : decode cX6_toOthers 163 = .ok (.iload_n 3, 1) := by decide +kernel
theorem dX6_toOthers_164 : decode cX6_toOthers 164 = .ok (.aload_n 0, 1) := by decide +kernel
theorem dX6_toOthers_165 : decode cX6_toOthers 165 = .ok (.getfield 54, 3) := by decide +kernel
theorem dX6_toOthers_168 : decode cX6_toOthers 168 = .ok (.isub, 1) := by decide +kernel
theorem dX6_toOthers_169 : decode cX6_toOthers 169 = .ok (.ifCond .le 9, 3) := by decide +kernel
theorem dX6_toOthers_172 : decode cX6_toOthers 172 = .ok (.aload_n 0, 1) := by decide +kernel
theorem dX6_toOthers_173 : decode cX6_toOthers 173 = .ok (.iconst 1, 1) := by decide +kernel
theorem dX6_toOthers_174 : decode cX6_toOthers 174 = .ok (.putfield 112, 3) := by decide +kernel
theorem dX6_toOthers_177 : decode cX6_toOthers 177 = .ok (.return_, 1) := by decide +kernel
theorem dX6_toOthers_178 : decode cX6_toOthers 178 = .ok (.iload_n 3, 1) := by decide +kernel
theorem dX6_toOthers_179 : decode cX6_toOthers 179 = .ok (.aload_n 0, 1) := by decide +kernel
theorem dX6_toOthers_180 : decode cX6_toOthers 180 = .ok (.getfield 51, 3) := by decide +kernel
theorem dX6_toOthers_183 : decode cX6_toOthers 183 = .ok (.isub, 1) := by decide +kernel
theorem dX6_toOthers_184 : decode cX6_toOthers 184 = .ok (.ifCond .le 8, 3) := by decide +kernel
theorem dX6_toOthers_187 : decode cX6_toOthers 187 = .ok (.aload_n 0, 1) := by decide +kernel
theorem dX6_toOthers_188 : decode cX6_toOthers 188 = .ok (.iload_n 3, 1) := by decide +kernel
theorem dX6_toOthers_189 : decode cX6_toOthers 189 = .ok (.invokevirtual 200, 3) := by decide +kernel
theorem dX6_toOthers_192 : decode cX6_toOthers 192 = .ok (.aload_n 0, 1) := by decide +kernel
theorem dX6_toOthers_193 : decode cX6_toOthers 193 = .ok (.iload_n 2, 1) := by decide +kernel
theorem dX6_toOthers_194 : decode cX6_toOthers 194 = .ok (.iload_n 3, 1) := by decide +kernel
theorem dX6_toOthers_195 : decode cX6_toOthers 195 = .ok (.iload 4, 2) := by decide +kernel
theorem dX6_toOthers_197 : decode cX6_toOthers 197 = .ok (.invokevirtual 219, 3) := by decide +kernel
theorem dX6_toOthers_200 : decode cX6_toOthers 200 = .ok (.aload_n 0, 1) := by decide +kernel
theorem dX6_toOthers_201 : decode cX6_toOthers 201 = .ok (.invokevirtual 222, 3) := by decide +kernel
theorem dX6_toOthers_204 : decode cX6_toOthers 204 = .ok (.ifCond .eq 4, 3) := by decide +kernel
theorem dX6_toOthers_207 : decode cX6_toOthers 207 = .ok (.return_, 1) := by decide +kernel
theorem dX6_toOthers_208 : decode cX6_toOthers 208 = .ok (.aload_n 0, 1) := by decide +kernel
theorem dX6_toOthers_209 : decode cX6_toOthers 209 = .ok (.iload_n 1, 1) := by decide +kernel
theorem dX6_toOthers_210 : decode cX6_toOthers 210 = .ok (.iload_n 2, 1) := by decide +kernel
theorem dX6_toOthers_211 : decode cX6_toOthers 211 = .ok (.invokevirtual 225, 3) := by decide +kernel
theorem dX6_toOthers_214 : decode cX6_toOthers 214 = .ok (.return_, 1) := by decide +kernel
theorem dX6_greet_0 : decode cX6_greet 0 = .ok (.aload_n 0, 1) := by decide +kernel
theorem dX6_greet_1 : decode cX6_greet 1 = .ok (.iconst 1, 1) := by decide +kernel
theorem dX6_greet_2 : decode cX6_greet 2 = .ok (.putfield 72, 3) := by decide +kernel
theorem dX6_greet_5 : decode cX6_greet 5 = .ok (.aload_n 0, 1) := by decide +kernel
theorem dX6_greet_6 : decode cX6_greet 6 = .ok (.iload_n 2, 1) := by decide +kernel
theorem dX6_greet_7 : decode cX6_greet 7 = .ok (.iconst 1, 1) := by decide +kernel
theorem dX6_greet_8 : decode cX6_greet 8 = .ok (.iadd, 1) := by decide +kernel
theorem dX6_greet_9 : decode cX6_greet 9 = .ok (.putfield 69, 3) := by decide +kernel
theorem dX6_greet_12 : decode cX6_greet 12 = .ok (.iload 5, 2) := by decide +kernel
theorem dX6_greet_14 : decode cX6_greet 14 = .ok (.ifCond .ne 9, 3) := by decide +kernel
theorem dX6_greet_17 : decode cX6_greet 17 = .ok (.sipush 536, 3) := by decide +kernel
theorem dX6_greet_20 : decode cX6_greet 20 = .ok (.goto 5, 3) := by decide +kernel
