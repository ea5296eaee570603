/-! written by program (wip/gen) -/
def R_law : String := "StreamEndLaw"
def lw_P (b : Addr) (xs : List Int32) (args : Array Value) (s : State) : Prop := args = #[.ref b] ∧ s.IntsAt b xs ∧ xs.length ≤ 3074 ∧ (Jvm.Cond.and given_1 narrow_1).before args s = true
def lw_Q (_ : Array Value) (s : State) (o : Outcome) (t : State) : Prop := o = .returned (some (.int 1)) ∧ Framed s o t [] 1059 24491
def lw_Z (below : List Frame) (a : Array Value) (s : State) : State → Prop := fun t => ∃ o, t.status = .running ∧ Ended t below o ∧ lw_Q a s o t
theorem lw_ret {p : Program} {l : Launch} {e : Env} {s : State} {m : MethodId} {below : List Frame} {meth : Method} {c : Code} {b : Nat} (hx : p.tables.exec = Jvm.exec) (hb : c.code = code) (hr : meth.sig.returnType = ret) (hlocks : meth.locks = false) {pc : Nat} {H : Heap} {ls : Array Slot} (hdg : decode code pc = .ok (.ireturn, 1)) : W p l e room_1 s m #[Value.ref b] below meth c H [] 1059 24491 (lw_Z below #[Value.ref b] s) (F0 m pc ls [.int 1]) := by
  intro T hT X
  obtain ⟨fs, hret, hrun, hended, hW, hframe⟩ := X.leave (v := some (.int 1)) (hlocks := hlocks) (fun h => by rw [hr] at h; cases h)
  have hmeth' : T.vm.method? m = some meth := X.method'
  refine ⟨T.setFrames fs, ?_, .returned (some (.int 1)), hrun, hended, rfl, ⟨_, rfl⟩, hW, hframe⟩
  jvm_step X.here [X.here.top, hx, hb, hdg, hmeth', hr, ret, narrow_b1]
  (try refine ⟨rfl, ?_⟩); (try refine ⟨rfl, ?_⟩)
  first | (intro acts; rw [hret _ acts rfl rfl rfl]) | rw [hret _ _ rfl rfl rfl]
  exact Steps.refl _
def lw_At (p : Program) (s : State) (m : MethodId) (meth : Method) (c : Code) (b L : Nat) (xs : Nat → Int32) : Prop :=
  p.tables.exec = Jvm.exec ∧ c.code = code ∧ meth.sig.returnType = ret ∧ c.maxLocals = 7 ∧ s.vm.findClass R_law = some m.cls ∧ (∀ w ∈ lw_tbl, w.before #[Value.ref b] s = true) ∧ va_X b L xs s s.heap ∧ b < s.heap.size ∧ meth.locks = false ∧ (Jvm.Cond.and given_1 narrow_1).before #[Value.ref b] s = true

theorem dXL_cell_0 : decode cXL_cell 0 = .ok (.iload_n 1, 1) := by decide +kernel
theorem dXL_cell_1 : decode cXL_cell 1 = .ok (.aload_n 0, 1) := by decide +kernel
theorem dXL_cell_2 : decode cXL_cell 2 = .ok (.arraylength, 1) := by decide +kernel
theorem dXL_cell_3 : decode cXL_cell 3 = .ok (.if_icmp .ge 9, 3) := by decide +kernel
theorem dXL_cell_6 : decode cXL_cell 6 = .ok (.aload_n 0, 1) := by decide +kernel
theorem dXL_cell_7 : decode cXL_cell 7 = .ok (.iload_n 1, 1) := by decide +kernel
theorem dXL_cell_8 : decode cXL_cell 8 = .ok (.iaload, 1) := by decide +kernel
theorem dXL_cell_9 : decode cXL_cell 9 = .ok (.goto 4, 3) := by decide +kernel
theorem dXL_cell_12 : decode cXL_cell 12 = .ok (.iconst 0, 1) := by decide +kernel
theorem dXL_cell_13 : decode cXL_cell 13 = .ok (.ireturn, 1) := by decide +kernel
theorem d_law_0 : decode code 0 = .ok (.new 8, 3) := by decide +kernel
theorem d_law_3 : decode code 3 = .ok (.dup, 1) := by decide +kernel
theorem d_law_4 : decode code 4 = .ok (.aload_n 0, 1) := by decide +kernel
theorem d_law_5 : decode code 5 = .ok (.iconst 0, 1) := by decide +kernel
theorem d_law_6 : decode code 6 = .ok (.invokestatic 53, 3) := by decide +kernel
theorem d_law_9 : decode code 9 = .ok (.aload_n 0, 1) := by decide +kernel
theorem d_law_10 : decode code 10 = .ok (.iconst 1, 1) := by decide +kernel
theorem d_law_11 : decode code 11 = .ok (.invokestatic 53, 3) := by decide +kernel
theorem d_law_14 : decode code 14 = .ok (.invokespecial 59, 3) := by decide +kernel
theorem d_law_17 : decode code 17 = .ok (.astore_n 1, 1) := by decide +kernel
theorem d_law_18 : decode code 18 = .ok (.new 62, 3) := by decide +kernel
theorem d_law_21 : decode code 21 = .ok (.dup, 1) := by decide +kernel
theorem d_law_22 : decode code 22 = .ok (.aload_n 0, 1) := by decide +kernel
theorem d_law_23 : decode code 23 = .ok (.iconst 0, 1) := by decide +kernel
theorem d_law_24 : decode code 24 = .ok (.invokestatic 53, 3) := by decide +kernel
theorem d_law_27 : decode code 27 = .ok (.aload_n 0, 1) := by decide +kernel
theorem d_law_28 : decode code 28 = .ok (.iconst 1, 1) := by decide +kernel
theorem d_law_29 : decode code 29 = .ok (.invokestatic 53, 3) := by decide +kernel
theorem d_law_32 : decode code 32 = .ok (.invokespecial 64, 3) := by decide +kernel
theorem d_law_35 : decode code 35 = .ok (.astore_n 2, 1) := by decide +kernel
theorem d_law_36 : decode code 36 = .ok (.iconst 1, 1) := by decide +kernel
theorem d_law_37 : decode code 37 = .ok (.newarray .long, 2) := by decide +kernel
theorem d_law_39 : decode code 39 = .ok (.astore_n 3, 1) := by decide +kernel
theorem d_law_40 : decode code 40 = .ok (.iconst 2, 1) := by decide +kernel
theorem d_law_41 : decode code 41 = .ok (.istore 4, 2) := by decide +kernel
theorem d_law_43 : decode code 43 = .ok (.iload 4, 2) := by decide +kernel
theorem d_law_45 : decode code 45 = .ok (.aload_n 0, 1) := by decide +kernel
theorem d_law_46 : decode code 46 = .ok (.arraylength, 1) := by decide +kernel
theorem d_law_47 : decode code 47 = .ok (.bipush 6, 2) := by decide +kernel
theorem d_law_49 : decode code 49 = .ok (.isub, 1) := by decide +kernel
theorem d_law_50 : decode code 50 = .ok (.if_icmp .gt 565, 3) := by decide +kernel
theorem d_law_53 : decode code 53 = .ok (.aload_n 0, 1) := by decide +kernel
theorem d_law_54 : decode code 54 = .ok (.iload 4, 2) := by decide +kernel
theorem d_law_56 : decode code 56 = .ok (.iaload, 1) := by decide +kernel
theorem d_law_57 : decode code 57 = .ok (.bipush 15, 2) := by decide +kernel
theorem d_law_59 : decode code 59 = .ok (.iand, 1) := by decide +kernel
theorem d_law_60 : decode code 60 = .ok (.tableswitch 549 0 12 #[68, 121, 193, 209, 222, 235, 291, 304, 332, 360, 432, 508, 521], 68) := by decide +kernel
theorem d_law_128 : decode code 128 = .ok (.aload_n 1, 1) := by decide +kernel
theorem d_law_129 : decode code 129 = .ok (.aload_n 0, 1) := by decide +kernel
theorem d_law_130 : decode code 130 = .ok (.iload 4, 2) := by decide +kernel
theorem d_law_132 : decode code 132 = .ok (.iconst 1, 1) := by decide +kernel
theorem d_law_133 : decode code 133 = .ok (.iadd, 1) := by decide +kernel
theorem d_law_134 : decode code 134 = .ok (.iaload, 1) := by decide +kernel
theorem d_law_135 : decode code 135 = .ok (.aload_n 0, 1) := by decide +kernel
theorem d_law_136 : decode code 136 = .ok (.iload 4, 2) := by decide +kernel
theorem d_law_138 : decode code 138 = .ok (.iconst 2, 1) := by decide +kernel
theorem d_law_139 : decode code 139 = .ok (.iadd, 1) := by decide +kernel
theorem d_law_140 : decode code 140 = .ok (.iaload, 1) := by decide +kernel
theorem d_law_141 : decode code 141 = .ok (.ifCond .eq 7, 3) := by decide +kernel
theorem d_law_144 : decode code 144 = .ok (.iconst 1, 1) := by decide +kernel
theorem d_law_145 : decode code 145 = .ok (.goto 4, 3) := by decide +kernel
theorem d_law_148 : decode code 148 = .ok (.iconst 0, 1) := by decide +kernel
theorem d_law_149 : decode code 149 = .ok (.invokestatic 65, 3) := by decide +kernel
theorem d_law_152 : decode code 152 = .ok (.istore 5, 2) := by decide +kernel
theorem d_law_154 : decode code 154 = .ok (.aload_n 2, 1) := by decide +kernel
theorem d_law_155 : decode code 155 = .ok (.aload_n 0, 1) := by decide +kernel
theorem d_law_156 : decode code 156 = .ok (.iload 4, 2) := by decide +kernel
theorem d_law_158 : decode code 158 = .ok (.iconst 1, 1) := by decide +kernel
theorem d_law_159 : decode code 159 = .ok (.iadd, 1) := by decide +kernel
theorem d_law_160 : decode code 160 = .ok (.iaload, 1) := by decide +kernel
theorem d_law_161 : decode code 161 = .ok (.aload_n 0, 1) := by decide +kernel
theorem d_law_162 : decode code 162 = .ok (.iload 4, 2) := by decide +kernel
theorem d_law_164 : decode code 164 = .ok (.iconst 2, 1) := by decide +kernel
theorem d_law_165 : decode code 165 = .ok (.iadd, 1) := by decide +kernel
theorem d_law_166 : decode code 166 = .ok (.iaload, 1) := by decide +kernel
theorem d_law_167 : decode code 167 = .ok (.ifCond .eq 7, 3) := by decide +kernel
theorem d_law_170 : decode code 170 = .ok (.iconst 1, 1) := by decide +kernel
theorem d_law_171 : decode code 171 = .ok (.goto 4, 3) := by decide +kernel
theorem d_law_174 : decode code 174 = .ok (.iconst 0, 1) := by decide +kernel
theorem d_law_175 : decode code 175 = .ok (.invokevirtual 68, 3) := by decide +kernel
theorem d_law_178 : decode code 178 = .ok (.goto 431, 3) := by decide +kernel
theorem d_law_181 : decode code 181 = .ok (.aload_n 1, 1) := by decide +kernel
theorem d_law_182 : decode code 182 = .ok (.aload_n 0, 1) := by decide +kernel
theorem d_law_183 : decode code 183 = .ok (.iload 4, 2) := by decide +kernel
theorem d_law_185 : decode code 185 = .ok (.iconst 1, 1) := by decide +kernel
theorem d_law_186 : decode code 186 = .ok (.iadd, 1) := by decide +kernel
theorem d_law_187 : decode code 187 = .ok (.iaload, 1) := by decide +kernel
theorem d_law_188 : decode code 188 = .ok (.i2l, 1) := by decide +kernel
theorem d_law_189 : decode code 189 = .ok (.bipush 32, 2) := by decide +kernel
theorem d_law_191 : decode code 191 = .ok (.lshl, 1) := by decide +kernel
theorem d_law_192 : decode code 192 = .ok (.aload_n 0, 1) := by decide +kernel
theorem d_law_193 : decode code 193 = .ok (.iload 4, 2) := by decide +kernel
theorem d_law_195 : decode code 195 = .ok (.iconst 2, 1) := by decide +kernel
theorem d_law_196 : decode code 196 = .ok (.iadd, 1) := by decide +kernel
theorem d_law_197 : decode code 197 = .ok (.iaload, 1) := by decide +kernel
theorem d_law_198 : decode code 198 = .ok (.i2l, 1) := by decide +kernel
theorem d_law_199 : decode code 199 = .ok (.ldc2_w 69, 3) := by decide +kernel
theorem d_law_202 : decode code 202 = .ok (.land, 1) := by decide +kernel
theorem d_law_203 : decode code 203 = .ok (.lor, 1) := by decide +kernel
theorem d_law_204 : decode code 204 = .ok (.aload_n 0, 1) := by decide +kernel
theorem d_law_205 : decode code 205 = .ok (.iload 4, 2) := by decide +kernel
theorem d_law_207 : decode code 207 = .ok (.iconst 3, 1) := by decide +kernel
theorem d_law_208 : decode code 208 = .ok (.iadd, 1) := by decide +kernel
theorem d_law_209 : decode code 209 = .ok (.iaload, 1) := by decide +kernel
theorem d_law_210 : decode code 210 = .ok (.aload_n 3, 1) := by decide +kernel
theorem d_law_211 : decode code 211 = .ok (.invokestatic 71, 3) := by decide +kernel
theorem d_law_214 : decode code 214 = .ok (.istore 5, 2) := by decide +kernel
theorem d_law_216 : decode code 216 = .ok (.aload_n 2, 1) := by decide +kernel
theorem d_law_217 : decode code 217 = .ok (.aload_n 0, 1) := by decide +kernel
theorem d_law_218 : decode code 218 = .ok (.iload 4, 2) := by decide +kernel
theorem d_law_220 : decode code 220 = .ok (.iconst 1, 1) := by decide +kernel
theorem d_law_221 : decode code 221 = .ok (.iadd, 1) := by decide +kernel
theorem d_law_222 : decode code 222 = .ok (.iaload, 1) := by decide +kernel
theorem d_law_223 : decode code 223 = .ok (.i2l, 1) := by decide +kernel
theorem d_law_224 : decode code 224 = .ok (.bipush 32, 2) := by decide +kernel
theorem d_law_226 : decode code 226 = .ok (.lshl, 1) := by decide +kernel
theorem d_law_227 : decode code 227 = .ok (.aload_n 0, 1) := by decide +kernel
theorem d_law_228 : decode code 228 = .ok (.iload 4, 2) := by decide +kernel
theorem d_law_230 : decode code 230 = .ok (.iconst 2, 1) := by decide +kernel
theorem d_law_231 : decode code 231 = .ok (.iadd, 1) := by decide +kernel
theorem d_law_232 : decode code 232 = .ok (.iaload, 1) := by decide +kernel
theorem d_law_233 : decode code 233 = .ok (.i2l, 1) := by decide +kernel
theorem d_law_234 : decode code 234 = .ok (.ldc2_w 69, 3) := by decide +kernel
theorem d_law_237 : decode code 237 = .ok (.land, 1) := by decide +kernel
theorem d_law_238 : decode code 238 = .ok (.lor, 1) := by decide +kernel
theorem d_law_239 : decode code 239 = .ok (.aload_n 0, 1) := by decide +kernel
theorem d_law_240 : decode code 240 = .ok (.iload 4, 2) := by decide +kernel
theorem d_law_242 : decode code 242 = .ok (.iconst 3, 1) := by decide +kernel
theorem d_law_243 : decode code 243 = .ok (.iadd, 1) := by decide +kernel
theorem d_law_244 : decode code 244 = .ok (.iaload, 1) := by decide +kernel
theorem d_law_245 : decode code 245 = .ok (.invokevirtual 74, 3) := by decide +kernel
theorem d_law_248 : decode code 248 = .ok (.istore 6, 2) := by decide +kernel
theorem d_law_250 : decode code 250 = .ok (.goto 359, 3) := by decide +kernel
theorem d_law_253 : decode code 253 = .ok (.aload_n 1, 1) := by decide +kernel
theorem d_law_254 : decode code 254 = .ok (.aload_n 3, 1) := by decide +kernel
theorem d_law_255 : decode code 255 = .ok (.invokestatic 75, 3) := by decide +kernel
theorem d_law_258 : decode code 258 = .ok (.istore 5, 2) := by decide +kernel
theorem d_law_260 : decode code 260 = .ok (.aload_n 2, 1) := by decide +kernel
theorem d_law_261 : decode code 261 = .ok (.invokevirtual 78, 3) := by decide +kernel
theorem d_law_264 : decode code 264 = .ok (.istore 6, 2) := by decide +kernel
theorem d_law_266 : decode code 266 = .ok (.goto 343, 3) := by decide +kernel
theorem d_law_269 : decode code 269 = .ok (.aload_n 1, 1) := by decide +kernel
theorem d_law_270 : decode code 270 = .ok (.invokestatic 79, 3) := by decide +kernel
theorem d_law_273 : decode code 273 = .ok (.istore 5, 2) := by decide +kernel
theorem d_law_275 : decode code 275 = .ok (.aload_n 2, 1) := by decide +kernel
theorem d_law_276 : decode code 276 = .ok (.invokevirtual 82, 3) := by decide +kernel
theorem d_law_279 : decode code 279 = .ok (.goto 330, 3) := by decide +kernel
theorem d_law_282 : decode code 282 = .ok (.aload_n 1, 1) := by decide +kernel
theorem d_law_283 : decode code 283 = .ok (.invokestatic 83, 3) := by decide +kernel
theorem d_law_286 : decode code 286 = .ok (.istore 5, 2) := by decide +kernel
theorem d_law_288 : decode code 288 = .ok (.aload_n 2, 1) := by decide +kernel
theorem d_law_289 : decode code 289 = .ok (.invokevirtual 85, 3) := by decide +kernel
theorem d_law_292 : decode code 292 = .ok (.goto 317, 3) := by decide +kernel
theorem d_law_295 : decode code 295 = .ok (.aload_n 1, 1) := by decide +kernel
theorem d_law_296 : decode code 296 = .ok (.aload_n 0, 1) := by decide +kernel
theorem d_law_297 : decode code 297 = .ok (.iload 4, 2) := by decide +kernel
theorem d_law_299 : decode code 299 = .ok (.iconst 1, 1) := by decide +kernel
theorem d_law_300 : decode code 300 = .ok (.iadd, 1) := by decide +kernel
theorem d_law_301 : decode code 301 = .ok (.iaload, 1) := by decide +kernel
theorem d_law_302 : decode code 302 = .ok (.aload_n 3, 1) := by decide +kernel
theorem d_law_303 : decode code 303 = .ok (.invokestatic 86, 3) := by decide +kernel
theorem d_law_306 : decode code 306 = .ok (.istore 5, 2) := by decide +kernel
theorem d_law_308 : decode code 308 = .ok (.aload_n 2, 1) := by decide +kernel
theorem d_law_309 : decode code 309 = .ok (.aload_n 0, 1) := by decide +kernel
theorem d_law_310 : decode code 310 = .ok (.iload 4, 2) := by decide +kernel
theorem d_law_312 : decode code 312 = .ok (.iconst 1, 1) := by decide +kernel
theorem d_law_313 : decode code 313 = .ok (.iadd, 1) := by decide +kernel
theorem d_law_314 : decode code 314 = .ok (.iaload, 1) := by decide +kernel
theorem d_law_315 : decode code 315 = .ok (.invokevirtual 89, 3) := by decide +kernel
theorem d_law_318 : decode code 318 = .ok (.istore 6, 2) := by decide +kernel
theorem d_law_320 : decode code 320 = .ok (.aload_n 2, 1) := by decide +kernel
theorem d_law_321 : decode code 321 = .ok (.invokevirtual 90, 3) := by decide +kernel
theorem d_law_324 : decode code 324 = .ok (.iload 5, 2) := by decide +kernel
theorem d_law_326 : decode code 326 = .ok (.if_icmp .eq 5, 3) := by decide +kernel
theorem d_law_329 : decode code 329 = .ok (.iconst 0, 1) := by decide +kernel
theorem d_law_330 : decode code 330 = .ok (.ireturn, 1) := by decide +kernel
theorem d_law_331 : decode code 331 = .ok (.iload 5, 2) := by decide +kernel
theorem d_law_333 : decode code 333 = .ok (.ifCond .ne 15, 3) := by decide +kernel
theorem d_law_336 : decode code 336 = .ok (.aload_n 3, 1) := by decide +kernel
theorem d_law_337 : decode code 337 = .ok (.iconst 0, 1) := by decide +kernel
theorem d_law_338 : decode code 338 = .ok (.laload, 1) := by decide +kernel
theorem d_law_339 : decode code 339 = .ok (.iload 6, 2) := by decide +kernel
theorem d_law_341 : decode code 341 = .ok (.i2l, 1) := by decide +kernel
theorem d_law_342 : decode code 342 = .ok (.lcmp, 1) := by decide +kernel
theorem d_law_343 : decode code 343 = .ok (.ifCond .eq 5, 3) := by decide +kernel
theorem d_law_346 : decode code 346 = .ok (.iconst 0, 1) := by decide +kernel
theorem d_law_347 : decode code 347 = .ok (.ireturn, 1) := by decide +kernel
theorem d_law_348 : decode code 348 = .ok (.goto 261, 3) := by decide +kernel
theorem d_law_351 : decode code 351 = .ok (.aload_n 1, 1) := by decide +kernel
theorem d_law_352 : decode code 352 = .ok (.invokevirtual 93, 3) := by decide +kernel
theorem d_law_355 : decode code 355 = .ok (.pop, 1) := by decide +kernel
theorem d_law_356 : decode code 356 = .ok (.aload_n 2, 1) := by decide +kernel
theorem d_law_357 : decode code 357 = .ok (.invokevirtual 97, 3) := by decide +kernel
theorem d_law_360 : decode code 360 = .ok (.pop, 1) := by decide +kernel
theorem d_law_361 : decode code 361 = .ok (.goto 248, 3) := by decide +kernel
theorem d_law_364 : decode code 364 = .ok (.aload_n 1, 1) := by decide +kernel
theorem d_law_365 : decode code 365 = .ok (.aload_n 0, 1) := by decide +kernel
theorem d_law_366 : decode code 366 = .ok (.iload 4, 2) := by decide +kernel
theorem d_law_368 : decode code 368 = .ok (.iconst 1, 1) := by decide +kernel
theorem d_law_369 : decode code 369 = .ok (.iadd, 1) := by decide +kernel
theorem d_law_370 : decode code 370 = .ok (.iaload, 1) := by decide +kernel
theorem d_law_371 : decode code 371 = .ok (.aload_n 3, 1) := by decide +kernel
theorem d_law_372 : decode code 372 = .ok (.invokestatic 98, 3) := by decide +kernel
theorem d_law_375 : decode code 375 = .ok (.istore 5, 2) := by decide +kernel
theorem d_law_377 : decode code 377 = .ok (.aload_n 2, 1) := by decide +kernel
theorem d_law_378 : decode code 378 = .ok (.aload_n 0, 1) := by decide +kernel
theorem d_law_379 : decode code 379 = .ok (.iload 4, 2) := by decide +kernel
theorem d_law_381 : decode code 381 = .ok (.iconst 1, 1) := by decide +kernel
theorem d_law_382 : decode code 382 = .ok (.iadd, 1) := by decide +kernel
theorem d_law_383 : decode code 383 = .ok (.iaload, 1) := by decide +kernel
theorem d_law_384 : decode code 384 = .ok (.invokevirtual 100, 3) := by decide +kernel
theorem d_law_387 : decode code 387 = .ok (.istore 6, 2) := by decide +kernel
theorem d_law_389 : decode code 389 = .ok (.goto 220, 3) := by decide +kernel
theorem d_law_392 : decode code 392 = .ok (.aload_n 1, 1) := by decide +kernel
theorem d_law_393 : decode code 393 = .ok (.aload_n 0, 1) := by decide +kernel
theorem d_law_394 : decode code 394 = .ok (.iload 4, 2) := by decide +kernel
theorem d_law_396 : decode code 396 = .ok (.iconst 1, 1) := by decide +kernel
theorem d_law_397 : decode code 397 = .ok (.iadd, 1) := by decide +kernel
theorem d_law_398 : decode code 398 = .ok (.iaload, 1) := by decide +kernel
theorem d_law_399 : decode code 399 = .ok (.aload_n 3, 1) := by decide +kernel
theorem d_law_400 : decode code 400 = .ok (.invokestatic 101, 3) := by decide +kernel
theorem d_law_403 : decode code 403 = .ok (.istore 5, 2) := by decide +kernel
theorem d_law_405 : decode code 405 = .ok (.aload_n 2, 1) := by decide +kernel
theorem d_law_406 : decode code 406 = .ok (.aload_n 0, 1) := by decide +kernel
theorem d_law_407 : decode code 407 = .ok (.iload 4, 2) := by decide +kernel
theorem d_law_409 : decode code 409 = .ok (.iconst 1, 1) := by decide +kernel
theorem d_law_410 : decode code 410 = .ok (.iadd, 1) := by decide +kernel
theorem d_law_411 : decode code 411 = .ok (.iaload, 1) := by decide +kernel
theorem d_law_412 : decode code 412 = .ok (.invokevirtual 103, 3) := by decide +kernel
theorem d_law_415 : decode code 415 = .ok (.istore 6, 2) := by decide +kernel
theorem d_law_417 : decode code 417 = .ok (.goto 192, 3) := by decide +kernel
theorem d_law_420 : decode code 420 = .ok (.aload_n 1, 1) := by decide +kernel
theorem d_law_421 : decode code 421 = .ok (.aload_n 0, 1) := by decide +kernel
theorem d_law_422 : decode code 422 = .ok (.iload 4, 2) := by decide +kernel
theorem d_law_424 : decode code 424 = .ok (.iconst 1, 1) := by decide +kernel
theorem d_law_425 : decode code 425 = .ok (.iadd, 1) := by decide +kernel
theorem d_law_426 : decode code 426 = .ok (.iaload, 1) := by decide +kernel
theorem d_law_427 : decode code 427 = .ok (.i2l, 1) := by decide +kernel
theorem d_law_428 : decode code 428 = .ok (.bipush 32, 2) := by decide +kernel
theorem d_law_430 : decode code 430 = .ok (.lshl, 1) := by decide +kernel
theorem d_law_431 : decode code 431 = .ok (.aload_n 0, 1) := by decide +kernel
theorem d_law_432 : decode code 432 = .ok (.iload 4, 2) := by decide +kernel
theorem d_law_434 : decode code 434 = .ok (.iconst 2, 1) := by decide +kernel
theorem d_law_435 : decode code 435 = .ok (.iadd, 1) := by decide +kernel
theorem d_law_436 : decode code 436 = .ok (.iaload, 1) := by decide +kernel
theorem d_law_437 : decode code 437 = .ok (.i2l, 1) := by decide +kernel
theorem d_law_438 : decode code 438 = .ok (.ldc2_w 69, 3) := by decide +kernel
theorem d_law_441 : decode code 441 = .ok (.land, 1) := by decide +kernel
theorem d_law_442 : decode code 442 = .ok (.lor, 1) := by decide +kernel
theorem d_law_443 : decode code 443 = .ok (.aload_n 0, 1) := by decide +kernel
theorem d_law_444 : decode code 444 = .ok (.iload 4, 2) := by decide +kernel
theorem d_law_446 : decode code 446 = .ok (.iconst 3, 1) := by decide +kernel
theorem d_law_447 : decode code 447 = .ok (.iadd, 1) := by decide +kernel
theorem d_law_448 : decode code 448 = .ok (.iaload, 1) := by decide +kernel
theorem d_law_449 : decode code 449 = .ok (.aload_n 3, 1) := by decide +kernel
theorem d_law_450 : decode code 450 = .ok (.invokestatic 104, 3) := by decide +kernel
theorem d_law_453 : decode code 453 = .ok (.istore 5, 2) := by decide +kernel
theorem d_law_455 : decode code 455 = .ok (.aload_n 2, 1) := by decide +kernel
theorem d_law_456 : decode code 456 = .ok (.aload_n 0, 1) := by decide +kernel
theorem d_law_457 : decode code 457 = .ok (.iload 4, 2) := by decide +kernel
theorem d_law_459 : decode code 459 = .ok (.iconst 1, 1) := by decide +kernel
theorem d_law_460 : decode code 460 = .ok (.iadd, 1) := by decide +kernel
theorem d_law_461 : decode code 461 = .ok (.iaload, 1) := by decide +kernel
theorem d_law_462 : decode code 462 = .ok (.i2l, 1) := by decide +kernel
theorem d_law_463 : decode code 463 = .ok (.bipush 32, 2) := by decide +kernel
theorem d_law_465 : decode code 465 = .ok (.lshl, 1) := by decide +kernel
theorem d_law_466 : decode code 466 = .ok (.aload_n 0, 1) := by decide +kernel
theorem d_law_467 : decode code 467 = .ok (.iload 4, 2) := by decide +kernel
theorem d_law_469 : decode code 469 = .ok (.iconst 2, 1) := by decide +kernel
theorem d_law_470 : decode code 470 = .ok (.iadd, 1) := by decide +kernel
theorem d_law_471 : decode code 471 = .ok (.iaload, 1) := by decide +kernel
theorem d_law_472 : decode code 472 = .ok (.i2l, 1) := by decide +kernel
theorem d_law_473 : decode code 473 = .ok (.ldc2_w 69, 3) := by decide +kernel
theorem d_law_476 : decode code 476 = .ok (.land, 1) := by decide +kernel
theorem d_law_477 : decode code 477 = .ok (.lor, 1) := by decide +kernel
theorem d_law_478 : decode code 478 = .ok (.aload_n 0, 1) := by decide +kernel
theorem d_law_479 : decode code 479 = .ok (.iload 4, 2) := by decide +kernel
theorem d_law_481 : decode code 481 = .ok (.iconst 3, 1) := by decide +kernel
theorem d_law_482 : decode code 482 = .ok (.iadd, 1) := by decide +kernel
theorem d_law_483 : decode code 483 = .ok (.iaload, 1) := by decide +kernel
theorem d_law_484 : decode code 484 = .ok (.invokevirtual 106, 3) := by decide +kernel
theorem d_law_487 : decode code 487 = .ok (.istore 6, 2) := by decide +kernel
theorem d_law_489 : decode code 489 = .ok (.goto 120, 3) := by decide +kernel
theorem d_law_492 : decode code 492 = .ok (.aload_n 1, 1) := by decide +kernel
theorem d_law_493 : decode code 493 = .ok (.aload_n 0, 1) := by decide +kernel
theorem d_law_494 : decode code 494 = .ok (.iload 4, 2) := by decide +kernel
theorem d_law_496 : decode code 496 = .ok (.iconst 1, 1) := by decide +kernel
theorem d_law_497 : decode code 497 = .ok (.iadd, 1) := by decide +kernel
theorem d_law_498 : decode code 498 = .ok (.iaload, 1) := by decide +kernel
theorem d_law_499 : decode code 499 = .ok (.aload_n 0, 1) := by decide +kernel
theorem d_law_500 : decode code 500 = .ok (.iload 4, 2) := by decide +kernel
theorem d_law_502 : decode code 502 = .ok (.iconst 2, 1) := by decide +kernel
theorem d_law_503 : decode code 503 = .ok (.iadd, 1) := by decide +kernel
theorem d_law_504 : decode code 504 = .ok (.iaload, 1) := by decide +kernel
theorem d_law_505 : decode code 505 = .ok (.aload_n 0, 1) := by decide +kernel
theorem d_law_506 : decode code 506 = .ok (.iload 4, 2) := by decide +kernel
theorem d_law_508 : decode code 508 = .ok (.iconst 3, 1) := by decide +kernel
theorem d_law_509 : decode code 509 = .ok (.iadd, 1) := by decide +kernel
theorem d_law_510 : decode code 510 = .ok (.iaload, 1) := by decide +kernel
theorem d_law_511 : decode code 511 = .ok (.aload_n 0, 1) := by decide +kernel
