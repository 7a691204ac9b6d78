/-! THE CLAIM OUT OF ONE WALK OF THE LAW'S BODY. Your part is whole_start (and what it stands on); all else here is the same for every law, but numbers. -/
def R_law : String := "RunProverLaw"
def lw_P (b : Addr) (xs : List Int32) (args : Array Value) (s : State) : Prop := args = #[.ref b] ∧ s.IntsAt b xs ∧ xs.length ≤ 6 ∧ (Jvm.Cond.and given_1 narrow_1).before args s = true
def lw_Q (_ : Array Value) (s : State) (o : Outcome) (t : State) : Prop := o = .returned (some (.int 1)) ∧ Framed s o t [] 600002 7302232
def lw_Z (below : List Frame) (a : Array Value) (s : State) : State → Prop := fun t => ∃ o, t.status = .running ∧ Ended t below o ∧ lw_Q a s o t
/-- the law's own end, with 1 on the stack, nothing written that was there before, its room as the claim has it -/
theorem lw_ret {p : Program} {l : Launch} {e : Env} {s : State} {m : MethodId} {below : List Frame} {meth : Method} {c : Code} {b : Nat} (hx : p.tables.exec = Jvm.exec) (hb : c.code = code) (hr : meth.sig.returnType = ret) (hlocks : meth.locks = false) {pc : Nat} {H : Heap} {ls : Array Slot} (hdg : decode code pc = .ok (.ireturn, 1)) : W p l e room_1 s m #[Value.ref b] below meth c H [] 600002 7302232 (lw_Z below #[Value.ref b] s) (F0 m pc ls [.int 1]) := by
  intro T hT X
  obtain ⟨fs, hret, hrun, hended, hW, hframe⟩ := X.leave (v := some (.int 1)) (hlocks := hlocks) (fun h => by rw [hr] at h; cases h)
  have hmeth' : T.vm.method? m = some meth := X.method'
  refine ⟨T.setFrames fs, ?_, .returned (some (.int 1)), hrun, hended, rfl, ⟨_, rfl⟩, hW, hframe⟩
  jvm_step X.here [X.here.top, hx, hb, hdg, hmeth', hr, ret, narrow_b1]
  (try refine ⟨rfl, ?_⟩); (try refine ⟨rfl, ?_⟩)
  first | (intro acts; rw [hret _ acts rfl rfl rfl]) | rw [hret _ _ rfl rfl rfl]
  exact Steps.refl _
/-- what holds at the law's entry: the machine, the code, the tables' words (any of lw_tbl by 'hts w (by decide +kernel)'), the script of L ints xs at the cell b, what the Statement gives of the start (any of its parts by flat_of_before) -/
def lw_At (p : Program) (s : State) (m : MethodId) (meth : Method) (c : Code) (b L : Nat) (xs : Nat → Int32) : Prop :=
  p.tables.exec = Jvm.exec ∧ c.code = code ∧ meth.sig.returnType = ret ∧ c.maxLocals = 7 ∧ s.vm.findClass R_law = some m.cls ∧ (∀ w ∈ lw_tbl, w.before #[Value.ref b] s = true) ∧ va_X b L xs s s.heap ∧ b < s.heap.size ∧ meth.locks = false ∧ (Jvm.Cond.and given_1 narrow_1).before #[Value.ref b] s = true

theorem dLa_law_0 : decode code 0 = .ok (.new 8, 3) := by decide +kernel
theorem dLa_law_3 : decode code 3 = .ok (.dup, 1) := by decide +kernel
theorem dLa_law_4 : decode code 4 = .ok (.invokespecial 46, 3) := by decide +kernel
theorem dLa_law_7 : decode code 7 = .ok (.astore_n 1, 1) := by decide +kernel
theorem dLa_law_8 : decode code 8 = .ok (.new 47, 3) := by decide +kernel
theorem dLa_law_11 : decode code 11 = .ok (.dup, 1) := by decide +kernel
theorem dLa_law_12 : decode code 12 = .ok (.invokespecial 49, 3) := by decide +kernel
theorem dLa_law_15 : decode code 15 = .ok (.astore_n 2, 1) := by decide +kernel
theorem dLa_law_16 : decode code 16 = .ok (.iconst 1, 1) := by decide +kernel
theorem dLa_law_17 : decode code 17 = .ok (.newarray .long, 2) := by decide +kernel
theorem dLa_law_19 : decode code 19 = .ok (.astore_n 3, 1) := by decide +kernel
theorem dLa_law_20 : decode code 20 = .ok (.iconst 0, 1) := by decide +kernel
theorem dLa_law_21 : decode code 21 = .ok (.istore 4, 2) := by decide +kernel
theorem dLa_law_23 : decode code 23 = .ok (.iload 4, 2) := by decide +kernel
theorem dLa_law_25 : decode code 25 = .ok (.aload_n 0, 1) := by decide +kernel
theorem dLa_law_26 : decode code 26 = .ok (.arraylength, 1) := by decide +kernel
theorem dLa_law_27 : decode code 27 = .ok (.bipush 6, 2) := by decide +kernel
theorem dLa_law_29 : decode code 29 = .ok (.isub, 1) := by decide +kernel
theorem dLa_law_30 : decode code 30 = .ok (.if_icmp .gt 806, 3) := by decide +kernel
theorem dLa_law_33 : decode code 33 = .ok (.aload_n 0, 1) := by decide +kernel
theorem dLa_law_34 : decode code 34 = .ok (.iload 4, 2) := by decide +kernel
theorem dLa_law_36 : decode code 36 = .ok (.iaload, 1) := by decide +kernel
theorem dLa_law_37 : decode code 37 = .ok (.bipush 15, 2) := by decide +kernel
theorem dLa_law_39 : decode code 39 = .ok (.iand, 1) := by decide +kernel
theorem dLa_law_40 : decode code 40 = .ok (.tableswitch 790 0 14 #[76, 180, 236, 249, 274, 287, 343, 399, 479, 547, 603, 671, 684, 752, 765], 76) := by decide +kernel
theorem dLa_law_116 : decode code 116 = .ok (.aload_n 1, 1) := by decide +kernel
theorem dLa_law_117 : decode code 117 = .ok (.aload_n 0, 1) := by decide +kernel
theorem dLa_law_118 : decode code 118 = .ok (.iload 4, 2) := by decide +kernel
theorem dLa_law_120 : decode code 120 = .ok (.iconst 1, 1) := by decide +kernel
theorem dLa_law_121 : decode code 121 = .ok (.iadd, 1) := by decide +kernel
theorem dLa_law_122 : decode code 122 = .ok (.iaload, 1) := by decide +kernel
theorem dLa_law_123 : decode code 123 = .ok (.aload_n 0, 1) := by decide +kernel
theorem dLa_law_124 : decode code 124 = .ok (.iload 4, 2) := by decide +kernel
theorem dLa_law_126 : decode code 126 = .ok (.iconst 2, 1) := by decide +kernel
theorem dLa_law_127 : decode code 127 = .ok (.iadd, 1) := by decide +kernel
theorem dLa_law_128 : decode code 128 = .ok (.iaload, 1) := by decide +kernel
theorem dLa_law_129 : decode code 129 = .ok (.aload_n 0, 1) := by decide +kernel
theorem dLa_law_130 : decode code 130 = .ok (.iload 4, 2) := by decide +kernel
theorem dLa_law_132 : decode code 132 = .ok (.iconst 3, 1) := by decide +kernel
theorem dLa_law_133 : decode code 133 = .ok (.iadd, 1) := by decide +kernel
theorem dLa_law_134 : decode code 134 = .ok (.iaload, 1) := by decide +kernel
theorem dLa_law_135 : decode code 135 = .ok (.aload_n 0, 1) := by decide +kernel
theorem dLa_law_136 : decode code 136 = .ok (.iload 4, 2) := by decide +kernel
theorem dLa_law_138 : decode code 138 = .ok (.iconst 4, 1) := by decide +kernel
theorem dLa_law_139 : decode code 139 = .ok (.iadd, 1) := by decide +kernel
theorem dLa_law_140 : decode code 140 = .ok (.iaload, 1) := by decide +kernel
theorem dLa_law_141 : decode code 141 = .ok (.aload_n 0, 1) := by decide +kernel
theorem dLa_law_142 : decode code 142 = .ok (.iload 4, 2) := by decide +kernel
theorem dLa_law_144 : decode code 144 = .ok (.iconst 5, 1) := by decide +kernel
theorem dLa_law_145 : decode code 145 = .ok (.iadd, 1) := by decide +kernel
theorem dLa_law_146 : decode code 146 = .ok (.iaload, 1) := by decide +kernel
theorem dLa_law_147 : decode code 147 = .ok (.aload_n 3, 1) := by decide +kernel
theorem dLa_law_148 : decode code 148 = .ok (.invokestatic 50, 3) := by decide +kernel
theorem dLa_law_151 : decode code 151 = .ok (.istore 5, 2) := by decide +kernel
theorem dLa_law_153 : decode code 153 = .ok (.aload_n 2, 1) := by decide +kernel
theorem dLa_law_154 : decode code 154 = .ok (.aload_n 0, 1) := by decide +kernel
theorem dLa_law_155 : decode code 155 = .ok (.iload 4, 2) := by decide +kernel
theorem dLa_law_157 : decode code 157 = .ok (.iconst 1, 1) := by decide +kernel
theorem dLa_law_158 : decode code 158 = .ok (.iadd, 1) := by decide +kernel
theorem dLa_law_159 : decode code 159 = .ok (.iaload, 1) := by decide +kernel
theorem dLa_law_160 : decode code 160 = .ok (.aload_n 0, 1) := by decide +kernel
theorem dLa_law_161 : decode code 161 = .ok (.iload 4, 2) := by decide +kernel
theorem dLa_law_163 : decode code 163 = .ok (.iconst 2, 1) := by decide +kernel
theorem dLa_law_164 : decode code 164 = .ok (.iadd, 1) := by decide +kernel
theorem dLa_law_165 : decode code 165 = .ok (.iaload, 1) := by decide +kernel
theorem dLa_law_166 : decode code 166 = .ok (.aload_n 0, 1) := by decide +kernel
theorem dLa_law_167 : decode code 167 = .ok (.iload 4, 2) := by decide +kernel
theorem dLa_law_169 : decode code 169 = .ok (.iconst 3, 1) := by decide +kernel
theorem dLa_law_170 : decode code 170 = .ok (.iadd, 1) := by decide +kernel
theorem dLa_law_171 : decode code 171 = .ok (.iaload, 1) := by decide +kernel
theorem dLa_law_172 : decode code 172 = .ok (.aload_n 0, 1) := by decide +kernel
theorem dLa_law_173 : decode code 173 = .ok (.iload 4, 2) := by decide +kernel
theorem dLa_law_175 : decode code 175 = .ok (.iconst 4, 1) := by decide +kernel
theorem dLa_law_176 : decode code 176 = .ok (.iadd, 1) := by decide +kernel
theorem dLa_law_177 : decode code 177 = .ok (.iaload, 1) := by decide +kernel
theorem dLa_law_178 : decode code 178 = .ok (.aload_n 0, 1) := by decide +kernel
theorem dLa_law_179 : decode code 179 = .ok (.iload 4, 2) := by decide +kernel
theorem dLa_law_181 : decode code 181 = .ok (.iconst 5, 1) := by decide +kernel
theorem dLa_law_182 : decode code 182 = .ok (.iadd, 1) := by decide +kernel
theorem dLa_law_183 : decode code 183 = .ok (.iaload, 1) := by decide +kernel
theorem dLa_law_184 : decode code 184 = .ok (.invokevirtual 55, 3) := by decide +kernel
theorem dLa_law_187 : decode code 187 = .ok (.istore 6, 2) := by decide +kernel
theorem dLa_law_189 : decode code 189 = .ok (.aload_n 2, 1) := by decide +kernel
theorem dLa_law_190 : decode code 190 = .ok (.invokevirtual 56, 3) := by decide +kernel
theorem dLa_law_193 : decode code 193 = .ok (.iload 5, 2) := by decide +kernel
theorem dLa_law_195 : decode code 195 = .ok (.if_icmp .eq 5, 3) := by decide +kernel
theorem dLa_law_198 : decode code 198 = .ok (.iconst 0, 1) := by decide +kernel
theorem dLa_law_199 : decode code 199 = .ok (.ireturn, 1) := by decide +kernel
theorem dLa_law_200 : decode code 200 = .ok (.iload 5, 2) := by decide +kernel
theorem dLa_law_202 : decode code 202 = .ok (.ifCond .ne 15, 3) := by decide +kernel
theorem dLa_law_205 : decode code 205 = .ok (.aload_n 3, 1) := by decide +kernel
theorem dLa_law_206 : decode code 206 = .ok (.iconst 0, 1) := by decide +kernel
theorem dLa_law_207 : decode code 207 = .ok (.laload, 1) := by decide +kernel
theorem dLa_law_208 : decode code 208 = .ok (.iload 6, 2) := by decide +kernel
theorem dLa_law_210 : decode code 210 = .ok (.i2l, 1) := by decide +kernel
theorem dLa_law_211 : decode code 211 = .ok (.lcmp, 1) := by decide +kernel
theorem dLa_law_212 : decode code 212 = .ok (.ifCond .eq 5, 3) := by decide +kernel
theorem dLa_law_215 : decode code 215 = .ok (.iconst 0, 1) := by decide +kernel
theorem dLa_law_216 : decode code 216 = .ok (.ireturn, 1) := by decide +kernel
theorem dLa_law_217 : decode code 217 = .ok (.goto 613, 3) := by decide +kernel
theorem dLa_law_220 : decode code 220 = .ok (.aload_n 1, 1) := by decide +kernel
theorem dLa_law_221 : decode code 221 = .ok (.aload_n 0, 1) := by decide +kernel
theorem dLa_law_222 : decode code 222 = .ok (.iload 4, 2) := by decide +kernel
theorem dLa_law_224 : decode code 224 = .ok (.iconst 1, 1) := by decide +kernel
theorem dLa_law_225 : decode code 225 = .ok (.iadd, 1) := by decide +kernel
theorem dLa_law_226 : decode code 226 = .ok (.iaload, 1) := by decide +kernel
theorem dLa_law_227 : decode code 227 = .ok (.aload_n 3, 1) := by decide +kernel
theorem dLa_law_228 : decode code 228 = .ok (.invokestatic 60, 3) := by decide +kernel
theorem dLa_law_231 : decode code 231 = .ok (.istore 5, 2) := by decide +kernel
theorem dLa_law_233 : decode code 233 = .ok (.aload_n 2, 1) := by decide +kernel
theorem dLa_law_234 : decode code 234 = .ok (.aload_n 0, 1) := by decide +kernel
theorem dLa_law_235 : decode code 235 = .ok (.iload 4, 2) := by decide +kernel
theorem dLa_law_237 : decode code 237 = .ok (.iconst 1, 1) := by decide +kernel
theorem dLa_law_238 : decode code 238 = .ok (.iadd, 1) := by decide +kernel
theorem dLa_law_239 : decode code 239 = .ok (.iaload, 1) := by decide +kernel
theorem dLa_law_240 : decode code 240 = .ok (.invokevirtual 63, 3) := by decide +kernel
theorem dLa_law_243 : decode code 243 = .ok (.istore 6, 2) := by decide +kernel
theorem dLa_law_245 : decode code 245 = .ok (.aload_n 2, 1) := by decide +kernel
theorem dLa_law_246 : decode code 246 = .ok (.invokevirtual 56, 3) := by decide +kernel
theorem dLa_law_249 : decode code 249 = .ok (.iload 5, 2) := by decide +kernel
theorem dLa_law_251 : decode code 251 = .ok (.if_icmp .eq 5, 3) := by decide +kernel
theorem dLa_law_254 : decode code 254 = .ok (.iconst 0, 1) := by decide +kernel
theorem dLa_law_255 : decode code 255 = .ok (.ireturn, 1) := by decide +kernel
theorem dLa_law_256 : decode code 256 = .ok (.iload 5, 2) := by decide +kernel
theorem dLa_law_258 : decode code 258 = .ok (.ifCond .ne 15, 3) := by decide +kernel
theorem dLa_law_261 : decode code 261 = .ok (.aload_n 3, 1) := by decide +kernel
theorem dLa_law_262 : decode code 262 = .ok (.iconst 0, 1) := by decide +kernel
theorem dLa_law_263 : decode code 263 = .ok (.laload, 1) := by decide +kernel
theorem dLa_law_264 : decode code 264 = .ok (.iload 6, 2) := by decide +kernel
theorem dLa_law_266 : decode code 266 = .ok (.i2l, 1) := by decide +kernel
theorem dLa_law_267 : decode code 267 = .ok (.lcmp, 1) := by decide +kernel
theorem dLa_law_268 : decode code 268 = .ok (.ifCond .eq 5, 3) := by decide +kernel
theorem dLa_law_271 : decode code 271 = .ok (.iconst 0, 1) := by decide +kernel
theorem dLa_law_272 : decode code 272 = .ok (.ireturn, 1) := by decide +kernel
theorem dLa_law_273 : decode code 273 = .ok (.goto 557, 3) := by decide +kernel
theorem dLa_law_276 : decode code 276 = .ok (.aload_n 1, 1) := by decide +kernel
theorem dLa_law_277 : decode code 277 = .ok (.invokevirtual 64, 3) := by decide +kernel
theorem dLa_law_280 : decode code 280 = .ok (.aload_n 2, 1) := by decide +kernel
theorem dLa_law_281 : decode code 281 = .ok (.invokevirtual 67, 3) := by decide +kernel
theorem dLa_law_284 : decode code 284 = .ok (.if_icmp .eq 546, 3) := by decide +kernel
theorem dLa_law_287 : decode code 287 = .ok (.iconst 0, 1) := by decide +kernel
theorem dLa_law_288 : decode code 288 = .ok (.ireturn, 1) := by decide +kernel
theorem dLa_law_289 : decode code 289 = .ok (.aload_n 1, 1) := by decide +kernel
theorem dLa_law_290 : decode code 290 = .ok (.aload_n 0, 1) := by decide +kernel
theorem dLa_law_291 : decode code 291 = .ok (.iload 4, 2) := by decide +kernel
theorem dLa_law_293 : decode code 293 = .ok (.iconst 1, 1) := by decide +kernel
theorem dLa_law_294 : decode code 294 = .ok (.iadd, 1) := by decide +kernel
theorem dLa_law_295 : decode code 295 = .ok (.iaload, 1) := by decide +kernel
theorem dLa_law_296 : decode code 296 = .ok (.invokevirtual 68, 3) := by decide +kernel
theorem dLa_law_299 : decode code 299 = .ok (.aload_n 2, 1) := by decide +kernel
theorem dLa_law_300 : decode code 300 = .ok (.aload_n 0, 1) := by decide +kernel
theorem dLa_law_301 : decode code 301 = .ok (.iload 4, 2) := by decide +kernel
theorem dLa_law_303 : decode code 303 = .ok (.iconst 1, 1) := by decide +kernel
theorem dLa_law_304 : decode code 304 = .ok (.iadd, 1) := by decide +kernel
theorem dLa_law_305 : decode code 305 = .ok (.iaload, 1) := by decide +kernel
theorem dLa_law_306 : decode code 306 = .ok (.invokevirtual 71, 3) := by decide +kernel
theorem dLa_law_309 : decode code 309 = .ok (.if_icmp .eq 521, 3) := by decide +kernel
theorem dLa_law_312 : decode code 312 = .ok (.iconst 0, 1) := by decide +kernel
theorem dLa_law_313 : decode code 313 = .ok (.ireturn, 1) := by decide +kernel
theorem dLa_law_314 : decode code 314 = .ok (.aload_n 1, 1) := by decide +kernel
theorem dLa_law_315 : decode code 315 = .ok (.invokevirtual 72, 3) := by decide +kernel
theorem dLa_law_318 : decode code 318 = .ok (.aload_n 2, 1) := by decide +kernel
theorem dLa_law_319 : decode code 319 = .ok (.invokevirtual 75, 3) := by decide +kernel
theorem dLa_law_322 : decode code 322 = .ok (.if_icmp .eq 508, 3) := by decide +kernel
theorem dLa_law_325 : decode code 325 = .ok (.iconst 0, 1) := by decide +kernel
theorem dLa_law_326 : decode code 326 = .ok (.ireturn, 1) := by decide +kernel
theorem dLa_law_327 : decode code 327 = .ok (.aload_n 1, 1) := by decide +kernel
theorem dLa_law_328 : decode code 328 = .ok (.aload_n 0, 1) := by decide +kernel
theorem dLa_law_329 : decode code 329 = .ok (.iload 4, 2) := by decide +kernel
theorem dLa_law_331 : decode code 331 = .ok (.iconst 1, 1) := by decide +kernel
theorem dLa_law_332 : decode code 332 = .ok (.iadd, 1) := by decide +kernel
theorem dLa_law_333 : decode code 333 = .ok (.iaload, 1) := by decide +kernel
theorem dLa_law_334 : decode code 334 = .ok (.aload_n 3, 1) := by decide +kernel
theorem dLa_law_335 : decode code 335 = .ok (.invokestatic 76, 3) := by decide +kernel
theorem dLa_law_338 : decode code 338 = .ok (.istore 5, 2) := by decide +kernel
theorem dLa_law_340 : decode code 340 = .ok (.aload_n 2, 1) := by decide +kernel
theorem dLa_law_341 : decode code 341 = .ok (.aload_n 0, 1) := by decide +kernel
theorem dLa_law_342 : decode code 342 = .ok (.iload 4, 2) := by decide +kernel
theorem dLa_law_344 : decode code 344 = .ok (.iconst 1, 1) := by decide +kernel
theorem dLa_law_345 : decode code 345 = .ok (.iadd, 1) := by decide +kernel
theorem dLa_law_346 : decode code 346 = .ok (.iaload, 1) := by decide +kernel
theorem dLa_law_347 : decode code 347 = .ok (.invokevirtual 78, 3) := by decide +kernel
theorem dLa_law_350 : decode code 350 = .ok (.istore 6, 2) := by decide +kernel
theorem dLa_law_352 : decode code 352 = .ok (.aload_n 2, 1) := by decide +kernel
theorem dLa_law_353 : decode code 353 = .ok (.invokevirtual 56, 3) := by decide +kernel
theorem dLa_law_356 : decode code 356 = .ok (.iload 5, 2) := by decide +kernel
theorem dLa_law_358 : decode code 358 = .ok (.if_icmp .eq 5, 3) := by decide +kernel
theorem dLa_law_361 : decode code 361 = .ok (.iconst 0, 1) := by decide +kernel
theorem dLa_law_362 : decode code 362 = .ok (.ireturn, 1) := by decide +kernel
theorem dLa_law_363 : decode code 363 = .ok (.iload 5, 2) := by decide +kernel
theorem dLa_law_365 : decode code 365 = .ok (.ifCond .ne 15, 3) := by decide +kernel
theorem dLa_law_368 : decode code 368 = .ok (.aload_n 3, 1) := by decide +kernel
theorem dLa_law_369 : decode code 369 = .ok (.iconst 0, 1) := by decide +kernel
theorem dLa_law_370 : decode code 370 = .ok (.laload, 1) := by decide +kernel
theorem dLa_law_371 : decode code 371 = .ok (.iload 6, 2) := by decide +kernel
theorem dLa_law_373 : decode code 373 = .ok (.i2l, 1) := by decide +kernel
theorem dLa_law_374 : decode code 374 = .ok (.lcmp, 1) := by decide +kernel
theorem dLa_law_375 : decode code 375 = .ok (.ifCond .eq 5, 3) := by decide +kernel
theorem dLa_law_378 : decode code 378 = .ok (.iconst 0, 1) := by decide +kernel
theorem dLa_law_379 : decode code 379 = .ok (.ireturn, 1) := by decide +kernel
theorem dLa_law_380 : decode code 380 = .ok (.goto 450, 3) := by decide +kernel
theorem dLa_law_383 : decode code 383 = .ok (.aload_n 1, 1) := by decide +kernel
theorem dLa_law_384 : decode code 384 = .ok (.aload_n 0, 1) := by decide +kernel
theorem dLa_law_385 : decode code 385 = .ok (.iload 4, 2) := by decide +kernel
theorem dLa_law_387 : decode code 387 = .ok (.iconst 1, 1) := by decide +kernel
theorem dLa_law_388 : decode code 388 = .ok (.iadd, 1) := by decide +kernel
theorem dLa_law_389 : decode code 389 = .ok (.iaload, 1) := by decide +kernel
theorem dLa_law_390 : decode code 390 = .ok (.aload_n 3, 1) := by decide +kernel
theorem dLa_law_391 : decode code 391 = .ok (.invokestatic 79, 3) := by decide +kernel
theorem dLa_law_394 : decode code 394 = .ok (.istore 5, 2) := by decide +kernel
theorem dLa_law_396 : decode code 396 = .ok (.aload_n 2, 1) := by decide +kernel
theorem dLa_law_397 : decode code 397 = .ok (.aload_n 0, 1) := by decide +kernel
theorem dLa_law_398 : decode code 398 = .ok (.iload 4, 2) := by decide +kernel
theorem dLa_law_400 : decode code 400 = .ok (.iconst 1, 1) := by decide +kernel
theorem dLa_law_401 : decode code 401 = .ok (.iadd, 1) := by decide +kernel
theorem dLa_law_402 : decode code 402 = .ok (.iaload, 1) := by decide +kernel
theorem dLa_law_403 : decode code 403 = .ok (.invokevirtual 81, 3) := by decide +kernel
theorem dLa_law_406 : decode code 406 = .ok (.istore 6, 2) := by decide +kernel
theorem dLa_law_408 : decode code 408 = .ok (.aload_n 2, 1) := by decide +kernel
theorem dLa_law_409 : decode code 409 = .ok (.invokevirtual 56, 3) := by decide +kernel
theorem dLa_law_412 : decode code 412 = .ok (.iload 5, 2) := by decide +kernel
theorem dLa_law_414 : decode code 414 = .ok (.if_icmp .eq 5, 3) := by decide +kernel
theorem dLa_law_417 : decode code 417 = .ok (.iconst 0, 1) := by decide +kernel
theorem dLa_law_418 : decode code 418 = .ok (.ireturn, 1) := by decide +kernel
theorem dLa_law_419 : decode code 419 = .ok (.iload 5, 2) := by decide +kernel
theorem dLa_law_421 : decode code 421 = .ok (.ifCond .ne 15, 3) := by decide +kernel
theorem dLa_law_424 : decode code 424 = .ok (.aload_n 3, 1) := by decide +kernel
theorem dLa_law_425 : decode code 425 = .ok (.iconst 0, 1) := by decide +kernel
theorem dLa_law_426 : decode code 426 = .ok (.laload, 1) := by decide +kernel
theorem dLa_law_427 : decode code 427 = .ok (.iload 6, 2) := by decide +kernel
theorem dLa_law_429 : decode code 429 = .ok (.i2l, 1) := by decide +kernel
theorem dLa_law_430 : decode code 430 = .ok (.lcmp, 1) := by decide +kernel
theorem dLa_law_431 : decode code 431 = .ok (.ifCond .eq 5, 3) := by decide +kernel
theorem dLa_law_434 : decode code 434 = .ok (.iconst 0, 1) := by decide +kernel
theorem dLa_law_435 : decode code 435 = .ok (.ireturn, 1) := by decide +kernel
theorem dLa_law_436 : decode code 436 = .ok (.goto 394, 3) := by decide +kernel
theorem dLa_law_439 : decode code 439 = .ok (.aload_n 1, 1) := by decide +kernel
theorem dLa_law_440 : decode code 440 = .ok (.aload_n 0, 1) := by decide +kernel
theorem dLa_law_441 : decode code 441 = .ok (.iload 4, 2) := by decide +kernel
theorem dLa_law_443 : decode code 443 = .ok (.iconst 1, 1) := by decide +kernel
theorem dLa_law_444 : decode code 444 = .ok (.iadd, 1) := by decide +kernel
theorem dLa_law_445 : decode code 445 = .ok (.iaload, 1) := by decide +kernel
theorem dLa_law_446 : decode code 446 = .ok (.aload_n 0, 1) := by decide +kernel
theorem dLa_law_447 : decode code 447 = .ok (.iload 4, 2) := by decide +kernel
theorem dLa_law_449 : decode code 449 = .ok (.iconst 2, 1) := by decide +kernel
theorem dLa_law_450 : decode code 450 = .ok (.iadd, 1) := by decide +kernel
theorem dLa_law_451 : decode code 451 = .ok (.iaload, 1) := by decide +kernel
theorem dLa_law_452 : decode code 452 = .ok (.aload_n 0, 1) := by decide +kernel
theorem dLa_law_453 : decode code 453 = .ok (.iload 4, 2) := by decide +kernel
theorem dLa_law_455 : decode code 455 = .ok (.iconst 3, 1) := by decide +kernel
theorem dLa_law_456 : decode code 456 = .ok (.iadd, 1) := by decide +kernel
theorem dLa_law_457 : decode code 457 = .ok (.iaload, 1) := by decide +kernel
theorem dLa_law_458 : decode code 458 = .ok (.aload_n 3, 1) := by decide +kernel
theorem dLa_law_459 : decode code 459 = .ok (.invokestatic 82, 3) := by decide +kernel
theorem dLa_law_462 : decode code 462 = .ok (.istore 5, 2) := by decide +kernel
theorem dLa_law_464 : decode code 464 = .ok (.aload_n 2, 1) := by decide +kernel
theorem dLa_law_465 : decode code 465 = .ok (.aload_n 0, 1) := by decide +kernel
theorem dLa_law_466 : decode code 466 = .ok (.iload 4, 2) := by decide +kernel
theorem dLa_law_468 : decode code 468 = .ok (.iconst 1, 1) := by decide +kernel
theorem dLa_law_469 : decode code 469 = .ok (.iadd, 1) := by decide +kernel
theorem dLa_law_470 : decode code 470 = .ok (.iaload, 1) := by decide +kernel
theorem dLa_law_471 : decode code 471 = .ok (.aload_n 0, 1) := by decide +kernel
theorem dLa_law_472 : decode code 472 = .ok (.iload 4, 2) := by decide +kernel
theorem dLa_law_474 : decode code 474 = .ok (.iconst 2, 1) := by decide +kernel
theorem dLa_law_475 : decode code 475 = .ok (.iadd, 1) := by decide +kernel
theorem dLa_law_476 : decode code 476 = .ok (.iaload, 1) := by decide +kernel
theorem dLa_law_477 : decode code 477 = .ok (.aload_n 0, 1) := by decide +kernel
theorem dLa_law_478 : decode code 478 = .ok (.iload 4, 2) := by decide +kernel
theorem dLa_law_480 : decode code 480 = .ok (.iconst 3, 1) := by decide +kernel
theorem dLa_law_481 : decode code 481 = .ok (.iadd, 1) := by decide +kernel
theorem dLa_law_482 : decode code 482 = .ok (.iaload, 1) := by decide +kernel
theorem dLa_law_483 : decode code 483 = .ok (.invokevirtual 85, 3) := by decide +kernel
theorem dLa_law_486 : decode code 486 = .ok (.istore 6, 2) := by decide +kernel
theorem dLa_law_488 : decode code 488 = .ok (.aload_n 2, 1) := by decide +kernel
theorem dLa_law_489 : decode code 489 = .ok (.invokevirtual 56, 3) := by decide +kernel
theorem dLa_law_492 : decode code 492 = .ok (.iload 5, 2) := by decide +kernel
theorem dLa_law_494 : decode code 494 = .ok (.if_icmp .eq 5, 3) := by decide +kernel
theorem dLa_law_497 : decode code 497 = .ok (.iconst 0, 1) := by decide +kernel
theorem dLa_law_498 : decode code 498 = .ok (.ireturn, 1) := by decide +kernel
theorem dLa_law_499 : decode code 499 = .ok (.iload 5, 2) := by decide +kernel
theorem dLa_law_501 : decode code 501 = .ok (.ifCond .ne 15, 3) := by decide +kernel
theorem dLa_law_504 : decode code 504 = .ok (.aload_n 3, 1) := by decide +kernel
theorem dLa_law_505 : decode code 505 = .ok (.iconst 0, 1) := by decide +kernel
theorem dLa_law_506 : decode code 506 = .ok (.laload, 1) := by decide +kernel
theorem dLa_law_507 : decode code 507 = .ok (.iload 6, 2) := by decide +kernel
theorem dLa_law_509 : decode code 509 = .ok (.i2l, 1) := by decide +kernel
theorem dLa_law_510 : decode code 510 = .ok (.lcmp, 1) := by decide +kernel
theorem dLa_law_511 : decode code 511 = .ok (.ifCond .eq 5, 3) := by decide +kernel
theorem dLa_law_514 : decode code 514 = .ok (.iconst 0, 1) := by decide +kernel
theorem dLa_law_515 : decode code 515 = .ok (.ireturn, 1) := by decide +kernel
theorem dLa_law_516 : decode code 516 = .ok (.goto 314, 3) := by decide +kernel
theorem dLa_law_519 : decode code 519 = .ok (.aload_n 1, 1) := by decide +kernel
theorem dLa_law_520 : decode code 520 = .ok (.aload_n 0, 1) := by decide +kernel
theorem dLa_law_521 : decode code 521 = .ok (.iload 4, 2) := by decide +kernel
theorem dLa_law_523 : decode code 523 = .ok (.iconst 1, 1) := by decide +kernel
theorem dLa_law_524 : decode code 524 = .ok (.iadd, 1) := by decide +kernel
theorem dLa_law_525 : decode code 525 = .ok (.iaload, 1) := by decide +kernel
theorem dLa_law_526 : decode code 526 = .ok (.aload_n 0, 1) := by decide +kernel
theorem dLa_law_527 : decode code 527 = .ok (.iload 4, 2) := by decide +kernel
theorem dLa_law_529 : decode code 529 = .ok (.iconst 2, 1) := by decide +kernel
theorem dLa_law_530 : decode code 530 = .ok (.iadd, 1) := by decide +kernel
theorem dLa_law_531 : decode code 531 = .ok (.iaload, 1) := by decide +kernel
theorem dLa_law_532 : decode code 532 = .ok (.aload_n 3, 1) := by decide +kernel
theorem dLa_law_533 : decode code 533 = .ok (.invokestatic 86, 3) := by decide +kernel
theorem dLa_law_536 : decode code 536 = .ok (.istore 5, 2) := by decide +kernel
theorem dLa_law_538 : decode code 538 = .ok (.aload_n 2, 1) := by decide +kernel
theorem dLa_law_539 : decode code 539 = .ok (.aload_n 0, 1) := by decide +kernel
theorem dLa_law_540 : decode code 540 = .ok (.iload 4, 2) := by decide +kernel
theorem dLa_law_542 : decode code 542 = .ok (.iconst 1, 1) := by decide +kernel
theorem dLa_law_543 : decode code 543 = .ok (.iadd, 1) := by decide +kernel
theorem dLa_law_544 : decode code 544 = .ok (.iaload, 1) := by decide +kernel
theorem dLa_law_545 : decode code 545 = .ok (.aload_n 0, 1) := by decide +kernel
theorem dLa_law_546 : decode code 546 = .ok (.iload 4, 2) := by decide +kernel
theorem dLa_law_548 : decode code 548 = .ok (.iconst 2, 1) := by decide +kernel
theorem dLa_law_549 : decode code 549 = .ok (.iadd, 1) := by decide +kernel
theorem dLa_law_550 : decode code 550 = .ok (.iaload, 1) := by decide +kernel
theorem dLa_law_551 : decode code 551 = .ok (.invokevirtual 89, 3) := by decide +kernel
theorem dLa_law_554 : decode code 554 = .ok (.istore 6, 2) := by decide +kernel
theorem dLa_law_556 : decode code 556 = .ok (.aload_n 2, 1) := by decide +kernel
theorem dLa_law_557 : decode code 557 = .ok (.invokevirtual 56, 3) := by decide +kernel
theorem dLa_law_560 : decode code 560 = .ok (.iload 5, 2) := by decide +kernel
theorem dLa_law_562 : decode code 562 = .ok (.if_icmp .eq 5, 3) := by decide +kernel
theorem dLa_law_565 : decode code 565 = .ok (.iconst 0, 1) := by decide +kernel
theorem dLa_law_566 : decode code 566 = .ok (.ireturn, 1) := by decide +kernel
theorem dLa_law_567 : decode code 567 = .ok (.iload 5, 2) := by decide +kernel
theorem dLa_law_569 : decode code 569 = .ok (.ifCond .ne 15, 3) := by decide +kernel
theorem dLa_law_572 : decode code 572 = .ok (.aload_n 3, 1) := by decide +kernel
theorem dLa_law_573 : decode code 573 = .ok (.iconst 0, 1) := by decide +kernel
theorem dLa_law_574 : decode code 574 = .ok (.laload, 1) := by decide +kernel
theorem dLa_law_575 : decode code 575 = .ok (.iload 6, 2) := by decide +kernel
theorem dLa_law_577 : decode code 577 = .ok (.i2l, 1) := by decide +kernel
theorem dLa_law_578 : decode code 578 = .ok (.lcmp, 1) := by decide +kernel
theorem dLa_law_579 : decode code 579 = .ok (.ifCond .eq 5, 3) := by decide +kernel
theorem dLa_law_582 : decode code 582 = .ok (.iconst 0, 1) := by decide +kernel
theorem dLa_law_583 : decode code 583 = .ok (.ireturn, 1) := by decide +kernel
theorem dLa_law_584 : decode code 584 = .ok (.goto 246, 3) := by decide +kernel
theorem dLa_law_587 : decode code 587 = .ok (.aload_n 1, 1) := by decide +kernel
theorem dLa_law_588 : decode code 588 = .ok (.aload_n 0, 1) := by decide +kernel
theorem dLa_law_589 : decode code 589 = .ok (.iload 4, 2) := by decide +kernel
theorem dLa_law_591 : decode code 591 = .ok (.iconst 1, 1) := by decide +kernel
theorem dLa_law_592 : decode code 592 = .ok (.iadd, 1) := by decide +kernel
theorem dLa_law_593 : decode code 593 = .ok (.iaload, 1) := by decide +kernel
theorem dLa_law_594 : decode code 594 = .ok (.aload_n 3, 1) := by decide +kernel
theorem dLa_law_595 : decode code 595 = .ok (.invokestatic 90, 3) := by decide +kernel
theorem dLa_law_598 : decode code 598 = .ok (.istore 5, 2) := by decide +kernel
theorem dLa_law_600 : decode code 600 = .ok (.aload_n 2, 1) := by decide +kernel
theorem dLa_law_601 : decode code 601 = .ok (.aload_n 0, 1) := by decide +kernel
theorem dLa_law_602 : decode code 602 = .ok (.iload 4, 2) := by decide +kernel
theorem dLa_law_604 : decode code 604 = .ok (.iconst 1, 1) := by decide +kernel
theorem dLa_law_605 : decode code 605 = .ok (.iadd, 1) := by decide +kernel
theorem dLa_law_606 : decode code 606 = .ok (.iaload, 1) := by decide +kernel
theorem dLa_law_607 : decode code 607 = .ok (.invokevirtual 92, 3) := by decide +kernel
theorem dLa_law_610 : decode code 610 = .ok (.istore 6, 2) := by decide +kernel
theorem dLa_law_612 : decode code 612 = .ok (.aload_n 2, 1) := by decide +kernel
theorem dLa_law_613 : decode code 613 = .ok (.invokevirtual 56, 3) := by decide +kernel
theorem dLa_law_616 : decode code 616 = .ok (.iload 5, 2) := by decide +kernel
theorem dLa_law_618 : decode code 618 = .ok (.if_icmp .eq 5, 3) := by decide +kernel
theorem dLa_law_621 : decode code 621 = .ok (.iconst 0, 1) := by decide +kernel
theorem dLa_law_622 : decode code 622 = .ok (.ireturn, 1) := by decide +kernel
theorem dLa_law_623 : decode code 623 = .ok (.iload 5, 2) := by decide +kernel
theorem dLa_law_625 : decode code 625 = .ok (.ifCond .ne 15, 3) := by decide +kernel
theorem dLa_law_628 : decode code 628 = .ok (.aload_n 3, 1) := by decide +kernel
theorem dLa_law_629 : decode code 629 = .ok (.iconst 0, 1) := by decide +kernel
theorem dLa_law_630 : decode code 630 = .ok (.laload, 1) := by decide +kernel
theorem dLa_law_631 : decode code 631 = .ok (.iload 6, 2) := by decide +kernel
theorem dLa_law_633 : decode code 633 = .ok (.i2l, 1) := by decide +kernel
theorem dLa_law_634 : decode code 634 = .ok (.lcmp, 1) := by decide +kernel
theorem dLa_law_635 : decode code 635 = .ok (.ifCond .eq 5, 3) := by decide +kernel
theorem dLa_law_638 : decode code 638 = .ok (.iconst 0, 1) := by decide +kernel
theorem dLa_law_639 : decode code 639 = .ok (.ireturn, 1) := by decide +kernel
theorem dLa_law_640 : decode code 640 = .ok (.goto 190, 3) := by decide +kernel
theorem dLa_law_643 : decode code 643 = .ok (.aload_n 1, 1) := by decide +kernel
theorem dLa_law_644 : decode code 644 = .ok (.aload_n 0, 1) := by decide +kernel
theorem dLa_law_645 : decode code 645 = .ok (.iload 4, 2) := by decide +kernel
theorem dLa_law_647 : decode code 647 = .ok (.iconst 1, 1) := by decide +kernel
theorem dLa_law_648 : decode code 648 = .ok (.iadd, 1) := by decide +kernel
theorem dLa_law_649 : decode code 649 = .ok (.iaload, 1) := by decide +kernel
theorem dLa_law_650 : decode code 650 = .ok (.aload_n 0, 1) := by decide +kernel
theorem dLa_law_651 : decode code 651 = .ok (.iload 4, 2) := by decide +kernel
theorem dLa_law_653 : decode code 653 = .ok (.iconst 2, 1) := by decide +kernel
theorem dLa_law_654 : decode code 654 = .ok (.iadd, 1) := by decide +kernel
theorem dLa_law_655 : decode code 655 = .ok (.iaload, 1) := by decide +kernel
theorem dLa_law_656 : decode code 656 = .ok (.aload_n 3, 1) := by decide +kernel
theorem dLa_law_657 : decode code 657 = .ok (.invokestatic 93, 3) := by decide +kernel
theorem dLa_law_660 : decode code 660 = .ok (.istore 5, 2) := by decide +kernel
theorem dLa_law_662 : decode code 662 = .ok (.aload_n 2, 1) := by decide +kernel
theorem dLa_law_663 : decode code 663 = .ok (.aload_n 0, 1) := by decide +kernel
theorem dLa_law_664 : decode code 664 = .ok (.iload 4, 2) := by decide +kernel
theorem dLa_law_666 : decode code 666 = .ok (.iconst 1, 1) := by decide +kernel
theorem dLa_law_667 : decode code 667 = .ok (.iadd, 1) := by decide +kernel
theorem dLa_law_668 : decode code 668 = .ok (.iaload, 1) := by decide +kernel
theorem dLa_law_669 : decode code 669 = .ok (.aload_n 0, 1) := by decide +kernel
theorem dLa_law_670 : decode code 670 = .ok (.iload 4, 2) := by decide +kernel
theorem dLa_law_672 : decode code 672 = .ok (.iconst 2, 1) := by decide +kernel
theorem dLa_law_673 : decode code 673 = .ok (.iadd, 1) := by decide +kernel
theorem dLa_law_674 : decode code 674 = .ok (.iaload, 1) := by decide +kernel
theorem dLa_law_675 : decode code 675 = .ok (.invokevirtual 95, 3) := by decide +kernel
theorem dLa_law_678 : decode code 678 = .ok (.istore 6, 2) := by decide +kernel
theorem dLa_law_680 : decode code 680 = .ok (.aload_n 2, 1) := by decide +kernel
theorem dLa_law_681 : decode code 681 = .ok (.invokevirtual 56, 3) := by decide +kernel
theorem dLa_law_684 : decode code 684 = .ok (.iload 5, 2) := by decide +kernel
theorem dLa_law_686 : decode code 686 = .ok (.if_icmp .eq 5, 3) := by decide +kernel
theorem dLa_law_689 : decode code 689 = .ok (.iconst 0, 1) := by decide +kernel
theorem dLa_law_690 : decode code 690 = .ok (.ireturn, 1) := by decide +kernel
theorem dLa_law_691 : decode code 691 = .ok (.iload 5, 2) := by decide +kernel
theorem dLa_law_693 : decode code 693 = .ok (.ifCond .ne 15, 3) := by decide +kernel
theorem dLa_law_696 : decode code 696 = .ok (.aload_n 3, 1) := by decide +kernel
theorem dLa_law_697 : decode code 697 = .ok (.iconst 0, 1) := by decide +kernel
theorem dLa_law_698 : decode code 698 = .ok (.laload, 1) := by decide +kernel
theorem dLa_law_699 : decode code 699 = .ok (.iload 6, 2) := by decide +kernel
theorem dLa_law_701 : decode code 701 = .ok (.i2l, 1) := by decide +kernel
theorem dLa_law_702 : decode code 702 = .ok (.lcmp, 1) := by decide +kernel
theorem dLa_law_703 : decode code 703 = .ok (.ifCond .eq 5, 3) := by decide +kernel
theorem dLa_law_706 : decode code 706 = .ok (.iconst 0, 1) := by decide +kernel
theorem dLa_law_707 : decode code 707 = .ok (.ireturn, 1) := by decide +kernel
theorem dLa_law_708 : decode code 708 = .ok (.goto 122, 3) := by decide +kernel
theorem dLa_law_711 : decode code 711 = .ok (.aload_n 1, 1) := by decide +kernel
theorem dLa_law_712 : decode code 712 = .ok (.invokevirtual 96, 3) := by decide +kernel
theorem dLa_law_715 : decode code 715 = .ok (.aload_n 2, 1) := by decide +kernel
theorem dLa_law_716 : decode code 716 = .ok (.invokevirtual 99, 3) := by decide +kernel
theorem dLa_law_719 : decode code 719 = .ok (.if_icmp .eq 111, 3) := by decide +kernel
theorem dLa_law_722 : decode code 722 = .ok (.iconst 0, 1) := by decide +kernel
theorem dLa_law_723 : decode code 723 = .ok (.ireturn, 1) := by decide +kernel
theorem dLa_law_724 : decode code 724 = .ok (.aload_n 1, 1) := by decide +kernel
theorem dLa_law_725 : decode code 725 = .ok (.aload_n 0, 1) := by decide +kernel
theorem dLa_law_726 : decode code 726 = .ok (.iload 4, 2) := by decide +kernel
theorem dLa_law_728 : decode code 728 = .ok (.iconst 1, 1) := by decide +kernel
theorem dLa_law_729 : decode code 729 = .ok (.iadd, 1) := by decide +kernel
theorem dLa_law_730 : decode code 730 = .ok (.iaload, 1) := by decide +kernel
theorem dLa_law_731 : decode code 731 = .ok (.aload_n 0, 1) := by decide +kernel
theorem dLa_law_732 : decode code 732 = .ok (.iload 4, 2) := by decide +kernel
theorem dLa_law_734 : decode code 734 = .ok (.iconst 2, 1) := by decide +kernel
theorem dLa_law_735 : decode code 735 = .ok (.iadd, 1) := by decide +kernel
theorem dLa_law_736 : decode code 736 = .ok (.iaload, 1) := by decide +kernel
theorem dLa_law_737 : decode code 737 = .ok (.aload_n 3, 1) := by decide +kernel
theorem dLa_law_738 : decode code 738 = .ok (.invokestatic 100, 3) := by decide +kernel
theorem dLa_law_741 : decode code 741 = .ok (.istore 5, 2) := by decide +kernel
theorem dLa_law_743 : decode code 743 = .ok (.aload_n 2, 1) := by decide +kernel
theorem dLa_law_744 : decode code 744 = .ok (.aload_n 0, 1) := by decide +kernel
theorem dLa_law_745 : decode code 745 = .ok (.iload 4, 2) := by decide +kernel
theorem dLa_law_747 : decode code 747 = .ok (.iconst 1, 1) := by decide +kernel
theorem dLa_law_748 : decode code 748 = .ok (.iadd, 1) := by decide +kernel
theorem dLa_law_749 : decode code 749 = .ok (.iaload, 1) := by decide +kernel
theorem dLa_law_750 : decode code 750 = .ok (.aload_n 0, 1) := by decide +kernel
theorem dLa_law_751 : decode code 751 = .ok (.iload 4, 2) := by decide +kernel
theorem dLa_law_753 : decode code 753 = .ok (.iconst 2, 1) := by decide +kernel
theorem dLa_law_754 : decode code 754 = .ok (.iadd, 1) := by decide +kernel
theorem dLa_law_755 : decode code 755 = .ok (.iaload, 1) := by decide +kernel
theorem dLa_law_756 : decode code 756 = .ok (.invokevirtual 102, 3) := by decide +kernel
theorem dLa_law_759 : decode code 759 = .ok (.istore 6, 2) := by decide +kernel
theorem dLa_law_761 : decode code 761 = .ok (.aload_n 2, 1) := by decide +kernel
theorem dLa_law_762 : decode code 762 = .ok (.invokevirtual 56, 3) := by decide +kernel
theorem dLa_law_765 : decode code 765 = .ok (.iload 5, 2) := by decide +kernel
theorem dLa_law_767 : decode code 767 = .ok (.if_icmp .eq 5, 3) := by decide +kernel
theorem dLa_law_770 : decode code 770 = .ok (.iconst 0, 1) := by decide +kernel
theorem dLa_law_771 : decode code 771 = .ok (.ireturn, 1) := by decide +kernel
theorem dLa_law_772 : decode code 772 = .ok (.iload 5, 2) := by decide +kernel
theorem dLa_law_774 : decode code 774 = .ok (.ifCond .ne 15, 3) := by decide +kernel
theorem dLa_law_777 : decode code 777 = .ok (.aload_n 3, 1) := by decide +kernel
theorem dLa_law_778 : decode code 778 = .ok (.iconst 0, 1) := by decide +kernel
theorem dLa_law_779 : decode code 779 = .ok (.laload, 1) := by decide +kernel
theorem dLa_law_780 : decode code 780 = .ok (.iload 6, 2) := by decide +kernel
theorem dLa_law_782 : decode code 782 = .ok (.i2l, 1) := by decide +kernel
theorem dLa_law_783 : decode code 783 = .ok (.lcmp, 1) := by decide +kernel
theorem dLa_law_784 : decode code 784 = .ok (.ifCond .eq 5, 3) := by decide +kernel
theorem dLa_law_787 : decode code 787 = .ok (.iconst 0, 1) := by decide +kernel
theorem dLa_law_788 : decode code 788 = .ok (.ireturn, 1) := by decide +kernel
theorem dLa_law_789 : decode code 789 = .ok (.goto 41, 3) := by decide +kernel
theorem dLa_law_792 : decode code 792 = .ok (.aload_n 1, 1) := by decide +kernel
theorem dLa_law_793 : decode code 793 = .ok (.invokevirtual 103, 3) := by decide +kernel
theorem dLa_law_796 : decode code 796 = .ok (.aload_n 2, 1) := by decide +kernel
theorem dLa_law_797 : decode code 797 = .ok (.invokevirtual 106, 3) := by decide +kernel
theorem dLa_law_800 : decode code 800 = .ok (.if_icmp .eq 30, 3) := by decide +kernel
theorem dLa_law_803 : decode code 803 = .ok (.iconst 0, 1) := by decide +kernel
theorem dLa_law_804 : decode code 804 = .ok (.ireturn, 1) := by decide +kernel
theorem dLa_law_805 : decode code 805 = .ok (.aload_n 1, 1) := by decide +kernel
theorem dLa_law_806 : decode code 806 = .ok (.aload_n 0, 1) := by decide +kernel
theorem dLa_law_807 : decode code 807 = .ok (.iload 4, 2) := by decide +kernel
theorem dLa_law_809 : decode code 809 = .ok (.iconst 1, 1) := by decide +kernel
theorem dLa_law_810 : decode code 810 = .ok (.iadd, 1) := by decide +kernel
theorem dLa_law_811 : decode code 811 = .ok (.iaload, 1) := by decide +kernel
theorem dLa_law_812 : decode code 812 = .ok (.invokevirtual 107, 3) := by decide +kernel
theorem dLa_law_815 : decode code 815 = .ok (.aload_n 2, 1) := by decide +kernel
theorem dLa_law_816 : decode code 816 = .ok (.aload_n 0, 1) := by decide +kernel
theorem dLa_law_817 : decode code 817 = .ok (.iload 4, 2) := by decide +kernel
theorem dLa_law_819 : decode code 819 = .ok (.iconst 1, 1) := by decide +kernel
theorem dLa_law_820 : decode code 820 = .ok (.iadd, 1) := by decide +kernel
theorem dLa_law_821 : decode code 821 = .ok (.iaload, 1) := by decide +kernel
theorem dLa_law_822 : decode code 822 = .ok (.invokevirtual 110, 3) := by decide +kernel
theorem dLa_law_825 : decode code 825 = .ok (.if_icmp .eq 5, 3) := by decide +kernel
theorem dLa_law_828 : decode code 828 = .ok (.iconst 0, 1) := by decide +kernel
theorem dLa_law_829 : decode code 829 = .ok (.ireturn, 1) := by decide +kernel
theorem dLa_law_830 : decode code 830 = .ok (.iinc 4 6, 3) := by decide +kernel
theorem dLa_law_833 : decode code 833 = .ok (.goto (-810), 3) := by decide +kernel
theorem dLa_law_836 : decode code 836 = .ok (.iconst 1, 1) := by decide +kernel
theorem dLa_law_837 : decode code 837 = .ok (.ireturn, 1) := by decide +kernel
theorem law_str_96 {p : Program} {s : State} {m : MethodId} {meth : Method} {c : Code} {b L : Nat} {xs : Nat → Int32} (C0 : lw_At p s m meth c b L xs) : ∃ sa, vk_R "RunProver" 96 "not 0 .. the length of the tape" sa s := by
  have h : (Cond.stringRef "RunProver" 96 "not 0 .. the length of the tape").before #[Value.ref b] s = true := C0.2.2.2.2.2.1 _ (List.mem_of_getElem? (i := 1782) (by decide +kernel))
  have hi : (Cond.instantiable "RunProver" 16).before #[Value.ref b] s = true := C0.2.2.2.2.2.1 _ (wa_in _ (wbm0 18 rfl))
  obtain ⟨cur, k0, hcur, -⟩ := Cond.instantiable_spec hi
  obtain ⟨k, cf, i, a, -, -, -, -, -, hev⟩ := Cond.stringRef_spec hcur h
  exact ⟨a, vk_R.of h hev⟩
set_option maxRecDepth 100000 in
theorem law_own_98 {p : Program} {s : State} {m : MethodId} {meth : Method} {c : Code} {b L : Nat} {xs : Nat → Int32} (C0 : lw_At p s m meth c b L xs) : ∀ w ∈ Bundle.ownAtoms "RunProver" 98 "java/lang/IllegalArgumentException" ["java/lang/RuntimeException", "java/lang/Exception"], w.before #[Value.ref b] s = true := by
  have hN := flat_of_before _ C0.2.2.2.2.2.2.2.2.2
  intro w hw
  have h1 : (Cond.isRef (.static "java/lang/Throwable" "UNASSIGNED_STACK" "[Ljava/lang/StackTraceElement;")).before #[Value.ref b] s = true := hN _ (by decide +kernel)
  have h2 : (Cond.isRef (.static "java/lang/Throwable" "SUPPRESSED_SENTINEL" "Ljava/util/List;")).before #[Value.ref b] s = true := hN _ (by decide +kernel)
  rcases (by decide +kernel : ∀ w ∈ Bundle.ownAtoms "RunProver" 98 "java/lang/IllegalArgumentException" ["java/lang/RuntimeException", "java/lang/Exception"], w ∈ tables_1 ∨ w = .isRef (.static "java/lang/Throwable" "UNASSIGNED_STACK" "[Ljava/lang/StackTraceElement;") ∨ w = .isRef (.static "java/lang/Throwable" "SUPPRESSED_SENTINEL" "Ljava/util/List;")) w hw with h | rfl | rfl
  · exact C0.2.2.2.2.2.1 _ (List.mem_append_right _ h)
  · exact h1
  · exact h2
theorem law_str_164 {p : Program} {s : State} {m : MethodId} {meth : Method} {c : Code} {b L : Nat} {xs : Nat → Int32} (C0 : lw_At p s m meth c b L xs) : ∃ sa, vk_R "RunProver" 164 "no such check" sa s := by
  have h : (Cond.stringRef "RunProver" 164 "no such check").before #[Value.ref b] s = true := C0.2.2.2.2.2.1 _ (List.mem_of_getElem? (i := 1801) (by decide +kernel))
  have hi : (Cond.instantiable "RunProver" 16).before #[Value.ref b] s = true := C0.2.2.2.2.2.1 _ (wa_in _ (wbm0 18 rfl))
  obtain ⟨cur, k0, hcur, -⟩ := Cond.instantiable_spec hi
  obtain ⟨k, cf, i, a, -, -, -, -, -, hev⟩ := Cond.stringRef_spec hcur h
  exact ⟨a, vk_R.of h hev⟩
set_option maxRecDepth 100000 in
theorem law_own_166 {p : Program} {s : State} {m : MethodId} {meth : Method} {c : Code} {b L : Nat} {xs : Nat → Int32} (C0 : lw_At p s m meth c b L xs) : ∀ w ∈ tx_nse "RunProver" 166, w.before #[Value.ref b] s = true := by
  have hN := flat_of_before _ C0.2.2.2.2.2.2.2.2.2
  intro w hw
  have h1 : (Cond.isRef (.static "java/lang/Throwable" "UNASSIGNED_STACK" "[Ljava/lang/StackTraceElement;")).before #[Value.ref b] s = true := hN _ (by decide +kernel)
  have h2 : (Cond.isRef (.static "java/lang/Throwable" "SUPPRESSED_SENTINEL" "Ljava/util/List;")).before #[Value.ref b] s = true := hN _ (by decide +kernel)
  rcases (by decide +kernel : ∀ w ∈ tx_nse "RunProver" 166, w ∈ tables_1 ∨ w = .isRef (.static "java/lang/Throwable" "UNASSIGNED_STACK" "[Ljava/lang/StackTraceElement;") ∨ w = .isRef (.static "java/lang/Throwable" "SUPPRESSED_SENTINEL" "Ljava/util/List;")) w hw with h | rfl | rfl
  · exact C0.2.2.2.2.2.1 _ (List.mem_append_right _ h)
  · exact h1
  · exact h2
theorem law_str_177 {p : Program} {s : State} {m : MethodId} {meth : Method} {c : Code} {b L : Nat} {xs : Nat → Int32} (C0 : lw_At p s m meth c b L xs) : ∃ sa, vk_R "RunProver" 177 "no such element or value" sa s := by
  have h : (Cond.stringRef "RunProver" 177 "no such element or value").before #[Value.ref b] s = true := C0.2.2.2.2.2.1 _ (List.mem_of_getElem? (i := 1826) (by decide +kernel))
  have hi : (Cond.instantiable "RunProver" 16).before #[Value.ref b] s = true := C0.2.2.2.2.2.1 _ (wa_in _ (wbm0 18 rfl))
  obtain ⟨cur, k0, hcur, -⟩ := Cond.instantiable_spec hi
  obtain ⟨k, cf, i, a, -, -, -, -, -, hev⟩ := Cond.stringRef_spec hcur h
  exact ⟨a, vk_R.of h hev⟩
theorem law_str_201 {p : Program} {s : State} {m : MethodId} {meth : Method} {c : Code} {b L : Nat} {xs : Nat → Int32} (C0 : lw_At p s m meth c b L xs) : ∃ sa, vk_R "RunProver" 201 "no such input" sa s := by
  have h : (Cond.stringRef "RunProver" 201 "no such input").before #[Value.ref b] s = true := C0.2.2.2.2.2.1 _ (List.mem_of_getElem? (i := 1842) (by decide +kernel))
  have hi : (Cond.instantiable "RunProver" 16).before #[Value.ref b] s = true := C0.2.2.2.2.2.1 _ (wa_in _ (wbm0 18 rfl))
  obtain ⟨cur, k0, hcur, -⟩ := Cond.instantiable_spec hi
  obtain ⟨k, cf, i, a, -, -, -, -, -, hev⟩ := Cond.stringRef_spec hcur h
  exact ⟨a, vk_R.of h hev⟩
theorem law_str_212 {p : Program} {s : State} {m : MethodId} {meth : Method} {c : Code} {b L : Nat} {xs : Nat → Int32} (C0 : lw_At p s m meth c b L xs) : ∃ sa, vk_R "RunProver" 212 "no such element" sa s := by
  have h : (Cond.stringRef "RunProver" 212 "no such element").before #[Value.ref b] s = true := C0.2.2.2.2.2.1 _ (List.mem_of_getElem? (i := 1858) (by decide +kernel))
  have hi : (Cond.instantiable "RunProver" 16).before #[Value.ref b] s = true := C0.2.2.2.2.2.1 _ (wa_in _ (wbm0 18 rfl))
  obtain ⟨cur, k0, hcur, -⟩ := Cond.instantiable_spec hi
  obtain ⟨k, cf, i, a, -, -, -, -, -, hev⟩ := Cond.stringRef_spec hcur h
  exact ⟨a, vk_R.of h hev⟩
theorem law_in : ∀ w ∈ Cond.initialized "RunProverLaw" :: wa, w ∈ lw_tbl := by
  intro w h
  rcases List.mem_cons.mp h with rfl | h
  · exact wa_in _ (wbm0 0 rfl)
  · exact wa_in w h
theorem law_nest : Cond.methodLinkNest "RunProver" 138 yUn_walk "RunProver" ∈ lw_tbl := List.mem_of_getElem? (i := 1348) (by decide +kernel)
theorem gW {c1 cw : Cond} {args : Array Value} {s : State} (hts : ∀ w ∈ c1 :: wa, w.before args s = true) (h : cw ∈ wa) : ∀ w ∈ cw :: wa, ∀ (a' : Array Value) (U : State), s.WarmedH U.vm → w.before a' U = true := by
  intro w hw a' U hW
  have h9 : w ∈ wa := by
    rcases List.mem_cons.mp hw with rfl | h9
    · exact h
    · exact h9
  exact word_at hW (wa_good w h9) (hts w (List.mem_cons_of_mem _ h9))
theorem gL {y : MethodName} {n : Nat} (h : (parseMethodDescriptor y.desc).map (fun d => d.parameters.length) = some n) : ∀ sig, parseMethodDescriptor y.desc = some sig → n = sig.parameters.length := by
  intro sig hs
  rw [hs] at h
  exact (Option.some.inj h).symm
theorem tx_law {s U : State} {H : Heap} {locs : List Loc} (hS : va_S (fun q : Nat => s.heap.size ≤ q) s.heap H locs) (hU : U.heap = H) (hW : s.WarmedH U.vm) : tx_At s U := ⟨hW, by rw [hU]; exact hS.1, fun q hq => by rw [hU]; exact hS.2.1 q hq (Nat.not_le.mpr hq)⟩
theorem tx_pos {x : Int32} (h0 : ¬ x = 0) (h1 : ¬ x < 0) : 0 < x := by
  rw [Int32.lt_iff_toInt_lt] at h1 ⊢
  have h2 : x.toInt ≠ (0 : Int32).toInt := fun h => h0 (Int32.toInt_inj.mp h)
  have h3 : (0 : Int32).toInt = 0 := rfl
  omega
theorem tx_seven (x : Int32) : x = 0 ∨ x = 1 ∨ x = 2 ∨ x = 3 ∨ x = 4 ∨ x = 5 ∨ x = 6 ∨ (x.toInt < 0 ∨ 6 < x.toInt) := by
  have key : ∀ k : Int32, x.toInt = k.toInt → x = k := fun k h => Int32.toInt_inj.mp h
  by_cases h : x.toInt < 0 ∨ 6 < x.toInt
  · exact Or.inr (Or.inr (Or.inr (Or.inr (Or.inr (Or.inr (Or.inr h))))))
  · rcases (show x.toInt = 0 ∨ x.toInt = 1 ∨ x.toInt = 2 ∨ x.toInt = 3 ∨ x.toInt = 4 ∨ x.toInt = 5 ∨ x.toInt = 6 by omega) with h | h | h | h | h | h | h
    · exact Or.inl (key 0 h)
    · exact Or.inr (Or.inl (key 1 h))
    · exact Or.inr (Or.inr (Or.inl (key 2 h)))
    · exact Or.inr (Or.inr (Or.inr (Or.inl (key 3 h))))
    · exact Or.inr (Or.inr (Or.inr (Or.inr (Or.inl (key 4 h)))))
    · exact Or.inr (Or.inr (Or.inr (Or.inr (Or.inr (Or.inl (key 5 h))))))
    · exact Or.inr (Or.inr (Or.inr (Or.inr (Or.inr (Or.inr (Or.inl (key 6 h)))))))

theorem law_end {p : Program} {e : Env} {s : State} {m : MethodId} {below : List Frame} {meth : Method} {c : Code} (l : Launch) {b : Nat} {xs : Nat → Int32} (C0 : lw_At p s m meth c b 6 xs) {H : Heap} {locs : List Loc} {cells slots : Nat} (hc : cells ≤ 600002) (hs : slots ≤ 7302232) (hS : va_S (fun q : Nat => s.heap.size ≤ q) s.heap H locs) (ls : Array Slot) (hl : lv_has ls 7 [(4, .int 0), (0, .ref b)]) : W p l e room_1 s m #[Value.ref b] below meth c H locs cells slots (lw_Z below #[Value.ref b] s) (F0 m 830 ls []) := by
  obtain ⟨hx, hb, hr, hml, hown, hts0, hX, hbl, hlocks, hgv⟩ := id C0
  have hbA : ¬ (fun q : Nat => s.heap.size ≤ q) b := Nat.not_le.mpr hbl
  refine lv_iinc (v := 6) (lv' := [(4, .int 6), (0, .ref b)]) hx hb dLa_law_830 hl (k := 0) rfl (by decide) (by decide) rfl (fun ls hl => ?_)
  refine lv_goto (tgt := 23) hx hb dLa_law_833 (by decide) ?_
  refine lv_iload hx hb dLa_law_23 (lv_at hl 0 rfl) ?_
  refine lv_aload_n hx hb dLa_law_25 rfl (lv_at hl 1 rfl) ?_
  refine va_slen hx hb hX hbl hbA hS dLa_law_26 ?_
  refine lv_bipush (v := 6) hx hb dLa_law_27 (by decide) ?_
  refine lv_isub hx hb dLa_law_29 ?_
  refine lv_icmp_gt (tgt := 836) hx hb dLa_law_30 (by decide) (fun _ => ?_) (fun h9 => absurd (by decide) h9)
  refine lv_iconst (v := 1) hx hb dLa_law_836 (by decide) ?_
  refine va_forget (fun q hq => hS.2.2 q hq) ?_
  refine W.widen (k := 600002) (n := 7302232) hc hs ?_
  exact lw_ret hx hb hr hlocks dLa_law_837

