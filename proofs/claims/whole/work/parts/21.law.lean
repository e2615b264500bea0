/-! THE CLAIM OUT OF ONE WALK OF THE LAW'S BODY. Your part is whole_start (and what it stands on); all else here is the same for every law, but numbers. -/
def R_law : String := "OutOfPlaceLaw"
def lw_P (b : Addr) (xs : List Int32) (args : Array Value) (s : State) : Prop := args = #[.ref b] ∧ s.IntsAt b xs ∧ xs.length ≤ 2048 ∧ (Jvm.Cond.and given_1 narrow_1).before args s = true
def lw_Q (_ : Array Value) (s : State) (o : Outcome) (t : State) : Prop := o = .returned (some (.int 1)) ∧ Framed s o t [] 600000 7302250
def lw_Z (below : List Frame) (a : Array Value) (s : State) : State → Prop := fun t => ∃ o, t.status = .running ∧ Ended t below o ∧ lw_Q a s o t
/-- the law's own end, with 1 on the stack, nothing written that was there before, its room as the claim has it -/
theorem lw_ret {p : Program} {l : Launch} {e : Env} {s : State} {m : MethodId} {below : List Frame} {meth : Method} {c : Code} {b : Nat} (hx : p.tables.exec = Jvm.exec) (hb : c.code = code) (hr : meth.sig.returnType = ret) (hlocks : meth.locks = false) {pc : Nat} {H : Heap} {ls : Array Slot} (hdg : decode code pc = .ok (.ireturn, 1)) : W p l e room_1 s m #[Value.ref b] below meth c H [] 600000 7302250 (lw_Z below #[Value.ref b] s) (F0 m pc ls [.int 1]) := by
  intro T hT X
  obtain ⟨fs, hret, hrun, hended, hW, hframe⟩ := X.leave (v := some (.int 1)) (hlocks := hlocks) (fun h => by rw [hr] at h; cases h)
  have hmeth' : T.vm.method? m = some meth := X.method'
  refine ⟨T.setFrames fs, ?_, .returned (some (.int 1)), hrun, hended, rfl, ⟨_, rfl⟩, hW, hframe⟩
  jvm_step X.here [X.here.top, hx, hb, hdg, hmeth', hr, ret, narrow_b1]
  (try refine ⟨rfl, ?_⟩); (try refine ⟨rfl, ?_⟩)
  first | (intro acts; rw [hret _ acts rfl rfl rfl]) | rw [hret _ _ rfl rfl rfl]
  exact Steps.refl _
/-- what holds at the law's entry: the machine, the code, the tables' words (any of lw_tbl by 'hts w (by decide +kernel)'), the script of L ints xs at the cell b, what the Statement gives of the start (any of its parts by flat_of_before) -/
def lw_At (p : Program) (s : State) (m : MethodId) (meth : Method) (c : Code) (b L : Nat) (xs : Nat → Int32) : Prop :=
  p.tables.exec = Jvm.exec ∧ c.code = code ∧ meth.sig.returnType = ret ∧ c.maxLocals = 4 ∧ s.vm.findClass R_law = some m.cls ∧ (∀ w ∈ lw_tbl, w.before #[Value.ref b] s = true) ∧ va_X b L xs s s.heap ∧ b < s.heap.size ∧ meth.locks = false ∧ (Jvm.Cond.and given_1 narrow_1).before #[Value.ref b] s = true
theorem dL_law_0 : decode cL_law 0 = .ok (.new 7, 3) := by decide +kernel
theorem dL_law_3 : decode cL_law 3 = .ok (.dup, 1) := by decide +kernel
theorem dL_law_4 : decode cL_law 4 = .ok (.invokespecial 9, 3) := by decide +kernel
theorem dL_law_7 : decode cL_law 7 = .ok (.astore_n 1, 1) := by decide +kernel
theorem dL_law_8 : decode cL_law 8 = .ok (.new 10, 3) := by decide +kernel
theorem dL_law_11 : decode cL_law 11 = .ok (.dup, 1) := by decide +kernel
theorem dL_law_12 : decode cL_law 12 = .ok (.invokespecial 12, 3) := by decide +kernel
theorem dL_law_15 : decode cL_law 15 = .ok (.astore_n 2, 1) := by decide +kernel
theorem dL_law_16 : decode cL_law 16 = .ok (.iconst 0, 1) := by decide +kernel
theorem dL_law_17 : decode cL_law 17 = .ok (.istore_n 3, 1) := by decide +kernel
theorem dL_law_18 : decode cL_law 18 = .ok (.iload_n 3, 1) := by decide +kernel
theorem dL_law_19 : decode cL_law 19 = .ok (.aload_n 0, 1) := by decide +kernel
theorem dL_law_20 : decode cL_law 20 = .ok (.arraylength, 1) := by decide +kernel
theorem dL_law_21 : decode cL_law 21 = .ok (.iconst 4, 1) := by decide +kernel
theorem dL_law_22 : decode cL_law 22 = .ok (.isub, 1) := by decide +kernel
theorem dL_law_23 : decode cL_law 23 = .ok (.if_icmp .gt 1017, 3) := by decide +kernel
theorem dL_law_26 : decode cL_law 26 = .ok (.aload_n 0, 1) := by decide +kernel
theorem dL_law_27 : decode cL_law 27 = .ok (.iload_n 3, 1) := by decide +kernel
theorem dL_law_28 : decode cL_law 28 = .ok (.iaload, 1) := by decide +kernel
theorem dL_law_29 : decode cL_law 29 = .ok (.bipush 31, 2) := by decide +kernel
theorem dL_law_31 : decode cL_law 31 = .ok (.iand, 1) := by decide +kernel
theorem dL_law_32 : decode cL_law 32 = .ok (.tableswitch 1002 0 29 #[136, 199, 212, 225, 258, 291, 334, 367, 390, 423, 456, 479, 522, 555, 578, 591, 614, 627, 650, 673, 732, 765, 788, 811, 844, 877, 910, 933, 956, 979], 136) := by decide +kernel
theorem dL_law_168 : decode cL_law 168 = .ok (.aload_n 1, 1) := by decide +kernel
theorem dL_law_169 : decode cL_law 169 = .ok (.aload_n 0, 1) := by decide +kernel
theorem dL_law_170 : decode cL_law 170 = .ok (.iload_n 3, 1) := by decide +kernel
theorem dL_law_171 : decode cL_law 171 = .ok (.iconst 1, 1) := by decide +kernel
theorem dL_law_172 : decode cL_law 172 = .ok (.iadd, 1) := by decide +kernel
theorem dL_law_173 : decode cL_law 173 = .ok (.iaload, 1) := by decide +kernel
theorem dL_law_174 : decode cL_law 174 = .ok (.aload_n 0, 1) := by decide +kernel
theorem dL_law_175 : decode cL_law 175 = .ok (.iload_n 3, 1) := by decide +kernel
theorem dL_law_176 : decode cL_law 176 = .ok (.iconst 2, 1) := by decide +kernel
theorem dL_law_177 : decode cL_law 177 = .ok (.iadd, 1) := by decide +kernel
theorem dL_law_178 : decode cL_law 178 = .ok (.iaload, 1) := by decide +kernel
theorem dL_law_179 : decode cL_law 179 = .ok (.i2l, 1) := by decide +kernel
theorem dL_law_180 : decode cL_law 180 = .ok (.bipush 32, 2) := by decide +kernel
theorem dL_law_182 : decode cL_law 182 = .ok (.lshl, 1) := by decide +kernel
theorem dL_law_183 : decode cL_law 183 = .ok (.aload_n 0, 1) := by decide +kernel
theorem dL_law_184 : decode cL_law 184 = .ok (.iload_n 3, 1) := by decide +kernel
theorem dL_law_185 : decode cL_law 185 = .ok (.iconst 3, 1) := by decide +kernel
theorem dL_law_186 : decode cL_law 186 = .ok (.iadd, 1) := by decide +kernel
theorem dL_law_187 : decode cL_law 187 = .ok (.iaload, 1) := by decide +kernel
theorem dL_law_188 : decode cL_law 188 = .ok (.i2l, 1) := by decide +kernel
theorem dL_law_189 : decode cL_law 189 = .ok (.ldc2_w 13, 3) := by decide +kernel
theorem dL_law_192 : decode cL_law 192 = .ok (.land, 1) := by decide +kernel
theorem dL_law_193 : decode cL_law 193 = .ok (.lor, 1) := by decide +kernel
theorem dL_law_194 : decode cL_law 194 = .ok (.invokevirtual 15, 3) := by decide +kernel
theorem dL_law_197 : decode cL_law 197 = .ok (.aload_n 2, 1) := by decide +kernel
theorem dL_law_198 : decode cL_law 198 = .ok (.aload_n 0, 1) := by decide +kernel
theorem dL_law_199 : decode cL_law 199 = .ok (.iload_n 3, 1) := by decide +kernel
theorem dL_law_200 : decode cL_law 200 = .ok (.iconst 1, 1) := by decide +kernel
theorem dL_law_201 : decode cL_law 201 = .ok (.iadd, 1) := by decide +kernel
theorem dL_law_202 : decode cL_law 202 = .ok (.iaload, 1) := by decide +kernel
theorem dL_law_203 : decode cL_law 203 = .ok (.aload_n 0, 1) := by decide +kernel
theorem dL_law_204 : decode cL_law 204 = .ok (.iload_n 3, 1) := by decide +kernel
theorem dL_law_205 : decode cL_law 205 = .ok (.iconst 2, 1) := by decide +kernel
theorem dL_law_206 : decode cL_law 206 = .ok (.iadd, 1) := by decide +kernel
theorem dL_law_207 : decode cL_law 207 = .ok (.iaload, 1) := by decide +kernel
theorem dL_law_208 : decode cL_law 208 = .ok (.i2l, 1) := by decide +kernel
theorem dL_law_209 : decode cL_law 209 = .ok (.bipush 32, 2) := by decide +kernel
theorem dL_law_211 : decode cL_law 211 = .ok (.lshl, 1) := by decide +kernel
theorem dL_law_212 : decode cL_law 212 = .ok (.aload_n 0, 1) := by decide +kernel
theorem dL_law_213 : decode cL_law 213 = .ok (.iload_n 3, 1) := by decide +kernel
theorem dL_law_214 : decode cL_law 214 = .ok (.iconst 3, 1) := by decide +kernel
theorem dL_law_215 : decode cL_law 215 = .ok (.iadd, 1) := by decide +kernel
theorem dL_law_216 : decode cL_law 216 = .ok (.iaload, 1) := by decide +kernel
theorem dL_law_217 : decode cL_law 217 = .ok (.i2l, 1) := by decide +kernel
theorem dL_law_218 : decode cL_law 218 = .ok (.ldc2_w 13, 3) := by decide +kernel
theorem dL_law_221 : decode cL_law 221 = .ok (.land, 1) := by decide +kernel
theorem dL_law_222 : decode cL_law 222 = .ok (.lor, 1) := by decide +kernel
theorem dL_law_223 : decode cL_law 223 = .ok (.invokevirtual 19, 3) := by decide +kernel
theorem dL_law_226 : decode cL_law 226 = .ok (.if_icmp .eq 808, 3) := by decide +kernel
theorem dL_law_229 : decode cL_law 229 = .ok (.iconst 0, 1) := by decide +kernel
theorem dL_law_230 : decode cL_law 230 = .ok (.ireturn, 1) := by decide +kernel
theorem dL_law_231 : decode cL_law 231 = .ok (.aload_n 1, 1) := by decide +kernel
theorem dL_law_232 : decode cL_law 232 = .ok (.invokevirtual 20, 3) := by decide +kernel
theorem dL_law_235 : decode cL_law 235 = .ok (.aload_n 2, 1) := by decide +kernel
theorem dL_law_236 : decode cL_law 236 = .ok (.invokevirtual 24, 3) := by decide +kernel
theorem dL_law_239 : decode cL_law 239 = .ok (.if_icmp .eq 795, 3) := by decide +kernel
theorem dL_law_242 : decode cL_law 242 = .ok (.iconst 0, 1) := by decide +kernel
theorem dL_law_243 : decode cL_law 243 = .ok (.ireturn, 1) := by decide +kernel
theorem dL_law_244 : decode cL_law 244 = .ok (.aload_n 1, 1) := by decide +kernel
theorem dL_law_245 : decode cL_law 245 = .ok (.invokevirtual 25, 3) := by decide +kernel
theorem dL_law_248 : decode cL_law 248 = .ok (.aload_n 2, 1) := by decide +kernel
theorem dL_law_249 : decode cL_law 249 = .ok (.invokevirtual 28, 3) := by decide +kernel
theorem dL_law_252 : decode cL_law 252 = .ok (.if_icmp .eq 782, 3) := by decide +kernel
theorem dL_law_255 : decode cL_law 255 = .ok (.iconst 0, 1) := by decide +kernel
theorem dL_law_256 : decode cL_law 256 = .ok (.ireturn, 1) := by decide +kernel
theorem dL_law_257 : decode cL_law 257 = .ok (.aload_n 1, 1) := by decide +kernel
theorem dL_law_258 : decode cL_law 258 = .ok (.aload_n 0, 1) := by decide +kernel
theorem dL_law_259 : decode cL_law 259 = .ok (.iload_n 3, 1) := by decide +kernel
theorem dL_law_260 : decode cL_law 260 = .ok (.iconst 1, 1) := by decide +kernel
theorem dL_law_261 : decode cL_law 261 = .ok (.iadd, 1) := by decide +kernel
theorem dL_law_262 : decode cL_law 262 = .ok (.iaload, 1) := by decide +kernel
theorem dL_law_263 : decode cL_law 263 = .ok (.aload_n 0, 1) := by decide +kernel
theorem dL_law_264 : decode cL_law 264 = .ok (.iload_n 3, 1) := by decide +kernel
theorem dL_law_265 : decode cL_law 265 = .ok (.iconst 2, 1) := by decide +kernel
theorem dL_law_266 : decode cL_law 266 = .ok (.iadd, 1) := by decide +kernel
theorem dL_law_267 : decode cL_law 267 = .ok (.iaload, 1) := by decide +kernel
theorem dL_law_268 : decode cL_law 268 = .ok (.invokevirtual 29, 3) := by decide +kernel
theorem dL_law_271 : decode cL_law 271 = .ok (.aload_n 2, 1) := by decide +kernel
theorem dL_law_272 : decode cL_law 272 = .ok (.aload_n 0, 1) := by decide +kernel
theorem dL_law_273 : decode cL_law 273 = .ok (.iload_n 3, 1) := by decide +kernel
theorem dL_law_274 : decode cL_law 274 = .ok (.iconst 1, 1) := by decide +kernel
theorem dL_law_275 : decode cL_law 275 = .ok (.iadd, 1) := by decide +kernel
theorem dL_law_276 : decode cL_law 276 = .ok (.iaload, 1) := by decide +kernel
theorem dL_law_277 : decode cL_law 277 = .ok (.aload_n 0, 1) := by decide +kernel
theorem dL_law_278 : decode cL_law 278 = .ok (.iload_n 3, 1) := by decide +kernel
theorem dL_law_279 : decode cL_law 279 = .ok (.iconst 2, 1) := by decide +kernel
theorem dL_law_280 : decode cL_law 280 = .ok (.iadd, 1) := by decide +kernel
theorem dL_law_281 : decode cL_law 281 = .ok (.iaload, 1) := by decide +kernel
theorem dL_law_282 : decode cL_law 282 = .ok (.invokevirtual 33, 3) := by decide +kernel
theorem dL_law_285 : decode cL_law 285 = .ok (.if_icmp .eq 749, 3) := by decide +kernel
theorem dL_law_288 : decode cL_law 288 = .ok (.iconst 0, 1) := by decide +kernel
theorem dL_law_289 : decode cL_law 289 = .ok (.ireturn, 1) := by decide +kernel
theorem dL_law_290 : decode cL_law 290 = .ok (.aload_n 1, 1) := by decide +kernel
theorem dL_law_291 : decode cL_law 291 = .ok (.aload_n 0, 1) := by decide +kernel
theorem dL_law_292 : decode cL_law 292 = .ok (.iload_n 3, 1) := by decide +kernel
theorem dL_law_293 : decode cL_law 293 = .ok (.iconst 1, 1) := by decide +kernel
theorem dL_law_294 : decode cL_law 294 = .ok (.iadd, 1) := by decide +kernel
theorem dL_law_295 : decode cL_law 295 = .ok (.iaload, 1) := by decide +kernel
theorem dL_law_296 : decode cL_law 296 = .ok (.aload_n 0, 1) := by decide +kernel
theorem dL_law_297 : decode cL_law 297 = .ok (.iload_n 3, 1) := by decide +kernel
theorem dL_law_298 : decode cL_law 298 = .ok (.iconst 2, 1) := by decide +kernel
theorem dL_law_299 : decode cL_law 299 = .ok (.iadd, 1) := by decide +kernel
theorem dL_law_300 : decode cL_law 300 = .ok (.iaload, 1) := by decide +kernel
theorem dL_law_301 : decode cL_law 301 = .ok (.invokevirtual 34, 3) := by decide +kernel
theorem dL_law_304 : decode cL_law 304 = .ok (.aload_n 2, 1) := by decide +kernel
theorem dL_law_305 : decode cL_law 305 = .ok (.aload_n 0, 1) := by decide +kernel
theorem dL_law_306 : decode cL_law 306 = .ok (.iload_n 3, 1) := by decide +kernel
theorem dL_law_307 : decode cL_law 307 = .ok (.iconst 1, 1) := by decide +kernel
theorem dL_law_308 : decode cL_law 308 = .ok (.iadd, 1) := by decide +kernel
theorem dL_law_309 : decode cL_law 309 = .ok (.iaload, 1) := by decide +kernel
theorem dL_law_310 : decode cL_law 310 = .ok (.aload_n 0, 1) := by decide +kernel
theorem dL_law_311 : decode cL_law 311 = .ok (.iload_n 3, 1) := by decide +kernel
theorem dL_law_312 : decode cL_law 312 = .ok (.iconst 2, 1) := by decide +kernel
theorem dL_law_313 : decode cL_law 313 = .ok (.iadd, 1) := by decide +kernel
theorem dL_law_314 : decode cL_law 314 = .ok (.iaload, 1) := by decide +kernel
theorem dL_law_315 : decode cL_law 315 = .ok (.invokevirtual 37, 3) := by decide +kernel
theorem dL_law_318 : decode cL_law 318 = .ok (.if_icmp .eq 716, 3) := by decide +kernel
theorem dL_law_321 : decode cL_law 321 = .ok (.iconst 0, 1) := by decide +kernel
theorem dL_law_322 : decode cL_law 322 = .ok (.ireturn, 1) := by decide +kernel
theorem dL_law_323 : decode cL_law 323 = .ok (.aload_n 1, 1) := by decide +kernel
theorem dL_law_324 : decode cL_law 324 = .ok (.aload_n 0, 1) := by decide +kernel
theorem dL_law_325 : decode cL_law 325 = .ok (.iload_n 3, 1) := by decide +kernel
theorem dL_law_326 : decode cL_law 326 = .ok (.iconst 1, 1) := by decide +kernel
theorem dL_law_327 : decode cL_law 327 = .ok (.iadd, 1) := by decide +kernel
theorem dL_law_328 : decode cL_law 328 = .ok (.iaload, 1) := by decide +kernel
theorem dL_law_329 : decode cL_law 329 = .ok (.aload_n 0, 1) := by decide +kernel
theorem dL_law_330 : decode cL_law 330 = .ok (.iload_n 3, 1) := by decide +kernel
theorem dL_law_331 : decode cL_law 331 = .ok (.iconst 2, 1) := by decide +kernel
theorem dL_law_332 : decode cL_law 332 = .ok (.iadd, 1) := by decide +kernel
theorem dL_law_333 : decode cL_law 333 = .ok (.iaload, 1) := by decide +kernel
theorem dL_law_334 : decode cL_law 334 = .ok (.aload_n 0, 1) := by decide +kernel
theorem dL_law_335 : decode cL_law 335 = .ok (.iload_n 3, 1) := by decide +kernel
theorem dL_law_336 : decode cL_law 336 = .ok (.iconst 3, 1) := by decide +kernel
theorem dL_law_337 : decode cL_law 337 = .ok (.iadd, 1) := by decide +kernel
theorem dL_law_338 : decode cL_law 338 = .ok (.iaload, 1) := by decide +kernel
theorem dL_law_339 : decode cL_law 339 = .ok (.invokevirtual 38, 3) := by decide +kernel
theorem dL_law_342 : decode cL_law 342 = .ok (.aload_n 2, 1) := by decide +kernel
theorem dL_law_343 : decode cL_law 343 = .ok (.aload_n 0, 1) := by decide +kernel
theorem dL_law_344 : decode cL_law 344 = .ok (.iload_n 3, 1) := by decide +kernel
theorem dL_law_345 : decode cL_law 345 = .ok (.iconst 1, 1) := by decide +kernel
theorem dL_law_346 : decode cL_law 346 = .ok (.iadd, 1) := by decide +kernel
theorem dL_law_347 : decode cL_law 347 = .ok (.iaload, 1) := by decide +kernel
theorem dL_law_348 : decode cL_law 348 = .ok (.aload_n 0, 1) := by decide +kernel
theorem dL_law_349 : decode cL_law 349 = .ok (.iload_n 3, 1) := by decide +kernel
theorem dL_law_350 : decode cL_law 350 = .ok (.iconst 2, 1) := by decide +kernel
theorem dL_law_351 : decode cL_law 351 = .ok (.iadd, 1) := by decide +kernel
theorem dL_law_352 : decode cL_law 352 = .ok (.iaload, 1) := by decide +kernel
theorem dL_law_353 : decode cL_law 353 = .ok (.aload_n 0, 1) := by decide +kernel
theorem dL_law_354 : decode cL_law 354 = .ok (.iload_n 3, 1) := by decide +kernel
theorem dL_law_355 : decode cL_law 355 = .ok (.iconst 3, 1) := by decide +kernel
theorem dL_law_356 : decode cL_law 356 = .ok (.iadd, 1) := by decide +kernel
theorem dL_law_357 : decode cL_law 357 = .ok (.iaload, 1) := by decide +kernel
theorem dL_law_358 : decode cL_law 358 = .ok (.invokevirtual 42, 3) := by decide +kernel
theorem dL_law_361 : decode cL_law 361 = .ok (.if_icmp .eq 673, 3) := by decide +kernel
theorem dL_law_364 : decode cL_law 364 = .ok (.iconst 0, 1) := by decide +kernel
theorem dL_law_365 : decode cL_law 365 = .ok (.ireturn, 1) := by decide +kernel
theorem dL_law_366 : decode cL_law 366 = .ok (.aload_n 1, 1) := by decide +kernel
theorem dL_law_367 : decode cL_law 367 = .ok (.aload_n 0, 1) := by decide +kernel
theorem dL_law_368 : decode cL_law 368 = .ok (.iload_n 3, 1) := by decide +kernel
theorem dL_law_369 : decode cL_law 369 = .ok (.iconst 1, 1) := by decide +kernel
theorem dL_law_370 : decode cL_law 370 = .ok (.iadd, 1) := by decide +kernel
theorem dL_law_371 : decode cL_law 371 = .ok (.iaload, 1) := by decide +kernel
theorem dL_law_372 : decode cL_law 372 = .ok (.aload_n 0, 1) := by decide +kernel
theorem dL_law_373 : decode cL_law 373 = .ok (.iload_n 3, 1) := by decide +kernel
theorem dL_law_374 : decode cL_law 374 = .ok (.iconst 2, 1) := by decide +kernel
theorem dL_law_375 : decode cL_law 375 = .ok (.iadd, 1) := by decide +kernel
theorem dL_law_376 : decode cL_law 376 = .ok (.iaload, 1) := by decide +kernel
theorem dL_law_377 : decode cL_law 377 = .ok (.invokevirtual 43, 3) := by decide +kernel
theorem dL_law_380 : decode cL_law 380 = .ok (.aload_n 2, 1) := by decide +kernel
theorem dL_law_381 : decode cL_law 381 = .ok (.aload_n 0, 1) := by decide +kernel
theorem dL_law_382 : decode cL_law 382 = .ok (.iload_n 3, 1) := by decide +kernel
theorem dL_law_383 : decode cL_law 383 = .ok (.iconst 1, 1) := by decide +kernel
theorem dL_law_384 : decode cL_law 384 = .ok (.iadd, 1) := by decide +kernel
theorem dL_law_385 : decode cL_law 385 = .ok (.iaload, 1) := by decide +kernel
theorem dL_law_386 : decode cL_law 386 = .ok (.aload_n 0, 1) := by decide +kernel
theorem dL_law_387 : decode cL_law 387 = .ok (.iload_n 3, 1) := by decide +kernel
theorem dL_law_388 : decode cL_law 388 = .ok (.iconst 2, 1) := by decide +kernel
theorem dL_law_389 : decode cL_law 389 = .ok (.iadd, 1) := by decide +kernel
theorem dL_law_390 : decode cL_law 390 = .ok (.iaload, 1) := by decide +kernel
theorem dL_law_391 : decode cL_law 391 = .ok (.invokevirtual 46, 3) := by decide +kernel
theorem dL_law_394 : decode cL_law 394 = .ok (.if_icmp .eq 640, 3) := by decide +kernel
theorem dL_law_397 : decode cL_law 397 = .ok (.iconst 0, 1) := by decide +kernel
theorem dL_law_398 : decode cL_law 398 = .ok (.ireturn, 1) := by decide +kernel
theorem dL_law_399 : decode cL_law 399 = .ok (.aload_n 1, 1) := by decide +kernel
theorem dL_law_400 : decode cL_law 400 = .ok (.aload_n 0, 1) := by decide +kernel
theorem dL_law_401 : decode cL_law 401 = .ok (.iload_n 3, 1) := by decide +kernel
theorem dL_law_402 : decode cL_law 402 = .ok (.iconst 1, 1) := by decide +kernel
theorem dL_law_403 : decode cL_law 403 = .ok (.iadd, 1) := by decide +kernel
theorem dL_law_404 : decode cL_law 404 = .ok (.iaload, 1) := by decide +kernel
theorem dL_law_405 : decode cL_law 405 = .ok (.invokevirtual 47, 3) := by decide +kernel
theorem dL_law_408 : decode cL_law 408 = .ok (.aload_n 2, 1) := by decide +kernel
theorem dL_law_409 : decode cL_law 409 = .ok (.aload_n 0, 1) := by decide +kernel
theorem dL_law_410 : decode cL_law 410 = .ok (.iload_n 3, 1) := by decide +kernel
theorem dL_law_411 : decode cL_law 411 = .ok (.iconst 1, 1) := by decide +kernel
theorem dL_law_412 : decode cL_law 412 = .ok (.iadd, 1) := by decide +kernel
theorem dL_law_413 : decode cL_law 413 = .ok (.iaload, 1) := by decide +kernel
theorem dL_law_414 : decode cL_law 414 = .ok (.invokevirtual 51, 3) := by decide +kernel
theorem dL_law_417 : decode cL_law 417 = .ok (.if_icmp .eq 617, 3) := by decide +kernel
theorem dL_law_420 : decode cL_law 420 = .ok (.iconst 0, 1) := by decide +kernel
theorem dL_law_421 : decode cL_law 421 = .ok (.ireturn, 1) := by decide +kernel
theorem dL_law_422 : decode cL_law 422 = .ok (.aload_n 1, 1) := by decide +kernel
theorem dL_law_423 : decode cL_law 423 = .ok (.aload_n 0, 1) := by decide +kernel
theorem dL_law_424 : decode cL_law 424 = .ok (.iload_n 3, 1) := by decide +kernel
theorem dL_law_425 : decode cL_law 425 = .ok (.iconst 1, 1) := by decide +kernel
theorem dL_law_426 : decode cL_law 426 = .ok (.iadd, 1) := by decide +kernel
theorem dL_law_427 : decode cL_law 427 = .ok (.iaload, 1) := by decide +kernel
theorem dL_law_428 : decode cL_law 428 = .ok (.aload_n 0, 1) := by decide +kernel
theorem dL_law_429 : decode cL_law 429 = .ok (.iload_n 3, 1) := by decide +kernel
theorem dL_law_430 : decode cL_law 430 = .ok (.iconst 2, 1) := by decide +kernel
theorem dL_law_431 : decode cL_law 431 = .ok (.iadd, 1) := by decide +kernel
theorem dL_law_432 : decode cL_law 432 = .ok (.iaload, 1) := by decide +kernel
theorem dL_law_433 : decode cL_law 433 = .ok (.invokevirtual 52, 3) := by decide +kernel
theorem dL_law_436 : decode cL_law 436 = .ok (.aload_n 2, 1) := by decide +kernel
theorem dL_law_437 : decode cL_law 437 = .ok (.aload_n 0, 1) := by decide +kernel
theorem dL_law_438 : decode cL_law 438 = .ok (.iload_n 3, 1) := by decide +kernel
theorem dL_law_439 : decode cL_law 439 = .ok (.iconst 1, 1) := by decide +kernel
theorem dL_law_440 : decode cL_law 440 = .ok (.iadd, 1) := by decide +kernel
theorem dL_law_441 : decode cL_law 441 = .ok (.iaload, 1) := by decide +kernel
theorem dL_law_442 : decode cL_law 442 = .ok (.aload_n 0, 1) := by decide +kernel
theorem dL_law_443 : decode cL_law 443 = .ok (.iload_n 3, 1) := by decide +kernel
theorem dL_law_444 : decode cL_law 444 = .ok (.iconst 2, 1) := by decide +kernel
theorem dL_law_445 : decode cL_law 445 = .ok (.iadd, 1) := by decide +kernel
theorem dL_law_446 : decode cL_law 446 = .ok (.iaload, 1) := by decide +kernel
theorem dL_law_447 : decode cL_law 447 = .ok (.invokevirtual 55, 3) := by decide +kernel
theorem dL_law_450 : decode cL_law 450 = .ok (.if_icmp .eq 584, 3) := by decide +kernel
theorem dL_law_453 : decode cL_law 453 = .ok (.iconst 0, 1) := by decide +kernel
theorem dL_law_454 : decode cL_law 454 = .ok (.ireturn, 1) := by decide +kernel
theorem dL_law_455 : decode cL_law 455 = .ok (.aload_n 1, 1) := by decide +kernel
theorem dL_law_456 : decode cL_law 456 = .ok (.aload_n 0, 1) := by decide +kernel
theorem dL_law_457 : decode cL_law 457 = .ok (.iload_n 3, 1) := by decide +kernel
theorem dL_law_458 : decode cL_law 458 = .ok (.iconst 1, 1) := by decide +kernel
theorem dL_law_459 : decode cL_law 459 = .ok (.iadd, 1) := by decide +kernel
theorem dL_law_460 : decode cL_law 460 = .ok (.iaload, 1) := by decide +kernel
theorem dL_law_461 : decode cL_law 461 = .ok (.aload_n 0, 1) := by decide +kernel
theorem dL_law_462 : decode cL_law 462 = .ok (.iload_n 3, 1) := by decide +kernel
theorem dL_law_463 : decode cL_law 463 = .ok (.iconst 2, 1) := by decide +kernel
theorem dL_law_464 : decode cL_law 464 = .ok (.iadd, 1) := by decide +kernel
theorem dL_law_465 : decode cL_law 465 = .ok (.iaload, 1) := by decide +kernel
theorem dL_law_466 : decode cL_law 466 = .ok (.invokevirtual 56, 3) := by decide +kernel
theorem dL_law_469 : decode cL_law 469 = .ok (.aload_n 2, 1) := by decide +kernel
theorem dL_law_470 : decode cL_law 470 = .ok (.aload_n 0, 1) := by decide +kernel
theorem dL_law_471 : decode cL_law 471 = .ok (.iload_n 3, 1) := by decide +kernel
theorem dL_law_472 : decode cL_law 472 = .ok (.iconst 1, 1) := by decide +kernel
theorem dL_law_473 : decode cL_law 473 = .ok (.iadd, 1) := by decide +kernel
theorem dL_law_474 : decode cL_law 474 = .ok (.iaload, 1) := by decide +kernel
theorem dL_law_475 : decode cL_law 475 = .ok (.aload_n 0, 1) := by decide +kernel
theorem dL_law_476 : decode cL_law 476 = .ok (.iload_n 3, 1) := by decide +kernel
theorem dL_law_477 : decode cL_law 477 = .ok (.iconst 2, 1) := by decide +kernel
theorem dL_law_478 : decode cL_law 478 = .ok (.iadd, 1) := by decide +kernel
theorem dL_law_479 : decode cL_law 479 = .ok (.iaload, 1) := by decide +kernel
theorem dL_law_480 : decode cL_law 480 = .ok (.invokevirtual 59, 3) := by decide +kernel
theorem dL_law_483 : decode cL_law 483 = .ok (.if_icmp .eq 551, 3) := by decide +kernel
theorem dL_law_486 : decode cL_law 486 = .ok (.iconst 0, 1) := by decide +kernel
theorem dL_law_487 : decode cL_law 487 = .ok (.ireturn, 1) := by decide +kernel
theorem dL_law_488 : decode cL_law 488 = .ok (.aload_n 1, 1) := by decide +kernel
theorem dL_law_489 : decode cL_law 489 = .ok (.aload_n 0, 1) := by decide +kernel
theorem dL_law_490 : decode cL_law 490 = .ok (.iload_n 3, 1) := by decide +kernel
theorem dL_law_491 : decode cL_law 491 = .ok (.iconst 1, 1) := by decide +kernel
theorem dL_law_492 : decode cL_law 492 = .ok (.iadd, 1) := by decide +kernel
theorem dL_law_493 : decode cL_law 493 = .ok (.iaload, 1) := by decide +kernel
theorem dL_law_494 : decode cL_law 494 = .ok (.invokevirtual 60, 3) := by decide +kernel
theorem dL_law_497 : decode cL_law 497 = .ok (.aload_n 2, 1) := by decide +kernel
theorem dL_law_498 : decode cL_law 498 = .ok (.aload_n 0, 1) := by decide +kernel
theorem dL_law_499 : decode cL_law 499 = .ok (.iload_n 3, 1) := by decide +kernel
theorem dL_law_500 : decode cL_law 500 = .ok (.iconst 1, 1) := by decide +kernel
theorem dL_law_501 : decode cL_law 501 = .ok (.iadd, 1) := by decide +kernel
theorem dL_law_502 : decode cL_law 502 = .ok (.iaload, 1) := by decide +kernel
theorem dL_law_503 : decode cL_law 503 = .ok (.invokevirtual 63, 3) := by decide +kernel
theorem dL_law_506 : decode cL_law 506 = .ok (.if_icmp .eq 528, 3) := by decide +kernel
theorem dL_law_509 : decode cL_law 509 = .ok (.iconst 0, 1) := by decide +kernel
theorem dL_law_510 : decode cL_law 510 = .ok (.ireturn, 1) := by decide +kernel
theorem dL_law_511 : decode cL_law 511 = .ok (.aload_n 1, 1) := by decide +kernel
theorem dL_law_512 : decode cL_law 512 = .ok (.aload_n 0, 1) := by decide +kernel
theorem dL_law_513 : decode cL_law 513 = .ok (.iload_n 3, 1) := by decide +kernel
theorem dL_law_514 : decode cL_law 514 = .ok (.iconst 1, 1) := by decide +kernel
theorem dL_law_515 : decode cL_law 515 = .ok (.iadd, 1) := by decide +kernel
theorem dL_law_516 : decode cL_law 516 = .ok (.iaload, 1) := by decide +kernel
theorem dL_law_517 : decode cL_law 517 = .ok (.aload_n 0, 1) := by decide +kernel
theorem dL_law_518 : decode cL_law 518 = .ok (.iload_n 3, 1) := by decide +kernel
theorem dL_law_519 : decode cL_law 519 = .ok (.iconst 2, 1) := by decide +kernel
theorem dL_law_520 : decode cL_law 520 = .ok (.iadd, 1) := by decide +kernel
theorem dL_law_521 : decode cL_law 521 = .ok (.iaload, 1) := by decide +kernel
theorem dL_law_522 : decode cL_law 522 = .ok (.aload_n 0, 1) := by decide +kernel
theorem dL_law_523 : decode cL_law 523 = .ok (.iload_n 3, 1) := by decide +kernel
theorem dL_law_524 : decode cL_law 524 = .ok (.iconst 3, 1) := by decide +kernel
theorem dL_law_525 : decode cL_law 525 = .ok (.iadd, 1) := by decide +kernel
theorem dL_law_526 : decode cL_law 526 = .ok (.iaload, 1) := by decide +kernel
theorem dL_law_527 : decode cL_law 527 = .ok (.invokevirtual 64, 3) := by decide +kernel
theorem dL_law_530 : decode cL_law 530 = .ok (.aload_n 2, 1) := by decide +kernel
theorem dL_law_531 : decode cL_law 531 = .ok (.aload_n 0, 1) := by decide +kernel
theorem dL_law_532 : decode cL_law 532 = .ok (.iload_n 3, 1) := by decide +kernel
theorem dL_law_533 : decode cL_law 533 = .ok (.iconst 1, 1) := by decide +kernel
theorem dL_law_534 : decode cL_law 534 = .ok (.iadd, 1) := by decide +kernel
theorem dL_law_535 : decode cL_law 535 = .ok (.iaload, 1) := by decide +kernel
theorem dL_law_536 : decode cL_law 536 = .ok (.aload_n 0, 1) := by decide +kernel
theorem dL_law_537 : decode cL_law 537 = .ok (.iload_n 3, 1) := by decide +kernel
theorem dL_law_538 : decode cL_law 538 = .ok (.iconst 2, 1) := by decide +kernel
theorem dL_law_539 : decode cL_law 539 = .ok (.iadd, 1) := by decide +kernel
theorem dL_law_540 : decode cL_law 540 = .ok (.iaload, 1) := by decide +kernel
theorem dL_law_541 : decode cL_law 541 = .ok (.aload_n 0, 1) := by decide +kernel
theorem dL_law_542 : decode cL_law 542 = .ok (.iload_n 3, 1) := by decide +kernel
theorem dL_law_543 : decode cL_law 543 = .ok (.iconst 3, 1) := by decide +kernel
theorem dL_law_544 : decode cL_law 544 = .ok (.iadd, 1) := by decide +kernel
theorem dL_law_545 : decode cL_law 545 = .ok (.iaload, 1) := by decide +kernel
theorem dL_law_546 : decode cL_law 546 = .ok (.invokevirtual 67, 3) := by decide +kernel
theorem dL_law_549 : decode cL_law 549 = .ok (.if_icmp .eq 485, 3) := by decide +kernel
theorem dL_law_552 : decode cL_law 552 = .ok (.iconst 0, 1) := by decide +kernel
theorem dL_law_553 : decode cL_law 553 = .ok (.ireturn, 1) := by decide +kernel
theorem dL_law_554 : decode cL_law 554 = .ok (.aload_n 1, 1) := by decide +kernel
theorem dL_law_555 : decode cL_law 555 = .ok (.aload_n 0, 1) := by decide +kernel
theorem dL_law_556 : decode cL_law 556 = .ok (.iload_n 3, 1) := by decide +kernel
theorem dL_law_557 : decode cL_law 557 = .ok (.iconst 1, 1) := by decide +kernel
theorem dL_law_558 : decode cL_law 558 = .ok (.iadd, 1) := by decide +kernel
theorem dL_law_559 : decode cL_law 559 = .ok (.iaload, 1) := by decide +kernel
theorem dL_law_560 : decode cL_law 560 = .ok (.aload_n 0, 1) := by decide +kernel
theorem dL_law_561 : decode cL_law 561 = .ok (.iload_n 3, 1) := by decide +kernel
theorem dL_law_562 : decode cL_law 562 = .ok (.iconst 2, 1) := by decide +kernel
theorem dL_law_563 : decode cL_law 563 = .ok (.iadd, 1) := by decide +kernel
theorem dL_law_564 : decode cL_law 564 = .ok (.iaload, 1) := by decide +kernel
theorem dL_law_565 : decode cL_law 565 = .ok (.invokevirtual 68, 3) := by decide +kernel
theorem dL_law_568 : decode cL_law 568 = .ok (.aload_n 2, 1) := by decide +kernel
theorem dL_law_569 : decode cL_law 569 = .ok (.aload_n 0, 1) := by decide +kernel
theorem dL_law_570 : decode cL_law 570 = .ok (.iload_n 3, 1) := by decide +kernel
theorem dL_law_571 : decode cL_law 571 = .ok (.iconst 1, 1) := by decide +kernel
theorem dL_law_572 : decode cL_law 572 = .ok (.iadd, 1) := by decide +kernel
theorem dL_law_573 : decode cL_law 573 = .ok (.iaload, 1) := by decide +kernel
theorem dL_law_574 : decode cL_law 574 = .ok (.aload_n 0, 1) := by decide +kernel
theorem dL_law_575 : decode cL_law 575 = .ok (.iload_n 3, 1) := by decide +kernel
theorem dL_law_576 : decode cL_law 576 = .ok (.iconst 2, 1) := by decide +kernel
theorem dL_law_577 : decode cL_law 577 = .ok (.iadd, 1) := by decide +kernel
theorem dL_law_578 : decode cL_law 578 = .ok (.iaload, 1) := by decide +kernel
theorem dL_law_579 : decode cL_law 579 = .ok (.invokevirtual 71, 3) := by decide +kernel
theorem dL_law_582 : decode cL_law 582 = .ok (.if_icmp .eq 452, 3) := by decide +kernel
theorem dL_law_585 : decode cL_law 585 = .ok (.iconst 0, 1) := by decide +kernel
theorem dL_law_586 : decode cL_law 586 = .ok (.ireturn, 1) := by decide +kernel
theorem dL_law_587 : decode cL_law 587 = .ok (.aload_n 1, 1) := by decide +kernel
theorem dL_law_588 : decode cL_law 588 = .ok (.aload_n 0, 1) := by decide +kernel
theorem dL_law_589 : decode cL_law 589 = .ok (.iload_n 3, 1) := by decide +kernel
theorem dL_law_590 : decode cL_law 590 = .ok (.iconst 1, 1) := by decide +kernel
theorem dL_law_591 : decode cL_law 591 = .ok (.iadd, 1) := by decide +kernel
theorem dL_law_592 : decode cL_law 592 = .ok (.iaload, 1) := by decide +kernel
theorem dL_law_593 : decode cL_law 593 = .ok (.invokevirtual 72, 3) := by decide +kernel
theorem dL_law_596 : decode cL_law 596 = .ok (.aload_n 2, 1) := by decide +kernel
theorem dL_law_597 : decode cL_law 597 = .ok (.aload_n 0, 1) := by decide +kernel
theorem dL_law_598 : decode cL_law 598 = .ok (.iload_n 3, 1) := by decide +kernel
theorem dL_law_599 : decode cL_law 599 = .ok (.iconst 1, 1) := by decide +kernel
theorem dL_law_600 : decode cL_law 600 = .ok (.iadd, 1) := by decide +kernel
theorem dL_law_601 : decode cL_law 601 = .ok (.iaload, 1) := by decide +kernel
theorem dL_law_602 : decode cL_law 602 = .ok (.invokevirtual 75, 3) := by decide +kernel
theorem dL_law_605 : decode cL_law 605 = .ok (.if_icmp .eq 429, 3) := by decide +kernel
theorem dL_law_608 : decode cL_law 608 = .ok (.iconst 0, 1) := by decide +kernel
theorem dL_law_609 : decode cL_law 609 = .ok (.ireturn, 1) := by decide +kernel
theorem dL_law_610 : decode cL_law 610 = .ok (.aload_n 1, 1) := by decide +kernel
theorem dL_law_611 : decode cL_law 611 = .ok (.invokevirtual 76, 3) := by decide +kernel
theorem dL_law_614 : decode cL_law 614 = .ok (.aload_n 2, 1) := by decide +kernel
theorem dL_law_615 : decode cL_law 615 = .ok (.invokevirtual 79, 3) := by decide +kernel
theorem dL_law_618 : decode cL_law 618 = .ok (.if_icmp .eq 416, 3) := by decide +kernel
theorem dL_law_621 : decode cL_law 621 = .ok (.iconst 0, 1) := by decide +kernel
theorem dL_law_622 : decode cL_law 622 = .ok (.ireturn, 1) := by decide +kernel
theorem dL_law_623 : decode cL_law 623 = .ok (.aload_n 1, 1) := by decide +kernel
theorem dL_law_624 : decode cL_law 624 = .ok (.aload_n 0, 1) := by decide +kernel
theorem dL_law_625 : decode cL_law 625 = .ok (.iload_n 3, 1) := by decide +kernel
theorem dL_law_626 : decode cL_law 626 = .ok (.iconst 1, 1) := by decide +kernel
theorem dL_law_627 : decode cL_law 627 = .ok (.iadd, 1) := by decide +kernel
theorem dL_law_628 : decode cL_law 628 = .ok (.iaload, 1) := by decide +kernel
theorem dL_law_629 : decode cL_law 629 = .ok (.invokevirtual 80, 3) := by decide +kernel
theorem dL_law_632 : decode cL_law 632 = .ok (.aload_n 2, 1) := by decide +kernel
theorem dL_law_633 : decode cL_law 633 = .ok (.aload_n 0, 1) := by decide +kernel
theorem dL_law_634 : decode cL_law 634 = .ok (.iload_n 3, 1) := by decide +kernel
theorem dL_law_635 : decode cL_law 635 = .ok (.iconst 1, 1) := by decide +kernel
theorem dL_law_636 : decode cL_law 636 = .ok (.iadd, 1) := by decide +kernel
theorem dL_law_637 : decode cL_law 637 = .ok (.iaload, 1) := by decide +kernel
theorem dL_law_638 : decode cL_law 638 = .ok (.invokevirtual 83, 3) := by decide +kernel
theorem dL_law_641 : decode cL_law 641 = .ok (.if_icmp .eq 393, 3) := by decide +kernel
theorem dL_law_644 : decode cL_law 644 = .ok (.iconst 0, 1) := by decide +kernel
theorem dL_law_645 : decode cL_law 645 = .ok (.ireturn, 1) := by decide +kernel
theorem dL_law_646 : decode cL_law 646 = .ok (.aload_n 1, 1) := by decide +kernel
theorem dL_law_647 : decode cL_law 647 = .ok (.invokevirtual 84, 3) := by decide +kernel
theorem dL_law_650 : decode cL_law 650 = .ok (.aload_n 2, 1) := by decide +kernel
theorem dL_law_651 : decode cL_law 651 = .ok (.invokevirtual 87, 3) := by decide +kernel
theorem dL_law_654 : decode cL_law 654 = .ok (.if_icmp .eq 380, 3) := by decide +kernel
theorem dL_law_657 : decode cL_law 657 = .ok (.iconst 0, 1) := by decide +kernel
theorem dL_law_658 : decode cL_law 658 = .ok (.ireturn, 1) := by decide +kernel
theorem dL_law_659 : decode cL_law 659 = .ok (.aload_n 1, 1) := by decide +kernel
theorem dL_law_660 : decode cL_law 660 = .ok (.aload_n 0, 1) := by decide +kernel
theorem dL_law_661 : decode cL_law 661 = .ok (.iload_n 3, 1) := by decide +kernel
theorem dL_law_662 : decode cL_law 662 = .ok (.iconst 1, 1) := by decide +kernel
theorem dL_law_663 : decode cL_law 663 = .ok (.iadd, 1) := by decide +kernel
theorem dL_law_664 : decode cL_law 664 = .ok (.iaload, 1) := by decide +kernel
theorem dL_law_665 : decode cL_law 665 = .ok (.invokevirtual 88, 3) := by decide +kernel
theorem dL_law_668 : decode cL_law 668 = .ok (.aload_n 2, 1) := by decide +kernel
theorem dL_law_669 : decode cL_law 669 = .ok (.aload_n 0, 1) := by decide +kernel
theorem dL_law_670 : decode cL_law 670 = .ok (.iload_n 3, 1) := by decide +kernel
theorem dL_law_671 : decode cL_law 671 = .ok (.iconst 1, 1) := by decide +kernel
theorem dL_law_672 : decode cL_law 672 = .ok (.iadd, 1) := by decide +kernel
theorem dL_law_673 : decode cL_law 673 = .ok (.iaload, 1) := by decide +kernel
theorem dL_law_674 : decode cL_law 674 = .ok (.invokevirtual 91, 3) := by decide +kernel
theorem dL_law_677 : decode cL_law 677 = .ok (.if_icmp .eq 357, 3) := by decide +kernel
theorem dL_law_680 : decode cL_law 680 = .ok (.iconst 0, 1) := by decide +kernel
theorem dL_law_681 : decode cL_law 681 = .ok (.ireturn, 1) := by decide +kernel
theorem dL_law_682 : decode cL_law 682 = .ok (.aload_n 1, 1) := by decide +kernel
theorem dL_law_683 : decode cL_law 683 = .ok (.aload_n 0, 1) := by decide +kernel
theorem dL_law_684 : decode cL_law 684 = .ok (.iload_n 3, 1) := by decide +kernel
theorem dL_law_685 : decode cL_law 685 = .ok (.iconst 1, 1) := by decide +kernel
theorem dL_law_686 : decode cL_law 686 = .ok (.iadd, 1) := by decide +kernel
theorem dL_law_687 : decode cL_law 687 = .ok (.iaload, 1) := by decide +kernel
theorem dL_law_688 : decode cL_law 688 = .ok (.invokevirtual 92, 3) := by decide +kernel
theorem dL_law_691 : decode cL_law 691 = .ok (.aload_n 2, 1) := by decide +kernel
theorem dL_law_692 : decode cL_law 692 = .ok (.aload_n 0, 1) := by decide +kernel
theorem dL_law_693 : decode cL_law 693 = .ok (.iload_n 3, 1) := by decide +kernel
theorem dL_law_694 : decode cL_law 694 = .ok (.iconst 1, 1) := by decide +kernel
theorem dL_law_695 : decode cL_law 695 = .ok (.iadd, 1) := by decide +kernel
theorem dL_law_696 : decode cL_law 696 = .ok (.iaload, 1) := by decide +kernel
theorem dL_law_697 : decode cL_law 697 = .ok (.invokevirtual 95, 3) := by decide +kernel
theorem dL_law_700 : decode cL_law 700 = .ok (.if_icmp .eq 334, 3) := by decide +kernel
theorem dL_law_703 : decode cL_law 703 = .ok (.iconst 0, 1) := by decide +kernel
theorem dL_law_704 : decode cL_law 704 = .ok (.ireturn, 1) := by decide +kernel
theorem dL_law_705 : decode cL_law 705 = .ok (.aload_n 1, 1) := by decide +kernel
theorem dL_law_706 : decode cL_law 706 = .ok (.aload_n 0, 1) := by decide +kernel
theorem dL_law_707 : decode cL_law 707 = .ok (.iload_n 3, 1) := by decide +kernel
theorem dL_law_708 : decode cL_law 708 = .ok (.iconst 1, 1) := by decide +kernel
theorem dL_law_709 : decode cL_law 709 = .ok (.iadd, 1) := by decide +kernel
theorem dL_law_710 : decode cL_law 710 = .ok (.iaload, 1) := by decide +kernel
theorem dL_law_711 : decode cL_law 711 = .ok (.aload_n 0, 1) := by decide +kernel
theorem dL_law_712 : decode cL_law 712 = .ok (.iload_n 3, 1) := by decide +kernel
theorem dL_law_713 : decode cL_law 713 = .ok (.iconst 2, 1) := by decide +kernel
theorem dL_law_714 : decode cL_law 714 = .ok (.iadd, 1) := by decide +kernel
theorem dL_law_715 : decode cL_law 715 = .ok (.iaload, 1) := by decide +kernel
theorem dL_law_716 : decode cL_law 716 = .ok (.aload_n 0, 1) := by decide +kernel
theorem dL_law_717 : decode cL_law 717 = .ok (.iload_n 3, 1) := by decide +kernel
theorem dL_law_718 : decode cL_law 718 = .ok (.iconst 3, 1) := by decide +kernel
theorem dL_law_719 : decode cL_law 719 = .ok (.iadd, 1) := by decide +kernel
theorem dL_law_720 : decode cL_law 720 = .ok (.iaload, 1) := by decide +kernel
theorem dL_law_721 : decode cL_law 721 = .ok (.ifCond .eq 7, 3) := by decide +kernel
theorem dL_law_724 : decode cL_law 724 = .ok (.iconst 1, 1) := by decide +kernel
theorem dL_law_725 : decode cL_law 725 = .ok (.goto 4, 3) := by decide +kernel
theorem dL_law_728 : decode cL_law 728 = .ok (.iconst 0, 1) := by decide +kernel
theorem dL_law_729 : decode cL_law 729 = .ok (.invokevirtual 96, 3) := by decide +kernel
theorem dL_law_732 : decode cL_law 732 = .ok (.aload_n 2, 1) := by decide +kernel
theorem dL_law_733 : decode cL_law 733 = .ok (.aload_n 0, 1) := by decide +kernel
theorem dL_law_734 : decode cL_law 734 = .ok (.iload_n 3, 1) := by decide +kernel
theorem dL_law_735 : decode cL_law 735 = .ok (.iconst 1, 1) := by decide +kernel
theorem dL_law_736 : decode cL_law 736 = .ok (.iadd, 1) := by decide +kernel
theorem dL_law_737 : decode cL_law 737 = .ok (.iaload, 1) := by decide +kernel
theorem dL_law_738 : decode cL_law 738 = .ok (.aload_n 0, 1) := by decide +kernel
theorem dL_law_739 : decode cL_law 739 = .ok (.iload_n 3, 1) := by decide +kernel
theorem dL_law_740 : decode cL_law 740 = .ok (.iconst 2, 1) := by decide +kernel
theorem dL_law_741 : decode cL_law 741 = .ok (.iadd, 1) := by decide +kernel
theorem dL_law_742 : decode cL_law 742 = .ok (.iaload, 1) := by decide +kernel
theorem dL_law_743 : decode cL_law 743 = .ok (.aload_n 0, 1) := by decide +kernel
theorem dL_law_744 : decode cL_law 744 = .ok (.iload_n 3, 1) := by decide +kernel
theorem dL_law_745 : decode cL_law 745 = .ok (.iconst 3, 1) := by decide +kernel
theorem dL_law_746 : decode cL_law 746 = .ok (.iadd, 1) := by decide +kernel
theorem dL_law_747 : decode cL_law 747 = .ok (.iaload, 1) := by decide +kernel
theorem dL_law_748 : decode cL_law 748 = .ok (.ifCond .eq 7, 3) := by decide +kernel
theorem dL_law_751 : decode cL_law 751 = .ok (.iconst 1, 1) := by decide +kernel
theorem dL_law_752 : decode cL_law 752 = .ok (.goto 4, 3) := by decide +kernel
theorem dL_law_755 : decode cL_law 755 = .ok (.iconst 0, 1) := by decide +kernel
theorem dL_law_756 : decode cL_law 756 = .ok (.invokevirtual 100, 3) := by decide +kernel
theorem dL_law_759 : decode cL_law 759 = .ok (.if_icmp .eq 275, 3) := by decide +kernel
theorem dL_law_762 : decode cL_law 762 = .ok (.iconst 0, 1) := by decide +kernel
theorem dL_law_763 : decode cL_law 763 = .ok (.ireturn, 1) := by decide +kernel
theorem dL_law_764 : decode cL_law 764 = .ok (.aload_n 1, 1) := by decide +kernel
theorem dL_law_765 : decode cL_law 765 = .ok (.aload_n 0, 1) := by decide +kernel
theorem dL_law_766 : decode cL_law 766 = .ok (.iload_n 3, 1) := by decide +kernel
theorem dL_law_767 : decode cL_law 767 = .ok (.iconst 1, 1) := by decide +kernel
theorem dL_law_768 : decode cL_law 768 = .ok (.iadd, 1) := by decide +kernel
theorem dL_law_769 : decode cL_law 769 = .ok (.iaload, 1) := by decide +kernel
theorem dL_law_770 : decode cL_law 770 = .ok (.aload_n 0, 1) := by decide +kernel
theorem dL_law_771 : decode cL_law 771 = .ok (.iload_n 3, 1) := by decide +kernel
theorem dL_law_772 : decode cL_law 772 = .ok (.iconst 2, 1) := by decide +kernel
theorem dL_law_773 : decode cL_law 773 = .ok (.iadd, 1) := by decide +kernel
theorem dL_law_774 : decode cL_law 774 = .ok (.iaload, 1) := by decide +kernel
theorem dL_law_775 : decode cL_law 775 = .ok (.invokevirtual 101, 3) := by decide +kernel
theorem dL_law_778 : decode cL_law 778 = .ok (.aload_n 2, 1) := by decide +kernel
theorem dL_law_779 : decode cL_law 779 = .ok (.aload_n 0, 1) := by decide +kernel
theorem dL_law_780 : decode cL_law 780 = .ok (.iload_n 3, 1) := by decide +kernel
theorem dL_law_781 : decode cL_law 781 = .ok (.iconst 1, 1) := by decide +kernel
theorem dL_law_782 : decode cL_law 782 = .ok (.iadd, 1) := by decide +kernel
theorem dL_law_783 : decode cL_law 783 = .ok (.iaload, 1) := by decide +kernel
theorem dL_law_784 : decode cL_law 784 = .ok (.aload_n 0, 1) := by decide +kernel
theorem dL_law_785 : decode cL_law 785 = .ok (.iload_n 3, 1) := by decide +kernel
theorem dL_law_786 : decode cL_law 786 = .ok (.iconst 2, 1) := by decide +kernel
theorem dL_law_787 : decode cL_law 787 = .ok (.iadd, 1) := by decide +kernel
theorem dL_law_788 : decode cL_law 788 = .ok (.iaload, 1) := by decide +kernel
theorem dL_law_789 : decode cL_law 789 = .ok (.invokevirtual 104, 3) := by decide +kernel
theorem dL_law_792 : decode cL_law 792 = .ok (.if_icmp .eq 242, 3) := by decide +kernel
theorem dL_law_795 : decode cL_law 795 = .ok (.iconst 0, 1) := by decide +kernel
theorem dL_law_796 : decode cL_law 796 = .ok (.ireturn, 1) := by decide +kernel
theorem dL_law_797 : decode cL_law 797 = .ok (.aload_n 1, 1) := by decide +kernel
theorem dL_law_798 : decode cL_law 798 = .ok (.aload_n 0, 1) := by decide +kernel
theorem dL_law_799 : decode cL_law 799 = .ok (.iload_n 3, 1) := by decide +kernel
theorem dL_law_800 : decode cL_law 800 = .ok (.iconst 1, 1) := by decide +kernel
theorem dL_law_801 : decode cL_law 801 = .ok (.iadd, 1) := by decide +kernel
theorem dL_law_802 : decode cL_law 802 = .ok (.iaload, 1) := by decide +kernel
theorem dL_law_803 : decode cL_law 803 = .ok (.invokevirtual 105, 3) := by decide +kernel
theorem dL_law_806 : decode cL_law 806 = .ok (.aload_n 2, 1) := by decide +kernel
theorem dL_law_807 : decode cL_law 807 = .ok (.aload_n 0, 1) := by decide +kernel
theorem dL_law_808 : decode cL_law 808 = .ok (.iload_n 3, 1) := by decide +kernel
theorem dL_law_809 : decode cL_law 809 = .ok (.iconst 1, 1) := by decide +kernel
theorem dL_law_810 : decode cL_law 810 = .ok (.iadd, 1) := by decide +kernel
theorem dL_law_811 : decode cL_law 811 = .ok (.iaload, 1) := by decide +kernel
theorem dL_law_812 : decode cL_law 812 = .ok (.invokevirtual 108, 3) := by decide +kernel
theorem dL_law_815 : decode cL_law 815 = .ok (.if_icmp .eq 219, 3) := by decide +kernel
theorem dL_law_818 : decode cL_law 818 = .ok (.iconst 0, 1) := by decide +kernel
theorem dL_law_819 : decode cL_law 819 = .ok (.ireturn, 1) := by decide +kernel
theorem dL_law_820 : decode cL_law 820 = .ok (.aload_n 1, 1) := by decide +kernel
theorem dL_law_821 : decode cL_law 821 = .ok (.aload_n 0, 1) := by decide +kernel
theorem dL_law_822 : decode cL_law 822 = .ok (.iload_n 3, 1) := by decide +kernel
theorem dL_law_823 : decode cL_law 823 = .ok (.iconst 1, 1) := by decide +kernel
theorem dL_law_824 : decode cL_law 824 = .ok (.iadd, 1) := by decide +kernel
theorem dL_law_825 : decode cL_law 825 = .ok (.iaload, 1) := by decide +kernel
theorem dL_law_826 : decode cL_law 826 = .ok (.invokevirtual 109, 3) := by decide +kernel
theorem dL_law_829 : decode cL_law 829 = .ok (.aload_n 2, 1) := by decide +kernel
theorem dL_law_830 : decode cL_law 830 = .ok (.aload_n 0, 1) := by decide +kernel
theorem dL_law_831 : decode cL_law 831 = .ok (.iload_n 3, 1) := by decide +kernel
theorem dL_law_832 : decode cL_law 832 = .ok (.iconst 1, 1) := by decide +kernel
theorem dL_law_833 : decode cL_law 833 = .ok (.iadd, 1) := by decide +kernel
theorem dL_law_834 : decode cL_law 834 = .ok (.iaload, 1) := by decide +kernel
theorem dL_law_835 : decode cL_law 835 = .ok (.invokevirtual 112, 3) := by decide +kernel
theorem dL_law_838 : decode cL_law 838 = .ok (.if_icmp .eq 196, 3) := by decide +kernel
theorem dL_law_841 : decode cL_law 841 = .ok (.iconst 0, 1) := by decide +kernel
theorem dL_law_842 : decode cL_law 842 = .ok (.ireturn, 1) := by decide +kernel
theorem dL_law_843 : decode cL_law 843 = .ok (.aload_n 1, 1) := by decide +kernel
theorem dL_law_844 : decode cL_law 844 = .ok (.aload_n 0, 1) := by decide +kernel
theorem dL_law_845 : decode cL_law 845 = .ok (.iload_n 3, 1) := by decide +kernel
theorem dL_law_846 : decode cL_law 846 = .ok (.iconst 1, 1) := by decide +kernel
theorem dL_law_847 : decode cL_law 847 = .ok (.iadd, 1) := by decide +kernel
theorem dL_law_848 : decode cL_law 848 = .ok (.iaload, 1) := by decide +kernel
theorem dL_law_849 : decode cL_law 849 = .ok (.aload_n 0, 1) := by decide +kernel
theorem dL_law_850 : decode cL_law 850 = .ok (.iload_n 3, 1) := by decide +kernel
theorem dL_law_851 : decode cL_law 851 = .ok (.iconst 2, 1) := by decide +kernel
theorem dL_law_852 : decode cL_law 852 = .ok (.iadd, 1) := by decide +kernel
theorem dL_law_853 : decode cL_law 853 = .ok (.iaload, 1) := by decide +kernel
theorem dL_law_854 : decode cL_law 854 = .ok (.invokevirtual 113, 3) := by decide +kernel
theorem dL_law_857 : decode cL_law 857 = .ok (.aload_n 2, 1) := by decide +kernel
theorem dL_law_858 : decode cL_law 858 = .ok (.aload_n 0, 1) := by decide +kernel
theorem dL_law_859 : decode cL_law 859 = .ok (.iload_n 3, 1) := by decide +kernel
theorem dL_law_860 : decode cL_law 860 = .ok (.iconst 1, 1) := by decide +kernel
theorem dL_law_861 : decode cL_law 861 = .ok (.iadd, 1) := by decide +kernel
theorem dL_law_862 : decode cL_law 862 = .ok (.iaload, 1) := by decide +kernel
theorem dL_law_863 : decode cL_law 863 = .ok (.aload_n 0, 1) := by decide +kernel
theorem dL_law_864 : decode cL_law 864 = .ok (.iload_n 3, 1) := by decide +kernel
theorem dL_law_865 : decode cL_law 865 = .ok (.iconst 2, 1) := by decide +kernel
theorem dL_law_866 : decode cL_law 866 = .ok (.iadd, 1) := by decide +kernel
theorem dL_law_867 : decode cL_law 867 = .ok (.iaload, 1) := by decide +kernel
theorem dL_law_868 : decode cL_law 868 = .ok (.invokevirtual 116, 3) := by decide +kernel
theorem dL_law_871 : decode cL_law 871 = .ok (.if_icmp .eq 163, 3) := by decide +kernel
theorem dL_law_874 : decode cL_law 874 = .ok (.iconst 0, 1) := by decide +kernel
theorem dL_law_875 : decode cL_law 875 = .ok (.ireturn, 1) := by decide +kernel
theorem dL_law_876 : decode cL_law 876 = .ok (.aload_n 1, 1) := by decide +kernel
theorem dL_law_877 : decode cL_law 877 = .ok (.aload_n 0, 1) := by decide +kernel
theorem dL_law_878 : decode cL_law 878 = .ok (.iload_n 3, 1) := by decide +kernel
theorem dL_law_879 : decode cL_law 879 = .ok (.iconst 1, 1) := by decide +kernel
theorem dL_law_880 : decode cL_law 880 = .ok (.iadd, 1) := by decide +kernel
theorem dL_law_881 : decode cL_law 881 = .ok (.iaload, 1) := by decide +kernel
theorem dL_law_882 : decode cL_law 882 = .ok (.aload_n 0, 1) := by decide +kernel
theorem dL_law_883 : decode cL_law 883 = .ok (.iload_n 3, 1) := by decide +kernel
theorem dL_law_884 : decode cL_law 884 = .ok (.iconst 2, 1) := by decide +kernel
theorem dL_law_885 : decode cL_law 885 = .ok (.iadd, 1) := by decide +kernel
theorem dL_law_886 : decode cL_law 886 = .ok (.iaload, 1) := by decide +kernel
theorem dL_law_887 : decode cL_law 887 = .ok (.invokevirtual 117, 3) := by decide +kernel
theorem dL_law_890 : decode cL_law 890 = .ok (.aload_n 2, 1) := by decide +kernel
theorem dL_law_891 : decode cL_law 891 = .ok (.aload_n 0, 1) := by decide +kernel
theorem dL_law_892 : decode cL_law 892 = .ok (.iload_n 3, 1) := by decide +kernel
theorem dL_law_893 : decode cL_law 893 = .ok (.iconst 1, 1) := by decide +kernel
theorem dL_law_894 : decode cL_law 894 = .ok (.iadd, 1) := by decide +kernel
theorem dL_law_895 : decode cL_law 895 = .ok (.iaload, 1) := by decide +kernel
theorem dL_law_896 : decode cL_law 896 = .ok (.aload_n 0, 1) := by decide +kernel
theorem dL_law_897 : decode cL_law 897 = .ok (.iload_n 3, 1) := by decide +kernel
theorem dL_law_898 : decode cL_law 898 = .ok (.iconst 2, 1) := by decide +kernel
theorem dL_law_899 : decode cL_law 899 = .ok (.iadd, 1) := by decide +kernel
theorem dL_law_900 : decode cL_law 900 = .ok (.iaload, 1) := by decide +kernel
theorem dL_law_901 : decode cL_law 901 = .ok (.invokevirtual 120, 3) := by decide +kernel
theorem dL_law_904 : decode cL_law 904 = .ok (.if_icmp .eq 130, 3) := by decide +kernel
theorem dL_law_907 : decode cL_law 907 = .ok (.iconst 0, 1) := by decide +kernel
theorem dL_law_908 : decode cL_law 908 = .ok (.ireturn, 1) := by decide +kernel
theorem dL_law_909 : decode cL_law 909 = .ok (.aload_n 1, 1) := by decide +kernel
theorem dL_law_910 : decode cL_law 910 = .ok (.aload_n 0, 1) := by decide +kernel
theorem dL_law_911 : decode cL_law 911 = .ok (.iload_n 3, 1) := by decide +kernel
theorem dL_law_912 : decode cL_law 912 = .ok (.iconst 1, 1) := by decide +kernel
theorem dL_law_913 : decode cL_law 913 = .ok (.iadd, 1) := by decide +kernel
theorem dL_law_914 : decode cL_law 914 = .ok (.iaload, 1) := by decide +kernel
theorem dL_law_915 : decode cL_law 915 = .ok (.aload_n 0, 1) := by decide +kernel
theorem dL_law_916 : decode cL_law 916 = .ok (.iload_n 3, 1) := by decide +kernel
theorem dL_law_917 : decode cL_law 917 = .ok (.iconst 2, 1) := by decide +kernel
theorem dL_law_918 : decode cL_law 918 = .ok (.iadd, 1) := by decide +kernel
theorem dL_law_919 : decode cL_law 919 = .ok (.iaload, 1) := by decide +kernel
theorem dL_law_920 : decode cL_law 920 = .ok (.invokevirtual 121, 3) := by decide +kernel
theorem dL_law_923 : decode cL_law 923 = .ok (.aload_n 2, 1) := by decide +kernel
theorem dL_law_924 : decode cL_law 924 = .ok (.aload_n 0, 1) := by decide +kernel
theorem dL_law_925 : decode cL_law 925 = .ok (.iload_n 3, 1) := by decide +kernel
theorem dL_law_926 : decode cL_law 926 = .ok (.iconst 1, 1) := by decide +kernel
theorem dL_law_927 : decode cL_law 927 = .ok (.iadd, 1) := by decide +kernel
theorem dL_law_928 : decode cL_law 928 = .ok (.iaload, 1) := by decide +kernel
theorem dL_law_929 : decode cL_law 929 = .ok (.aload_n 0, 1) := by decide +kernel
theorem dL_law_930 : decode cL_law 930 = .ok (.iload_n 3, 1) := by decide +kernel
theorem dL_law_931 : decode cL_law 931 = .ok (.iconst 2, 1) := by decide +kernel
theorem dL_law_932 : decode cL_law 932 = .ok (.iadd, 1) := by decide +kernel
theorem dL_law_933 : decode cL_law 933 = .ok (.iaload, 1) := by decide +kernel
theorem dL_law_934 : decode cL_law 934 = .ok (.invokevirtual 124, 3) := by decide +kernel
theorem dL_law_937 : decode cL_law 937 = .ok (.if_icmp .eq 97, 3) := by decide +kernel
theorem dL_law_940 : decode cL_law 940 = .ok (.iconst 0, 1) := by decide +kernel
theorem dL_law_941 : decode cL_law 941 = .ok (.ireturn, 1) := by decide +kernel
theorem dL_law_942 : decode cL_law 942 = .ok (.aload_n 1, 1) := by decide +kernel
theorem dL_law_943 : decode cL_law 943 = .ok (.aload_n 0, 1) := by decide +kernel
theorem dL_law_944 : decode cL_law 944 = .ok (.iload_n 3, 1) := by decide +kernel
theorem dL_law_945 : decode cL_law 945 = .ok (.iconst 1, 1) := by decide +kernel
theorem dL_law_946 : decode cL_law 946 = .ok (.iadd, 1) := by decide +kernel
theorem dL_law_947 : decode cL_law 947 = .ok (.iaload, 1) := by decide +kernel
theorem dL_law_948 : decode cL_law 948 = .ok (.invokevirtual 125, 3) := by decide +kernel
theorem dL_law_951 : decode cL_law 951 = .ok (.aload_n 2, 1) := by decide +kernel
theorem dL_law_952 : decode cL_law 952 = .ok (.aload_n 0, 1) := by decide +kernel
theorem dL_law_953 : decode cL_law 953 = .ok (.iload_n 3, 1) := by decide +kernel
theorem dL_law_954 : decode cL_law 954 = .ok (.iconst 1, 1) := by decide +kernel
theorem dL_law_955 : decode cL_law 955 = .ok (.iadd, 1) := by decide +kernel
theorem dL_law_956 : decode cL_law 956 = .ok (.iaload, 1) := by decide +kernel
theorem dL_law_957 : decode cL_law 957 = .ok (.invokevirtual 128, 3) := by decide +kernel
theorem dL_law_960 : decode cL_law 960 = .ok (.if_icmp .eq 74, 3) := by decide +kernel
theorem dL_law_963 : decode cL_law 963 = .ok (.iconst 0, 1) := by decide +kernel
theorem dL_law_964 : decode cL_law 964 = .ok (.ireturn, 1) := by decide +kernel
theorem dL_law_965 : decode cL_law 965 = .ok (.aload_n 1, 1) := by decide +kernel
theorem dL_law_966 : decode cL_law 966 = .ok (.aload_n 0, 1) := by decide +kernel
theorem dL_law_967 : decode cL_law 967 = .ok (.iload_n 3, 1) := by decide +kernel
theorem dL_law_968 : decode cL_law 968 = .ok (.iconst 1, 1) := by decide +kernel
theorem dL_law_969 : decode cL_law 969 = .ok (.iadd, 1) := by decide +kernel
theorem dL_law_970 : decode cL_law 970 = .ok (.iaload, 1) := by decide +kernel
theorem dL_law_971 : decode cL_law 971 = .ok (.invokevirtual 129, 3) := by decide +kernel
theorem dL_law_974 : decode cL_law 974 = .ok (.aload_n 2, 1) := by decide +kernel
theorem dL_law_975 : decode cL_law 975 = .ok (.aload_n 0, 1) := by decide +kernel
theorem dL_law_976 : decode cL_law 976 = .ok (.iload_n 3, 1) := by decide +kernel
theorem dL_law_977 : decode cL_law 977 = .ok (.iconst 1, 1) := by decide +kernel
theorem dL_law_978 : decode cL_law 978 = .ok (.iadd, 1) := by decide +kernel
theorem dL_law_979 : decode cL_law 979 = .ok (.iaload, 1) := by decide +kernel
theorem dL_law_980 : decode cL_law 980 = .ok (.invokevirtual 132, 3) := by decide +kernel
theorem dL_law_983 : decode cL_law 983 = .ok (.if_icmp .eq 51, 3) := by decide +kernel
theorem dL_law_986 : decode cL_law 986 = .ok (.iconst 0, 1) := by decide +kernel
theorem dL_law_987 : decode cL_law 987 = .ok (.ireturn, 1) := by decide +kernel
theorem dL_law_988 : decode cL_law 988 = .ok (.aload_n 1, 1) := by decide +kernel
theorem dL_law_989 : decode cL_law 989 = .ok (.aload_n 0, 1) := by decide +kernel
theorem dL_law_990 : decode cL_law 990 = .ok (.iload_n 3, 1) := by decide +kernel
theorem dL_law_991 : decode cL_law 991 = .ok (.iconst 1, 1) := by decide +kernel
theorem dL_law_992 : decode cL_law 992 = .ok (.iadd, 1) := by decide +kernel
theorem dL_law_993 : decode cL_law 993 = .ok (.iaload, 1) := by decide +kernel
theorem dL_law_994 : decode cL_law 994 = .ok (.invokevirtual 133, 3) := by decide +kernel
theorem dL_law_997 : decode cL_law 997 = .ok (.aload_n 2, 1) := by decide +kernel
theorem dL_law_998 : decode cL_law 998 = .ok (.aload_n 0, 1) := by decide +kernel
theorem dL_law_999 : decode cL_law 999 = .ok (.iload_n 3, 1) := by decide +kernel
theorem dL_law_1000 : decode cL_law 1000 = .ok (.iconst 1, 1) := by decide +kernel
theorem dL_law_1001 : decode cL_law 1001 = .ok (.iadd, 1) := by decide +kernel
theorem dL_law_1002 : decode cL_law 1002 = .ok (.iaload, 1) := by decide +kernel
theorem dL_law_1003 : decode cL_law 1003 = .ok (.invokevirtual 136, 3) := by decide +kernel
theorem dL_law_1006 : decode cL_law 1006 = .ok (.if_icmp .eq 28, 3) := by decide +kernel
theorem dL_law_1009 : decode cL_law 1009 = .ok (.iconst 0, 1) := by decide +kernel
theorem dL_law_1010 : decode cL_law 1010 = .ok (.ireturn, 1) := by decide +kernel
theorem dL_law_1011 : decode cL_law 1011 = .ok (.aload_n 1, 1) := by decide +kernel
theorem dL_law_1012 : decode cL_law 1012 = .ok (.aload_n 0, 1) := by decide +kernel
theorem dL_law_1013 : decode cL_law 1013 = .ok (.iload_n 3, 1) := by decide +kernel
theorem dL_law_1014 : decode cL_law 1014 = .ok (.iconst 1, 1) := by decide +kernel
theorem dL_law_1015 : decode cL_law 1015 = .ok (.iadd, 1) := by decide +kernel
theorem dL_law_1016 : decode cL_law 1016 = .ok (.iaload, 1) := by decide +kernel
theorem dL_law_1017 : decode cL_law 1017 = .ok (.invokevirtual 137, 3) := by decide +kernel
theorem dL_law_1020 : decode cL_law 1020 = .ok (.aload_n 2, 1) := by decide +kernel
theorem dL_law_1021 : decode cL_law 1021 = .ok (.aload_n 0, 1) := by decide +kernel
theorem dL_law_1022 : decode cL_law 1022 = .ok (.iload_n 3, 1) := by decide +kernel
theorem dL_law_1023 : decode cL_law 1023 = .ok (.iconst 1, 1) := by decide +kernel
theorem dL_law_1024 : decode cL_law 1024 = .ok (.iadd, 1) := by decide +kernel
theorem dL_law_1025 : decode cL_law 1025 = .ok (.iaload, 1) := by decide +kernel
theorem dL_law_1026 : decode cL_law 1026 = .ok (.invokevirtual 140, 3) := by decide +kernel
theorem dL_law_1029 : decode cL_law 1029 = .ok (.if_icmp .eq 5, 3) := by decide +kernel
theorem dL_law_1032 : decode cL_law 1032 = .ok (.iconst 0, 1) := by decide +kernel
theorem dL_law_1033 : decode cL_law 1033 = .ok (.ireturn, 1) := by decide +kernel
theorem dL_law_1034 : decode cL_law 1034 = .ok (.iinc 3 4, 3) := by decide +kernel
theorem dL_law_1037 : decode cL_law 1037 = .ok (.goto (-1019), 3) := by decide +kernel
theorem dL_law_1040 : decode cL_law 1040 = .ok (.iconst 1, 1) := by decide +kernel
theorem dL_law_1041 : decode cL_law 1041 = .ok (.ireturn, 1) := by decide +kernel

section XLAW
variable {p : Program} {l : Launch} {e : Env} {R : Room} {s : State} {m : MethodId} {args : Array Value} {below : List Frame} {meth : Method} {c : Code} {Q : State → Prop}
variable {cc : ByteArray} {own : String} {nL : Nat} {z : Nat} {D : va_G} {cA : Nat → ClassId} {M : Mem} {k n pc : Nat} {L L' : List (Nat × Value)} {st : List Value}
theorem x_sald (E : xE own cc nL D cA p s m args c) {b Ln : Nat} {xs : Nat → Int32} (hX : va_X b Ln xs s s.heap) (hbl : b < s.heap.size) (hbA : ¬ xA z b) {i : Int32} (hi : vp_in i Ln) (hdg : decode cc pc = .ok (.iaload, 1))
    (kk : xG p l e R s m args below meth c Q nL z D cA M k n (pc + 1) L (.int (xs i.toNatClampNeg) :: st)) : xG p l e R s m args below meth c Q nL z D cA M k n pc L (.int i :: .ref b :: st) := fun H locs ls hw hs hl => va_sld E.1 E.2.1 hX hbl hbA hs hi hdg (kk H locs ls hw hs hl)
theorem x_slen (E : xE own cc nL D cA p s m args c) {b Ln : Nat} {xs : Nat → Int32} (hX : va_X b Ln xs s s.heap) (hbl : b < s.heap.size) (hbA : ¬ xA z b) (hdg : decode cc pc = .ok (.arraylength, 1))
    (kk : xG p l e R s m args below meth c Q nL z D cA M k n (pc + 1) L (.int (Int32.ofNat Ln) :: st)) : xG p l e R s m args below meth c Q nL z D cA M k n pc L (.ref b :: st) := fun H locs ls hw hs hl => va_slen E.1 E.2.1 hX hbl hbA hs hdg (kk H locs ls hw hs hl)
theorem x_lawret {b : Nat} (E : xE own code nL D cA p s m #[Value.ref b] c) (hr : meth.sig.returnType = ret) (hlk : meth.locks = false) (hz : s.heap.size ≤ z) (hdg : decode code pc = .ok (.ireturn, 1)) (h1 : k ≤ 600000) (h2 : n ≤ 7302250) :
    xG p l e room_1 s m #[Value.ref b] below meth c (lw_Z below #[Value.ref b] s) nL z D cA M k n pc L [.int 1] := fun H locs ls hw hs hl =>
  W.widen h1 h2 (va_forget (fun q hq => Nat.le_trans hz (hs.2.2 q hq)) (lw_ret E.1 E.2.1 hr hlk hdg))
end XLAW
theorem x_env {p : Program} {s : State} {m : MethodId} {meth : Method} {c : Code} {b L : Nat} {xs : Nat → Int32} (C0 : lw_At p s m meth c b L xs) : ∃ D cA, xE RL code 4 D cA p s m #[Value.ref b] c := by
  obtain ⟨hx, hb, hr, hml, hown, hts, hX, hbl, hlocks, hgv⟩ := C0
  have htt : ∀ w ∈ tables_1, w.before #[Value.ref b] s = true := fun w h => hts w (List.mem_append_right _ h)
  have hg : ∀ w ∈ gtbl, w.before #[Value.ref b] s = true := fun w h => hts w (List.mem_filter.mp h).1
  have hN : xN s := by
    refine ⟨fun w hw => ?_, va_AO.of (htt _ (List.mem_of_getElem? (i := 47) (by decide +kernel)))⟩
    have h1 := htt w (List.mem_filter.mp hw).1
    have h2 := (List.mem_filter.mp hw).2
    cases w <;> first | exact va_Nw.of rfl h1 | (simp [isNest] at h2)
  obtain ⟨d0, i0, h0⟩ := u_known (C := RX0) (T := TX0) (N := 12) (n := 12) hg uiX0 (hg _ (gw 48 (by decide +kernel) rfl))
  obtain ⟨d1, i1, h1⟩ := u_known (C := RX1) (T := TX1) (N := 2) (n := 2) hg uiX1 (hg _ (gw 24 (by decide +kernel) rfl))
  obtain ⟨d2, i2, h2⟩ := u_known (C := RX2) (T := TX2) (N := 4) (n := 4) hg uiX2 (hg _ (gw 41 (by decide +kernel) rfl))
  obtain ⟨d3, i3, h3⟩ := u_known (C := RX3) (T := TX3) (N := 1) (n := 1) hg uiX3 (hg _ (gw 167 (by decide +kernel) rfl))
  obtain ⟨d4, i4, h4⟩ := u_known (C := RX4) (T := TX4) (N := 4) (n := 4) hg uiX4 (hg _ (gw 200 (by decide +kernel) rfl))
  obtain ⟨d5, i5, h5⟩ := u_known (C := RX5) (T := TX5) (N := 8) (n := 8) hg uiX5 (hg _ (gw 282 (by decide +kernel) rfl))
  obtain ⟨d6, i6, h6⟩ := u_known (C := RX6) (T := TX6) (N := 3) (n := 3) hg uiX6 (hg _ (gw 136 (by decide +kernel) rfl))
  obtain ⟨d7, i7, h7⟩ := u_known (C := RX7) (T := TX7) (N := 5) (n := 5) hg uiX7 (hg _ (gw 178 (by decide +kernel) rfl))
  obtain ⟨d8, i8, h8⟩ := u_known (C := RX8) (T := TX8) (N := 1) (n := 1) hg uiX8 (hg _ (gw 123 (by decide +kernel) rfl))
  obtain ⟨d9, i9, h9⟩ := u_known (C := RX9) (T := TX9) (N := 1) (n := 1) hg uiX9 (hg _ (gw 157 (by decide +kernel) rfl))
  obtain ⟨d10, i10, h10⟩ := u_known (C := RX10) (T := TX10) (N := 13) (n := 13) hg uiX10 (hg _ (gw 16 (by decide +kernel) rfl))
  obtain ⟨d11, i11, h11⟩ := u_known (C := RX11) (T := TX11) (N := 32) (n := 32) hg uiX11 (hg _ (gw 860 (by decide +kernel) rfl))
  obtain ⟨D1, D2, hKc⟩ : ∃ (D1 : Nat → ClassId) (D2 : Nat → Nat → Nat), ∀ (k : Nat) (q : vw_C), vwCl[k]? = some q → u_Kn s q.1 q.2.1 q.2.2 (D1 k) (D2 k) := by
    refine ⟨fun k => ([d0, d1, d2, d3, d4, d5, d6, d7, d8, d9, d10, d11][k]?).getD 0, fun k => ([i0, i1, i2, i3, i4, i5, i6, i7, i8, i9, i10, i11][k]?).getD (fun _ => 0), ?_⟩
    intro k q hq
    match k, hq with
    | 0, hq => cases hq; exact h0
    | 1, hq => cases hq; exact h1
    | 2, hq => cases hq; exact h2
    | 3, hq => cases hq; exact h3
    | 4, hq => cases hq; exact h4
    | 5, hq => cases hq; exact h5
    | 6, hq => cases hq; exact h6
    | 7, hq => cases hq; exact h7
    | 8, hq => cases hq; exact h8
    | 9, hq => cases hq; exact h9
    | 10, hq => cases hq; exact h10
    | 11, hq => cases hq; exact h11
    | k + 12, hq => simp [vwCl] at hq
  have prim : ∀ ty : FieldType, (∀ C, ty ≠ .object C) → Cond.arrayClass ty ∈ tables_1 → ∃ cA, ArrOfT s cA ty ∧ va_RA s cA ty := by
    intro ty hty hw
    obtain ⟨cB, kB, comp, h1, h2, h3⟩ := Cond.arrayClass_spec (htt _ hw)
    refine ⟨cB, fun n z => ⟨fun k h => (by cases h), kB, h2, comp, h3⟩, ?_⟩
    cases ty <;> first | exact h1 | exact absurd rfl (hty _)
  obtain ⟨c0, a0, r0⟩ := prim .int (fun _ h => by cases h) (List.mem_of_getElem? (i := 39) (by decide +kernel))
  obtain ⟨c1, a1, r1⟩ := prim .boolean (fun _ h => by cases h) (List.mem_of_getElem? (i := 962) (by decide +kernel))
  obtain ⟨comp, c2, k2, g1, g2, g3, g4, g5⟩ := Cond.arrayOver_spec hN.2
  refine ⟨(D1, D2), fun k => if k = 0 then c0 else if k = 1 then c1 else c2, hx, hb, hml, hown, hg, ⟨hKc, ?_⟩, hN⟩
  intro k q hq
  match k, hq with
  | 0, hq => cases hq; exact ⟨a0, r0⟩
  | 1, hq => cases hq; exact ⟨a1, r1⟩
  | 2, hq => cases hq; exact ⟨fun n z => ⟨fun k h => (by cases h), k2, g3, comp, g4⟩, k2, comp, g3, g4, g1, g5⟩
  | k + 3, hq => simp at hq
set_option maxHeartbeats 8000000 in
set_option maxRecDepth 100000 in
theorem law_walk {p : Program} {e : Env} {s : State} {m : MethodId} {below : List Frame} {meth : Method} {c : Code} (l : Launch) {b Ln z : Nat} {xs : Nat → Int32} {D : va_G} {cA : Nat → ClassId} (hX : va_X b Ln xs s s.heap) (hbl : b < s.heap.size) (hz : s.heap.size ≤ z) (E : xE RL code 4 D cA p s m #[Value.ref b] c) (hr : meth.sig.returnType = ret) (hlk : meth.locks = false) (M : Mem) (K : Int32 → Prop) (h : PL_law xs Ln b M K) :
    xG p l e room_1 s m #[Value.ref b] below meth c (lw_Z below #[Value.ref b] s) 4 z D cA M 0 0 0 [(0, .ref b)] [] := by
  have hbA : ¬ xA z b := Nat.not_le.mpr (Nat.lt_of_lt_of_le hbl hz)
  refine x_new (ty := tyX10) E (C := RX10) (T := TX10) (N := 13) (t := 11) rfl ⟨by decide, by decide⟩ uiX10 tyX10_ok (gw 15 (by decide +kernel) rfl) (gw 16 (by decide +kernel) rfl) (gw 1 (by decide +kernel) rfl) (Nat.le_of_ble_eq_true rfl) (Nat.le_of_ble_eq_true rfl) dL_law_0 (fun q1 M2 eq1 eM2 => ?_)
  replace h := h q1 M2 eq1 eM2
  clear eq1 eM2
  refine x_dup E dL_law_3 rfl ?_
  refine x_callI (As := []) E mlL_9 inX10_init rfl (kX10_init l z D cA q1 M2 _ h) rfl ⟨rfl, rfl⟩ ⟨Nat.le_of_ble_eq_true rfl, Nat.le_of_ble_eq_true rfl⟩ ⟨(Nat.le_of_ble_eq_true rfl), (Nat.le_of_ble_eq_true rfl)⟩ (Nat.le_of_ble_eq_true rfl) rfl dL_law_4 (fun M4 h => ?_)
  refine x_astore_n (L' := [(1, .ref q1), (0, .ref b)]) E dL_law_7 rfl (by decide) rfl ?_
  refine x_new (ty := tyX11) E (C := RX11) (T := TX11) (N := 32) (t := 12) rfl ⟨by decide, by decide⟩ uiX11 tyX11_ok (gw 859 (by decide +kernel) rfl) (gw 860 (by decide +kernel) rfl) (gw 12 (by decide +kernel) rfl) (Nat.le_of_ble_eq_true rfl) (Nat.le_of_ble_eq_true rfl) dL_law_8 (fun q5 M6 eq5 eM6 => ?_)
  replace h := h q5 M6 eq5 eM6
  clear eq5 eM6
  refine x_dup E dL_law_11 rfl ?_
  refine x_callI (As := []) E mlL_12 inX11_init rfl (kX11_init l z D cA q5 M6 _ h) rfl ⟨rfl, rfl⟩ ⟨Nat.le_of_ble_eq_true rfl, Nat.le_of_ble_eq_true rfl⟩ ⟨(Nat.le_of_ble_eq_true rfl), (Nat.le_of_ble_eq_true rfl)⟩ (Nat.le_of_ble_eq_true rfl) rfl dL_law_12 (fun M8 h => ?_)
  refine x_astore_n (L' := [(2, .ref q5), (1, .ref q1), (0, .ref b)]) E dL_law_15 rfl (by decide) rfl ?_
  refine x_iconst (v := (J 0)) E dL_law_16 (by decide) ?_
  refine x_istore_n (L' := [(3, .int (J 0)), (2, .ref q5), (1, .ref q1), (0, .ref b)]) E dL_law_17 rfl (by decide) rfl ?_
  refine x_sub (L' := [(0, .ref b), (1, .ref q1), (2, .ref q5), (3, .int (J 0))]) [3, 2, 1, 0] rfl ?_
  refine lp_sound (T := fun sv => xG p l e room_1 s m #[Value.ref b] below meth c (lw_Z below #[Value.ref b] s) 4 z D cA sv.1 (sv.2.1) (sv.2.2.1) 18 [(0, .ref b), (1, .ref q1), (2, .ref q5), (3, .int sv.2.2.2)] []) ?_ (M8, 0 + 1 + 127 + 1 + 20, 0 + 13 + 29784 + 32 + 13000, (J 0)) h
  clear h
  intro kc18 hk18 sv h
  obtain ⟨M, ck, cn, x3⟩ := sv
  replace h : CL_law_18 xs Ln b K q1 q5 kc18 M ck cn x3 := h
  try dsimp only
  have hJ756 : ∀ (M : Mem) (ck cn : Nat) (j3 : Int32) (s0 : Int32) (s1 : Int32) (s2 : Int32) (s3 : Nat) (s4 : Int32), JL_law_756 xs Ln b K kc18 M ck cn q1 q5 j3 s0 s1 s2 s3 s4 → xG p l e room_1 s m #[Value.ref b] below meth c (lw_Z below #[Value.ref b] s) 4 z D cA M (ck) (cn) 756 [(0, .ref b), (1, .ref q1), (2, .ref q5), (3, .int j3)] [.int s0, .int s1, .int s2, .ref s3, .int s4] := by
    intro M ck cn j3 s0 s1 s2 s3 s4 h
    obtain ⟨hc, h⟩ := h
    refine x_callVi (T := TX11) (N := 32) (t := 12) (As := [.int s2, .int s1, .int s0]) E mlL_100 inX11_make seX11_make rfl ⟨by decide, by decide⟩ (tX11_make h) (kX11_make l z D cA s3 s2 s1 s0 M _ h) rfl ⟨rfl, rfl⟩ ⟨Nat.le_of_ble_eq_true rfl, Nat.le_of_ble_eq_true rfl⟩ ⟨hc.1, hc.2⟩ (Nat.le_of_ble_eq_true rfl) rfl dL_law_756 (fun r191 M192 h => ?_)
    clear hc
    refine x_icmp_eq (tgt := 1034) E dL_law_759 (by decide) (fun c193 => ?_) (fun c193 => ?_)
    · replace h := xbr_t h c193
      clear c193
      refine x_iinc (v := (j3 + (J 4))) (L' := [(3, .int (j3 + (J 4))), (0, .ref b), (1, .ref q1), (2, .ref q5)]) E dL_law_1034 3 rfl rfl (by decide) rfl ?_
      refine x_goto (tgt := 18) E dL_law_1037 (by decide) ?_
      refine x_sub (L' := [(0, .ref b), (1, .ref q1), (2, .ref q5), (3, .int (j3 + (J 4)))]) [1, 2, 3, 0] rfl ?_
      exact hk18 (M192, ck, cn, (j3 + (J 4))) h
    · replace h := xbr_f h c193
      clear c193
      refine x_iconst (v := (J 0)) E dL_law_762 (by decide) ?_
      exact h.elim
  have hJ729 : ∀ (M : Mem) (ck cn : Nat) (j3 : Int32) (s0 : Int32) (s1 : Int32) (s2 : Int32) (s3 : Nat), JL_law_729 xs Ln b K kc18 M ck cn q1 q5 j3 s0 s1 s2 s3 → xG p l e room_1 s m #[Value.ref b] below meth c (lw_Z below #[Value.ref b] s) 4 z D cA M (ck) (cn) 729 [(0, .ref b), (1, .ref q1), (2, .ref q5), (3, .int j3)] [.int s0, .int s1, .int s2, .ref s3] := by
    intro M ck cn j3 s0 s1 s2 s3 h
    obtain ⟨hc, h⟩ := h
    refine x_callVi (T := TX10) (N := 13) (t := 11) (As := [.int s2, .int s1, .int s0]) E mlL_96 inX10_make seX10_make rfl ⟨by decide, by decide⟩ (tX10_make h) (kX10_make l z D cA s3 s2 s1 s0 M _ h) rfl ⟨rfl, rfl⟩ ⟨Nat.le_of_ble_eq_true rfl, Nat.le_of_ble_eq_true rfl⟩ ⟨hc.1, hc.2⟩ (Nat.le_of_ble_eq_true rfl) rfl dL_law_729 (fun r185 M186 h => ?_)
    clear hc
    refine x_aload_n E dL_law_732 rfl 2 rfl ?_
    refine x_aload_n E dL_law_733 rfl 0 rfl ?_
    refine x_iload_n E dL_law_734 rfl 3 rfl ?_
    refine x_iconst (v := (J 1)) E dL_law_735 (by decide) ?_
    refine x_iadd E dL_law_736 ?_
    obtain ⟨hi, h⟩ := h
    refine x_sald E hX hbl hbA hi dL_law_737 ?_
    obtain ⟨v187, ev187⟩ : ∃ v187, v187 = xs ((j3 + (J 1))).toNatClampNeg := ⟨_, rfl⟩
    replace h := h v187 ev187
    refine x_top (v := .int v187) (congrArg _ ev187) ?_
    clear ev187 hi
    refine x_aload_n E dL_law_738 rfl 0 rfl ?_
    refine x_iload_n E dL_law_739 rfl 3 rfl ?_
    refine x_iconst (v := (J 2)) E dL_law_740 (by decide) ?_
    refine x_iadd E dL_law_741 ?_
    obtain ⟨hi, h⟩ := h
    refine x_sald E hX hbl hbA hi dL_law_742 ?_
    obtain ⟨v188, ev188⟩ : ∃ v188, v188 = xs ((j3 + (J 2))).toNatClampNeg := ⟨_, rfl⟩
    replace h := h v188 ev188
    refine x_top (v := .int v188) (congrArg _ ev188) ?_
    clear ev188 hi
    refine x_aload_n E dL_law_743 rfl 0 rfl ?_
    refine x_iload_n E dL_law_744 rfl 3 rfl ?_
    refine x_iconst (v := (J 3)) E dL_law_745 (by decide) ?_
    refine x_iadd E dL_law_746 ?_
    obtain ⟨hi, h⟩ := h
    refine x_sald E hX hbl hbA hi dL_law_747 ?_
    obtain ⟨v189, ev189⟩ : ∃ v189, v189 = xs ((j3 + (J 3))).toNatClampNeg := ⟨_, rfl⟩
    replace h := h v189 ev189
    refine x_top (v := .int v189) (congrArg _ ev189) ?_
    clear ev189 hi
    refine x_if_eq (tgt := 755) E dL_law_748 (by decide) (fun c190 => ?_) (fun c190 => ?_)
    · replace h := xbr_t h c190
      clear c190
      refine x_iconst (v := (J 0)) E dL_law_755 (by decide) ?_
      exact hJ756 M186 ck cn j3 (J 0) v188 v187 q5 r185 h
    · replace h := xbr_f h c190
      clear c190
      refine x_iconst (v := (J 1)) E dL_law_751 (by decide) ?_
      refine x_goto (tgt := 756) E dL_law_752 (by decide) ?_
      exact hJ756 M186 ck cn j3 (J 1) v188 v187 q5 r185 h
  refine x_iload_n E dL_law_18 rfl 3 rfl ?_
  refine x_aload_n E dL_law_19 rfl 0 rfl ?_
  refine x_slen E hX hbl hbA dL_law_20 ?_
  refine x_iconst (v := (J 4)) E dL_law_21 (by decide) ?_
  refine x_isub E dL_law_22 ?_
  refine x_icmp_gt (tgt := 1040) E dL_law_23 (by decide) (fun c9 => ?_) (fun c9 => ?_)
  · replace h := xbr_t h c9
    clear c9
    refine x_iconst (v := (J 1)) E dL_law_1040 (by decide) ?_
    exact x_lawret E hr hlk hz dL_law_1041 h.1 h.2
  · replace h := xbr_f h c9
    clear c9
    refine x_aload_n E dL_law_26 rfl 0 rfl ?_
    refine x_iload_n E dL_law_27 rfl 3 rfl ?_
    obtain ⟨hi, h⟩ := h
    refine x_sald E hX hbl hbA hi dL_law_28 ?_
    obtain ⟨v10, ev10⟩ : ∃ v10, v10 = xs (x3).toNatClampNeg := ⟨_, rfl⟩
    replace h := h v10 ev10
    refine x_top (v := .int v10) (congrArg _ ev10) ?_
    clear ev10 hi
    refine x_bipush (v := (J 31)) E dL_law_29 (by decide) ?_
    refine x_iand E dL_law_31 ?_
    obtain ⟨y11, ey11, h⟩ := h
    refine x_top (v := .int y11) (congrArg _ ey11) ?_
    clear ey11
    by_cases c12 : y11 = (J 0)
    · replace h := xbr_t h c12
      refine x_tableIn (off := 136) (tgt := 168) E dL_law_32 (by rw [c12]; decide) (by rw [c12]; decide) (by rw [c12]; decide) (by decide) ?_
      refine x_aload_n E dL_law_168 rfl 1 rfl ?_
      refine x_aload_n E dL_law_169 rfl 0 rfl ?_
      refine x_iload_n E dL_law_170 rfl 3 rfl ?_
      refine x_iconst (v := (J 1)) E dL_law_171 (by decide) ?_
      refine x_iadd E dL_law_172 ?_
      obtain ⟨hi, h⟩ := h
      refine x_sald E hX hbl hbA hi dL_law_173 ?_
      obtain ⟨v13, ev13⟩ : ∃ v13, v13 = xs ((x3 + (J 1))).toNatClampNeg := ⟨_, rfl⟩
      replace h := h v13 ev13
      refine x_top (v := .int v13) (congrArg _ ev13) ?_
      clear ev13 hi
      refine x_aload_n E dL_law_174 rfl 0 rfl ?_
      refine x_iload_n E dL_law_175 rfl 3 rfl ?_
      refine x_iconst (v := (J 2)) E dL_law_176 (by decide) ?_
      refine x_iadd E dL_law_177 ?_
      obtain ⟨hi, h⟩ := h
      refine x_sald E hX hbl hbA hi dL_law_178 ?_
      obtain ⟨v14, ev14⟩ : ∃ v14, v14 = xs ((x3 + (J 2))).toNatClampNeg := ⟨_, rfl⟩
      replace h := h v14 ev14
      refine x_top (v := .int v14) (congrArg _ ev14) ?_
      clear ev14 hi
      refine x_i2l E dL_law_179 ?_
      refine x_bipush (v := (J 32)) E dL_law_180 (by decide) ?_
      refine x_lshl E dL_law_182 ?_
      refine x_aload_n E dL_law_183 rfl 0 rfl ?_
      refine x_iload_n E dL_law_184 rfl 3 rfl ?_
      refine x_iconst (v := (J 3)) E dL_law_185 (by decide) ?_
      refine x_iadd E dL_law_186 ?_
      obtain ⟨hi, h⟩ := h
      refine x_sald E hX hbl hbA hi dL_law_187 ?_
      obtain ⟨v15, ev15⟩ : ∃ v15, v15 = xs ((x3 + (J 3))).toNatClampNeg := ⟨_, rfl⟩
      replace h := h v15 ev15
      refine x_top (v := .int v15) (congrArg _ ev15) ?_
      clear ev15 hi
      refine x_i2l E dL_law_188 ?_
      refine x_ldc2 (v := (LJ 4294967295)) E (gw 1328 (by decide +kernel) rfl) dL_law_189 ?_
      refine x_land E dL_law_192 ?_
      refine x_lor E dL_law_193 ?_
      obtain ⟨hc, h⟩ := h
      refine x_callVi (T := TX10) (N := 13) (t := 11) (As := [.int v13, .long ((v14.toInt64 <<< ((J 32).toInt64 &&& 63)) ||| (v15.toInt64 &&& (LJ 4294967295)))]) E mlL_15 inX10_feed seX10_feed rfl ⟨by decide, by decide⟩ (tX10_feed h) (kX10_feed l z D cA q1 v13 ((v14.toInt64 <<< ((J 32).toInt64 &&& 63)) ||| (v15.toInt64 &&& (LJ 4294967295))) M _ h) rfl ⟨rfl, rfl⟩ ⟨Nat.le_of_ble_eq_true rfl, Nat.le_of_ble_eq_true rfl⟩ ⟨hc.1, hc.2⟩ (Nat.le_of_ble_eq_true rfl) rfl dL_law_194 (fun r16 M17 h => ?_)
      clear hc
      refine x_aload_n E dL_law_197 rfl 2 rfl ?_
      refine x_aload_n E dL_law_198 rfl 0 rfl ?_
      refine x_iload_n E dL_law_199 rfl 3 rfl ?_
      refine x_iconst (v := (J 1)) E dL_law_200 (by decide) ?_
      refine x_iadd E dL_law_201 ?_
      obtain ⟨hi, h⟩ := h
      refine x_sald E hX hbl hbA hi dL_law_202 ?_
      obtain ⟨v18, ev18⟩ : ∃ v18, v18 = xs ((x3 + (J 1))).toNatClampNeg := ⟨_, rfl⟩
      replace h := h v18 ev18
      refine x_top (v := .int v18) (congrArg _ ev18) ?_
      clear ev18 hi
      refine x_aload_n E dL_law_203 rfl 0 rfl ?_
      refine x_iload_n E dL_law_204 rfl 3 rfl ?_
      refine x_iconst (v := (J 2)) E dL_law_205 (by decide) ?_
      refine x_iadd E dL_law_206 ?_
      obtain ⟨hi, h⟩ := h
      refine x_sald E hX hbl hbA hi dL_law_207 ?_
      obtain ⟨v19, ev19⟩ : ∃ v19, v19 = xs ((x3 + (J 2))).toNatClampNeg := ⟨_, rfl⟩
      replace h := h v19 ev19
      refine x_top (v := .int v19) (congrArg _ ev19) ?_
      clear ev19 hi
      refine x_i2l E dL_law_208 ?_
      refine x_bipush (v := (J 32)) E dL_law_209 (by decide) ?_
      refine x_lshl E dL_law_211 ?_
      refine x_aload_n E dL_law_212 rfl 0 rfl ?_
      refine x_iload_n E dL_law_213 rfl 3 rfl ?_
      refine x_iconst (v := (J 3)) E dL_law_214 (by decide) ?_
      refine x_iadd E dL_law_215 ?_
      obtain ⟨hi, h⟩ := h
      refine x_sald E hX hbl hbA hi dL_law_216 ?_
      obtain ⟨v20, ev20⟩ : ∃ v20, v20 = xs ((x3 + (J 3))).toNatClampNeg := ⟨_, rfl⟩
      replace h := h v20 ev20
      refine x_top (v := .int v20) (congrArg _ ev20) ?_
      clear ev20 hi
      refine x_i2l E dL_law_217 ?_
      refine x_ldc2 (v := (LJ 4294967295)) E (gw 1328 (by decide +kernel) rfl) dL_law_218 ?_
      refine x_land E dL_law_221 ?_
      refine x_lor E dL_law_222 ?_
      obtain ⟨hc, h⟩ := h
      refine x_callVi (T := TX11) (N := 32) (t := 12) (As := [.int v18, .long ((v19.toInt64 <<< ((J 32).toInt64 &&& 63)) ||| (v20.toInt64 &&& (LJ 4294967295)))]) E mlL_19 inX11_feed seX11_feed rfl ⟨by decide, by decide⟩ (tX11_feed h) (kX11_feed l z D cA q5 v18 ((v19.toInt64 <<< ((J 32).toInt64 &&& 63)) ||| (v20.toInt64 &&& (LJ 4294967295))) M17 _ h) rfl ⟨rfl, rfl⟩ ⟨Nat.le_of_ble_eq_true rfl, Nat.le_of_ble_eq_true rfl⟩ ⟨hc.1, hc.2⟩ (Nat.le_of_ble_eq_true rfl) rfl dL_law_223 (fun r21 M22 h => ?_)
      clear hc
      refine x_icmp_eq (tgt := 1034) E dL_law_226 (by decide) (fun c23 => ?_) (fun c23 => ?_)
      · replace h := xbr_t h c23
        clear c23
        refine x_iinc (v := (x3 + (J 4))) (L' := [(3, .int (x3 + (J 4))), (0, .ref b), (1, .ref q1), (2, .ref q5)]) E dL_law_1034 3 rfl rfl (by decide) rfl ?_
        refine x_goto (tgt := 18) E dL_law_1037 (by decide) ?_
        refine x_sub (L' := [(0, .ref b), (1, .ref q1), (2, .ref q5), (3, .int (x3 + (J 4)))]) [1, 2, 3, 0] rfl ?_
        exact hk18 (M22, ck, cn, (x3 + (J 4))) h
      · replace h := xbr_f h c23
        clear c23
        refine x_iconst (v := (J 0)) E dL_law_229 (by decide) ?_
        exact h.elim
    replace h := xbr_f h c12
    by_cases c24 : y11 = (J 1)
    · replace h := xbr_t h c24
      refine x_tableIn (off := 199) (tgt := 231) E dL_law_32 (by rw [c24]; decide) (by rw [c24]; decide) (by rw [c24]; decide) (by decide) ?_
      refine x_aload_n E dL_law_231 rfl 1 rfl ?_
      obtain ⟨hc, h⟩ := h
      refine x_callVi (T := TX10) (N := 13) (t := 11) (As := []) E mlL_20 inX10_books seX10_books rfl ⟨by decide, by decide⟩ (tX10_books h) (kX10_books l z D cA q1 M _ h) rfl ⟨rfl, rfl⟩ ⟨Nat.le_of_ble_eq_true rfl, Nat.le_of_ble_eq_true rfl⟩ ⟨hc.1, hc.2⟩ (Nat.le_of_ble_eq_true rfl) rfl dL_law_232 (fun r25 M26 h => ?_)
      clear hc
      refine x_aload_n E dL_law_235 rfl 2 rfl ?_
      obtain ⟨hc, h⟩ := h
      refine x_callVi (T := TX11) (N := 32) (t := 12) (As := []) E mlL_24 inX11_books seX11_books rfl ⟨by decide, by decide⟩ (tX11_books h) (kX11_books l z D cA q5 M26 _ h) rfl ⟨rfl, rfl⟩ ⟨Nat.le_of_ble_eq_true rfl, Nat.le_of_ble_eq_true rfl⟩ ⟨hc.1, hc.2⟩ (Nat.le_of_ble_eq_true rfl) rfl dL_law_236 (fun r27 M28 h => ?_)
      clear hc
      refine x_icmp_eq (tgt := 1034) E dL_law_239 (by decide) (fun c29 => ?_) (fun c29 => ?_)
      · replace h := xbr_t h c29
        clear c29
        refine x_iinc (v := (x3 + (J 4))) (L' := [(3, .int (x3 + (J 4))), (0, .ref b), (1, .ref q1), (2, .ref q5)]) E dL_law_1034 3 rfl rfl (by decide) rfl ?_
        refine x_goto (tgt := 18) E dL_law_1037 (by decide) ?_
        refine x_sub (L' := [(0, .ref b), (1, .ref q1), (2, .ref q5), (3, .int (x3 + (J 4)))]) [1, 2, 3, 0] rfl ?_
        exact hk18 (M28, ck + 1, cn + 8, (x3 + (J 4))) h
      · replace h := xbr_f h c29
        clear c29
        refine x_iconst (v := (J 0)) E dL_law_242 (by decide) ?_
        exact h.elim
    replace h := xbr_f h c24
    by_cases c30 : y11 = (J 2)
    · replace h := xbr_t h c30
      refine x_tableIn (off := 212) (tgt := 244) E dL_law_32 (by rw [c30]; decide) (by rw [c30]; decide) (by rw [c30]; decide) (by decide) ?_
      refine x_aload_n E dL_law_244 rfl 1 rfl ?_
      obtain ⟨hc, h⟩ := h
      refine x_callVi (T := TX10) (N := 13) (t := 11) (As := []) E mlL_25 inX10_fault seX10_fault rfl ⟨by decide, by decide⟩ (tX10_fault h) (kX10_fault l z D cA q1 M _ h) rfl ⟨rfl, rfl⟩ ⟨Nat.le_of_ble_eq_true rfl, Nat.le_of_ble_eq_true rfl⟩ ⟨hc.1, hc.2⟩ (Nat.le_of_ble_eq_true rfl) rfl dL_law_245 (x_pure (fun r31 h => ?_))
      clear hc
      refine x_aload_n E dL_law_248 rfl 2 rfl ?_
      obtain ⟨hc, h⟩ := h
      refine x_callVi (T := TX11) (N := 32) (t := 12) (As := []) E mlL_28 inX11_fault seX11_fault rfl ⟨by decide, by decide⟩ (tX11_fault h) (kX11_fault l z D cA q5 M _ h) rfl ⟨rfl, rfl⟩ ⟨Nat.le_of_ble_eq_true rfl, Nat.le_of_ble_eq_true rfl⟩ ⟨hc.1, hc.2⟩ (Nat.le_of_ble_eq_true rfl) rfl dL_law_249 (x_pure (fun r33 h => ?_))
      clear hc
      refine x_icmp_eq (tgt := 1034) E dL_law_252 (by decide) (fun c35 => ?_) (fun c35 => ?_)
      · replace h := xbr_t h c35
        clear c35
        refine x_iinc (v := (x3 + (J 4))) (L' := [(3, .int (x3 + (J 4))), (0, .ref b), (1, .ref q1), (2, .ref q5)]) E dL_law_1034 3 rfl rfl (by decide) rfl ?_
        refine x_goto (tgt := 18) E dL_law_1037 (by decide) ?_
        refine x_sub (L' := [(0, .ref b), (1, .ref q1), (2, .ref q5), (3, .int (x3 + (J 4)))]) [1, 2, 3, 0] rfl ?_
        exact hk18 (M, ck, cn, (x3 + (J 4))) h
      · replace h := xbr_f h c35
        clear c35
        refine x_iconst (v := (J 0)) E dL_law_255 (by decide) ?_
        exact h.elim
    replace h := xbr_f h c30
    by_cases c36 : y11 = (J 3)
    · replace h := xbr_t h c36
      refine x_tableIn (off := 225) (tgt := 257) E dL_law_32 (by rw [c36]; decide) (by rw [c36]; decide) (by rw [c36]; decide) (by decide) ?_
      refine x_aload_n E dL_law_257 rfl 1 rfl ?_
      refine x_aload_n E dL_law_258 rfl 0 rfl ?_
      refine x_iload_n E dL_law_259 rfl 3 rfl ?_
      refine x_iconst (v := (J 1)) E dL_law_260 (by decide) ?_
      refine x_iadd E dL_law_261 ?_
      obtain ⟨hi, h⟩ := h
      refine x_sald E hX hbl hbA hi dL_law_262 ?_
      obtain ⟨v37, ev37⟩ : ∃ v37, v37 = xs ((x3 + (J 1))).toNatClampNeg := ⟨_, rfl⟩
      replace h := h v37 ev37
      refine x_top (v := .int v37) (congrArg _ ev37) ?_
      clear ev37 hi
      refine x_aload_n E dL_law_263 rfl 0 rfl ?_
      refine x_iload_n E dL_law_264 rfl 3 rfl ?_
      refine x_iconst (v := (J 2)) E dL_law_265 (by decide) ?_
      refine x_iadd E dL_law_266 ?_
      obtain ⟨hi, h⟩ := h
      refine x_sald E hX hbl hbA hi dL_law_267 ?_
      obtain ⟨v38, ev38⟩ : ∃ v38, v38 = xs ((x3 + (J 2))).toNatClampNeg := ⟨_, rfl⟩
      replace h := h v38 ev38
      refine x_top (v := .int v38) (congrArg _ ev38) ?_
      clear ev38 hi
      obtain ⟨hc, h⟩ := h
      refine x_callVi (T := TX10) (N := 13) (t := 11) (As := [.int v37, .int v38]) E mlL_29 inX10_book seX10_book rfl ⟨by decide, by decide⟩ (tX10_book h) (kX10_book l z D cA q1 v37 v38 M _ h) rfl ⟨rfl, rfl⟩ ⟨Nat.le_of_ble_eq_true rfl, Nat.le_of_ble_eq_true rfl⟩ ⟨hc.1, hc.2⟩ (Nat.le_of_ble_eq_true rfl) rfl dL_law_268 (x_pure (fun r39 h => ?_))
      clear hc
      refine x_aload_n E dL_law_271 rfl 2 rfl ?_
      refine x_aload_n E dL_law_272 rfl 0 rfl ?_
      refine x_iload_n E dL_law_273 rfl 3 rfl ?_
      refine x_iconst (v := (J 1)) E dL_law_274 (by decide) ?_
      refine x_iadd E dL_law_275 ?_
      obtain ⟨hi, h⟩ := h
      refine x_sald E hX hbl hbA hi dL_law_276 ?_
      obtain ⟨v41, ev41⟩ : ∃ v41, v41 = xs ((x3 + (J 1))).toNatClampNeg := ⟨_, rfl⟩
      replace h := h v41 ev41
      refine x_top (v := .int v41) (congrArg _ ev41) ?_
      clear ev41 hi
      refine x_aload_n E dL_law_277 rfl 0 rfl ?_
      refine x_iload_n E dL_law_278 rfl 3 rfl ?_
      refine x_iconst (v := (J 2)) E dL_law_279 (by decide) ?_
      refine x_iadd E dL_law_280 ?_
      obtain ⟨hi, h⟩ := h
      refine x_sald E hX hbl hbA hi dL_law_281 ?_
      obtain ⟨v42, ev42⟩ : ∃ v42, v42 = xs ((x3 + (J 2))).toNatClampNeg := ⟨_, rfl⟩
      replace h := h v42 ev42
      refine x_top (v := .int v42) (congrArg _ ev42) ?_
      clear ev42 hi
      obtain ⟨hc, h⟩ := h
      refine x_callVi (T := TX11) (N := 32) (t := 12) (As := [.int v41, .int v42]) E mlL_33 inX11_book seX11_book rfl ⟨by decide, by decide⟩ (tX11_book h) (kX11_book l z D cA q5 v41 v42 M _ h) rfl ⟨rfl, rfl⟩ ⟨Nat.le_of_ble_eq_true rfl, Nat.le_of_ble_eq_true rfl⟩ ⟨hc.1, hc.2⟩ (Nat.le_of_ble_eq_true rfl) rfl dL_law_282 (x_pure (fun r43 h => ?_))
      clear hc
      refine x_icmp_eq (tgt := 1034) E dL_law_285 (by decide) (fun c45 => ?_) (fun c45 => ?_)
      · replace h := xbr_t h c45
        clear c45
        refine x_iinc (v := (x3 + (J 4))) (L' := [(3, .int (x3 + (J 4))), (0, .ref b), (1, .ref q1), (2, .ref q5)]) E dL_law_1034 3 rfl rfl (by decide) rfl ?_
        refine x_goto (tgt := 18) E dL_law_1037 (by decide) ?_
        refine x_sub (L' := [(0, .ref b), (1, .ref q1), (2, .ref q5), (3, .int (x3 + (J 4)))]) [1, 2, 3, 0] rfl ?_
        exact hk18 (M, ck, cn, (x3 + (J 4))) h
      · replace h := xbr_f h c45
        clear c45
        refine x_iconst (v := (J 0)) E dL_law_288 (by decide) ?_
        exact h.elim
    replace h := xbr_f h c36
    by_cases c46 : y11 = (J 4)
    · replace h := xbr_t h c46
      refine x_tableIn (off := 258) (tgt := 290) E dL_law_32 (by rw [c46]; decide) (by rw [c46]; decide) (by rw [c46]; decide) (by decide) ?_
      refine x_aload_n E dL_law_290 rfl 1 rfl ?_
      refine x_aload_n E dL_law_291 rfl 0 rfl ?_
      refine x_iload_n E dL_law_292 rfl 3 rfl ?_
      refine x_iconst (v := (J 1)) E dL_law_293 (by decide) ?_
      refine x_iadd E dL_law_294 ?_
      obtain ⟨hi, h⟩ := h
      refine x_sald E hX hbl hbA hi dL_law_295 ?_
      obtain ⟨v47, ev47⟩ : ∃ v47, v47 = xs ((x3 + (J 1))).toNatClampNeg := ⟨_, rfl⟩
      replace h := h v47 ev47
      refine x_top (v := .int v47) (congrArg _ ev47) ?_
      clear ev47 hi
      refine x_aload_n E dL_law_296 rfl 0 rfl ?_
      refine x_iload_n E dL_law_297 rfl 3 rfl ?_
      refine x_iconst (v := (J 2)) E dL_law_298 (by decide) ?_
      refine x_iadd E dL_law_299 ?_
      obtain ⟨hi, h⟩ := h
      refine x_sald E hX hbl hbA hi dL_law_300 ?_
      obtain ⟨v48, ev48⟩ : ∃ v48, v48 = xs ((x3 + (J 2))).toNatClampNeg := ⟨_, rfl⟩
      replace h := h v48 ev48
      refine x_top (v := .int v48) (congrArg _ ev48) ?_
      clear ev48 hi
      obtain ⟨hc, h⟩ := h
      refine x_callVi (T := TX10) (N := 13) (t := 11) (As := [.int v47, .int v48]) E mlL_34 inX10_mark seX10_mark rfl ⟨by decide, by decide⟩ (tX10_mark h) (kX10_mark l z D cA q1 v47 v48 M _ h) rfl ⟨rfl, rfl⟩ ⟨Nat.le_of_ble_eq_true rfl, Nat.le_of_ble_eq_true rfl⟩ ⟨hc.1, hc.2⟩ (Nat.le_of_ble_eq_true rfl) rfl dL_law_301 (x_pure (fun r49 h => ?_))
      clear hc
      refine x_aload_n E dL_law_304 rfl 2 rfl ?_
      refine x_aload_n E dL_law_305 rfl 0 rfl ?_
      refine x_iload_n E dL_law_306 rfl 3 rfl ?_
      refine x_iconst (v := (J 1)) E dL_law_307 (by decide) ?_
      refine x_iadd E dL_law_308 ?_
      obtain ⟨hi, h⟩ := h
      refine x_sald E hX hbl hbA hi dL_law_309 ?_
      obtain ⟨v51, ev51⟩ : ∃ v51, v51 = xs ((x3 + (J 1))).toNatClampNeg := ⟨_, rfl⟩
      replace h := h v51 ev51
      refine x_top (v := .int v51) (congrArg _ ev51) ?_
      clear ev51 hi
      refine x_aload_n E dL_law_310 rfl 0 rfl ?_
      refine x_iload_n E dL_law_311 rfl 3 rfl ?_
      refine x_iconst (v := (J 2)) E dL_law_312 (by decide) ?_
      refine x_iadd E dL_law_313 ?_
      obtain ⟨hi, h⟩ := h
      refine x_sald E hX hbl hbA hi dL_law_314 ?_
      obtain ⟨v52, ev52⟩ : ∃ v52, v52 = xs ((x3 + (J 2))).toNatClampNeg := ⟨_, rfl⟩
      replace h := h v52 ev52
      refine x_top (v := .int v52) (congrArg _ ev52) ?_
      clear ev52 hi
      obtain ⟨hc, h⟩ := h
      refine x_callVi (T := TX11) (N := 32) (t := 12) (As := [.int v51, .int v52]) E mlL_37 inX11_mark seX11_mark rfl ⟨by decide, by decide⟩ (tX11_mark h) (kX11_mark l z D cA q5 v51 v52 M _ h) rfl ⟨rfl, rfl⟩ ⟨Nat.le_of_ble_eq_true rfl, Nat.le_of_ble_eq_true rfl⟩ ⟨hc.1, hc.2⟩ (Nat.le_of_ble_eq_true rfl) rfl dL_law_315 (fun r53 M54 h => ?_)
      clear hc
      refine x_icmp_eq (tgt := 1034) E dL_law_318 (by decide) (fun c55 => ?_) (fun c55 => ?_)
      · replace h := xbr_t h c55
        clear c55
        refine x_iinc (v := (x3 + (J 4))) (L' := [(3, .int (x3 + (J 4))), (0, .ref b), (1, .ref q1), (2, .ref q5)]) E dL_law_1034 3 rfl rfl (by decide) rfl ?_
        refine x_goto (tgt := 18) E dL_law_1037 (by decide) ?_
        refine x_sub (L' := [(0, .ref b), (1, .ref q1), (2, .ref q5), (3, .int (x3 + (J 4)))]) [1, 2, 3, 0] rfl ?_
        exact hk18 (M54, ck, cn, (x3 + (J 4))) h
      · replace h := xbr_f h c55
        clear c55
        refine x_iconst (v := (J 0)) E dL_law_321 (by decide) ?_
        exact h.elim
    replace h := xbr_f h c46
    by_cases c56 : y11 = (J 5)
    · replace h := xbr_t h c56
      refine x_tableIn (off := 291) (tgt := 323) E dL_law_32 (by rw [c56]; decide) (by rw [c56]; decide) (by rw [c56]; decide) (by decide) ?_
      refine x_aload_n E dL_law_323 rfl 1 rfl ?_
      refine x_aload_n E dL_law_324 rfl 0 rfl ?_
      refine x_iload_n E dL_law_325 rfl 3 rfl ?_
      refine x_iconst (v := (J 1)) E dL_law_326 (by decide) ?_
      refine x_iadd E dL_law_327 ?_
      obtain ⟨hi, h⟩ := h
      refine x_sald E hX hbl hbA hi dL_law_328 ?_
      obtain ⟨v57, ev57⟩ : ∃ v57, v57 = xs ((x3 + (J 1))).toNatClampNeg := ⟨_, rfl⟩
      replace h := h v57 ev57
      refine x_top (v := .int v57) (congrArg _ ev57) ?_
      clear ev57 hi
      refine x_aload_n E dL_law_329 rfl 0 rfl ?_
      refine x_iload_n E dL_law_330 rfl 3 rfl ?_
      refine x_iconst (v := (J 2)) E dL_law_331 (by decide) ?_
      refine x_iadd E dL_law_332 ?_
      obtain ⟨hi, h⟩ := h
      refine x_sald E hX hbl hbA hi dL_law_333 ?_
      obtain ⟨v58, ev58⟩ : ∃ v58, v58 = xs ((x3 + (J 2))).toNatClampNeg := ⟨_, rfl⟩
      replace h := h v58 ev58
      refine x_top (v := .int v58) (congrArg _ ev58) ?_
      clear ev58 hi
      refine x_aload_n E dL_law_334 rfl 0 rfl ?_
      refine x_iload_n E dL_law_335 rfl 3 rfl ?_
      refine x_iconst (v := (J 3)) E dL_law_336 (by decide) ?_
      refine x_iadd E dL_law_337 ?_
      obtain ⟨hi, h⟩ := h
      refine x_sald E hX hbl hbA hi dL_law_338 ?_
      obtain ⟨v59, ev59⟩ : ∃ v59, v59 = xs ((x3 + (J 3))).toNatClampNeg := ⟨_, rfl⟩
      replace h := h v59 ev59
      refine x_top (v := .int v59) (congrArg _ ev59) ?_
      clear ev59 hi
      obtain ⟨hc, h⟩ := h
      refine x_callVi (T := TX10) (N := 13) (t := 11) (As := [.int v57, .int v58, .int v59]) E mlL_38 inX10_ahead seX10_ahead rfl ⟨by decide, by decide⟩ (tX10_ahead h) (kX10_ahead l z D cA q1 v57 v58 v59 M _ h) rfl ⟨rfl, rfl⟩ ⟨Nat.le_of_ble_eq_true rfl, Nat.le_of_ble_eq_true rfl⟩ ⟨hc.1, hc.2⟩ (Nat.le_of_ble_eq_true rfl) rfl dL_law_339 (x_pure (fun r60 h => ?_))
      clear hc
      refine x_aload_n E dL_law_342 rfl 2 rfl ?_
      refine x_aload_n E dL_law_343 rfl 0 rfl ?_
      refine x_iload_n E dL_law_344 rfl 3 rfl ?_
      refine x_iconst (v := (J 1)) E dL_law_345 (by decide) ?_
      refine x_iadd E dL_law_346 ?_
      obtain ⟨hi, h⟩ := h
      refine x_sald E hX hbl hbA hi dL_law_347 ?_
      obtain ⟨v62, ev62⟩ : ∃ v62, v62 = xs ((x3 + (J 1))).toNatClampNeg := ⟨_, rfl⟩
      replace h := h v62 ev62
      refine x_top (v := .int v62) (congrArg _ ev62) ?_
      clear ev62 hi
      refine x_aload_n E dL_law_348 rfl 0 rfl ?_
      refine x_iload_n E dL_law_349 rfl 3 rfl ?_
      refine x_iconst (v := (J 2)) E dL_law_350 (by decide) ?_
      refine x_iadd E dL_law_351 ?_
      obtain ⟨hi, h⟩ := h
      refine x_sald E hX hbl hbA hi dL_law_352 ?_
      obtain ⟨v63, ev63⟩ : ∃ v63, v63 = xs ((x3 + (J 2))).toNatClampNeg := ⟨_, rfl⟩
      replace h := h v63 ev63
      refine x_top (v := .int v63) (congrArg _ ev63) ?_
      clear ev63 hi
      refine x_aload_n E dL_law_353 rfl 0 rfl ?_
      refine x_iload_n E dL_law_354 rfl 3 rfl ?_
      refine x_iconst (v := (J 3)) E dL_law_355 (by decide) ?_
      refine x_iadd E dL_law_356 ?_
      obtain ⟨hi, h⟩ := h
      refine x_sald E hX hbl hbA hi dL_law_357 ?_
      obtain ⟨v64, ev64⟩ : ∃ v64, v64 = xs ((x3 + (J 3))).toNatClampNeg := ⟨_, rfl⟩
      replace h := h v64 ev64
      refine x_top (v := .int v64) (congrArg _ ev64) ?_
      clear ev64 hi
      obtain ⟨hc, h⟩ := h
      refine x_callVi (T := TX11) (N := 32) (t := 12) (As := [.int v62, .int v63, .int v64]) E mlL_42 inX11_ahead seX11_ahead rfl ⟨by decide, by decide⟩ (tX11_ahead h) (kX11_ahead l z D cA q5 v62 v63 v64 M _ h) rfl ⟨rfl, rfl⟩ ⟨Nat.le_of_ble_eq_true rfl, Nat.le_of_ble_eq_true rfl⟩ ⟨hc.1, hc.2⟩ (Nat.le_of_ble_eq_true rfl) rfl dL_law_358 (x_pure (fun r65 h => ?_))
      clear hc
      refine x_icmp_eq (tgt := 1034) E dL_law_361 (by decide) (fun c67 => ?_) (fun c67 => ?_)
      · replace h := xbr_t h c67
        clear c67
        refine x_iinc (v := (x3 + (J 4))) (L' := [(3, .int (x3 + (J 4))), (0, .ref b), (1, .ref q1), (2, .ref q5)]) E dL_law_1034 3 rfl rfl (by decide) rfl ?_
        refine x_goto (tgt := 18) E dL_law_1037 (by decide) ?_
        refine x_sub (L' := [(0, .ref b), (1, .ref q1), (2, .ref q5), (3, .int (x3 + (J 4)))]) [1, 2, 3, 0] rfl ?_
        exact hk18 (M, ck, cn, (x3 + (J 4))) h
      · replace h := xbr_f h c67
        clear c67
        refine x_iconst (v := (J 0)) E dL_law_364 (by decide) ?_
        exact h.elim
    replace h := xbr_f h c56
    by_cases c68 : y11 = (J 6)
    · replace h := xbr_t h c68
      refine x_tableIn (off := 334) (tgt := 366) E dL_law_32 (by rw [c68]; decide) (by rw [c68]; decide) (by rw [c68]; decide) (by decide) ?_
      refine x_aload_n E dL_law_366 rfl 1 rfl ?_
      refine x_aload_n E dL_law_367 rfl 0 rfl ?_
      refine x_iload_n E dL_law_368 rfl 3 rfl ?_
      refine x_iconst (v := (J 1)) E dL_law_369 (by decide) ?_
      refine x_iadd E dL_law_370 ?_
      obtain ⟨hi, h⟩ := h
      refine x_sald E hX hbl hbA hi dL_law_371 ?_
      obtain ⟨v69, ev69⟩ : ∃ v69, v69 = xs ((x3 + (J 1))).toNatClampNeg := ⟨_, rfl⟩
      replace h := h v69 ev69
      refine x_top (v := .int v69) (congrArg _ ev69) ?_
      clear ev69 hi
      refine x_aload_n E dL_law_372 rfl 0 rfl ?_
      refine x_iload_n E dL_law_373 rfl 3 rfl ?_
      refine x_iconst (v := (J 2)) E dL_law_374 (by decide) ?_
      refine x_iadd E dL_law_375 ?_
      obtain ⟨hi, h⟩ := h
      refine x_sald E hX hbl hbA hi dL_law_376 ?_
      obtain ⟨v70, ev70⟩ : ∃ v70, v70 = xs ((x3 + (J 2))).toNatClampNeg := ⟨_, rfl⟩
      replace h := h v70 ev70
      refine x_top (v := .int v70) (congrArg _ ev70) ?_
      clear ev70 hi
      obtain ⟨hc, h⟩ := h
      refine x_callVi (T := TX10) (N := 13) (t := 11) (As := [.int v69, .int v70]) E mlL_43 inX10_order seX10_order rfl ⟨by decide, by decide⟩ (tX10_order h) (kX10_order l z D cA q1 v69 v70 M _ h) rfl ⟨rfl, rfl⟩ ⟨Nat.le_of_ble_eq_true rfl, Nat.le_of_ble_eq_true rfl⟩ ⟨hc.1, hc.2⟩ (Nat.le_of_ble_eq_true rfl) rfl dL_law_377 (fun r71 M72 h => ?_)
      clear hc
      refine x_aload_n E dL_law_380 rfl 2 rfl ?_
      refine x_aload_n E dL_law_381 rfl 0 rfl ?_
      refine x_iload_n E dL_law_382 rfl 3 rfl ?_
      refine x_iconst (v := (J 1)) E dL_law_383 (by decide) ?_
      refine x_iadd E dL_law_384 ?_
      obtain ⟨hi, h⟩ := h
      refine x_sald E hX hbl hbA hi dL_law_385 ?_
      obtain ⟨v73, ev73⟩ : ∃ v73, v73 = xs ((x3 + (J 1))).toNatClampNeg := ⟨_, rfl⟩
      replace h := h v73 ev73
      refine x_top (v := .int v73) (congrArg _ ev73) ?_
      clear ev73 hi
      refine x_aload_n E dL_law_386 rfl 0 rfl ?_
      refine x_iload_n E dL_law_387 rfl 3 rfl ?_
      refine x_iconst (v := (J 2)) E dL_law_388 (by decide) ?_
      refine x_iadd E dL_law_389 ?_
      obtain ⟨hi, h⟩ := h
      refine x_sald E hX hbl hbA hi dL_law_390 ?_
      obtain ⟨v74, ev74⟩ : ∃ v74, v74 = xs ((x3 + (J 2))).toNatClampNeg := ⟨_, rfl⟩
      replace h := h v74 ev74
      refine x_top (v := .int v74) (congrArg _ ev74) ?_
      clear ev74 hi
      obtain ⟨hc, h⟩ := h
      refine x_callVi (T := TX11) (N := 32) (t := 12) (As := [.int v73, .int v74]) E mlL_46 inX11_order seX11_order rfl ⟨by decide, by decide⟩ (tX11_order h) (kX11_order l z D cA q5 v73 v74 M72 _ h) rfl ⟨rfl, rfl⟩ ⟨Nat.le_of_ble_eq_true rfl, Nat.le_of_ble_eq_true rfl⟩ ⟨hc.1, hc.2⟩ (Nat.le_of_ble_eq_true rfl) rfl dL_law_391 (x_pure (fun r75 h => ?_))
      clear hc
      refine x_icmp_eq (tgt := 1034) E dL_law_394 (by decide) (fun c77 => ?_) (fun c77 => ?_)
      · replace h := xbr_t h c77
        clear c77
        refine x_iinc (v := (x3 + (J 4))) (L' := [(3, .int (x3 + (J 4))), (0, .ref b), (1, .ref q1), (2, .ref q5)]) E dL_law_1034 3 rfl rfl (by decide) rfl ?_
        refine x_goto (tgt := 18) E dL_law_1037 (by decide) ?_
        refine x_sub (L' := [(0, .ref b), (1, .ref q1), (2, .ref q5), (3, .int (x3 + (J 4)))]) [1, 2, 3, 0] rfl ?_
        exact hk18 (M72, ck, cn, (x3 + (J 4))) h
      · replace h := xbr_f h c77
        clear c77
        refine x_iconst (v := (J 0)) E dL_law_397 (by decide) ?_
        exact h.elim
    replace h := xbr_f h c68
    by_cases c78 : y11 = (J 7)
    · replace h := xbr_t h c78
      refine x_tableIn (off := 367) (tgt := 399) E dL_law_32 (by rw [c78]; decide) (by rw [c78]; decide) (by rw [c78]; decide) (by decide) ?_
      refine x_aload_n E dL_law_399 rfl 1 rfl ?_
      refine x_aload_n E dL_law_400 rfl 0 rfl ?_
      refine x_iload_n E dL_law_401 rfl 3 rfl ?_
      refine x_iconst (v := (J 1)) E dL_law_402 (by decide) ?_
      refine x_iadd E dL_law_403 ?_
      obtain ⟨hi, h⟩ := h
      refine x_sald E hX hbl hbA hi dL_law_404 ?_
      obtain ⟨v79, ev79⟩ : ∃ v79, v79 = xs ((x3 + (J 1))).toNatClampNeg := ⟨_, rfl⟩
      replace h := h v79 ev79
      refine x_top (v := .int v79) (congrArg _ ev79) ?_
      clear ev79 hi
      obtain ⟨hc, h⟩ := h
      refine x_callVi (T := TX10) (N := 13) (t := 11) (As := [.int v79]) E mlL_47 inX10_count seX10_count rfl ⟨by decide, by decide⟩ (tX10_count h) (kX10_count l z D cA q1 v79 M _ h) rfl ⟨rfl, rfl⟩ ⟨Nat.le_of_ble_eq_true rfl, Nat.le_of_ble_eq_true rfl⟩ ⟨hc.1, hc.2⟩ (Nat.le_of_ble_eq_true rfl) rfl dL_law_405 (x_pure (fun r80 h => ?_))
      clear hc
      refine x_aload_n E dL_law_408 rfl 2 rfl ?_
      refine x_aload_n E dL_law_409 rfl 0 rfl ?_
      refine x_iload_n E dL_law_410 rfl 3 rfl ?_
      refine x_iconst (v := (J 1)) E dL_law_411 (by decide) ?_
      refine x_iadd E dL_law_412 ?_
      obtain ⟨hi, h⟩ := h
      refine x_sald E hX hbl hbA hi dL_law_413 ?_
      obtain ⟨v82, ev82⟩ : ∃ v82, v82 = xs ((x3 + (J 1))).toNatClampNeg := ⟨_, rfl⟩
      replace h := h v82 ev82
      refine x_top (v := .int v82) (congrArg _ ev82) ?_
      clear ev82 hi
      obtain ⟨hc, h⟩ := h
      refine x_callVi (T := TX11) (N := 32) (t := 12) (As := [.int v82]) E mlL_51 inX11_count seX11_count rfl ⟨by decide, by decide⟩ (tX11_count h) (kX11_count l z D cA q5 v82 M _ h) rfl ⟨rfl, rfl⟩ ⟨Nat.le_of_ble_eq_true rfl, Nat.le_of_ble_eq_true rfl⟩ ⟨hc.1, hc.2⟩ (Nat.le_of_ble_eq_true rfl) rfl dL_law_414 (x_pure (fun r83 h => ?_))
      clear hc
      refine x_icmp_eq (tgt := 1034) E dL_law_417 (by decide) (fun c85 => ?_) (fun c85 => ?_)
      · replace h := xbr_t h c85
        clear c85
        refine x_iinc (v := (x3 + (J 4))) (L' := [(3, .int (x3 + (J 4))), (0, .ref b), (1, .ref q1), (2, .ref q5)]) E dL_law_1034 3 rfl rfl (by decide) rfl ?_
        refine x_goto (tgt := 18) E dL_law_1037 (by decide) ?_
        refine x_sub (L' := [(0, .ref b), (1, .ref q1), (2, .ref q5), (3, .int (x3 + (J 4)))]) [1, 2, 3, 0] rfl ?_
        exact hk18 (M, ck, cn, (x3 + (J 4))) h
      · replace h := xbr_f h c85
        clear c85
        refine x_iconst (v := (J 0)) E dL_law_420 (by decide) ?_
        exact h.elim
    replace h := xbr_f h c78
    by_cases c86 : y11 = (J 8)
    · replace h := xbr_t h c86
      refine x_tableIn (off := 390) (tgt := 422) E dL_law_32 (by rw [c86]; decide) (by rw [c86]; decide) (by rw [c86]; decide) (by decide) ?_
      refine x_aload_n E dL_law_422 rfl 1 rfl ?_
      refine x_aload_n E dL_law_423 rfl 0 rfl ?_
      refine x_iload_n E dL_law_424 rfl 3 rfl ?_
      refine x_iconst (v := (J 1)) E dL_law_425 (by decide) ?_
      refine x_iadd E dL_law_426 ?_
      obtain ⟨hi, h⟩ := h
      refine x_sald E hX hbl hbA hi dL_law_427 ?_
      obtain ⟨v87, ev87⟩ : ∃ v87, v87 = xs ((x3 + (J 1))).toNatClampNeg := ⟨_, rfl⟩
      replace h := h v87 ev87
      refine x_top (v := .int v87) (congrArg _ ev87) ?_
      clear ev87 hi
      refine x_aload_n E dL_law_428 rfl 0 rfl ?_
      refine x_iload_n E dL_law_429 rfl 3 rfl ?_
      refine x_iconst (v := (J 2)) E dL_law_430 (by decide) ?_
      refine x_iadd E dL_law_431 ?_
      obtain ⟨hi, h⟩ := h
      refine x_sald E hX hbl hbA hi dL_law_432 ?_
      obtain ⟨v88, ev88⟩ : ∃ v88, v88 = xs ((x3 + (J 2))).toNatClampNeg := ⟨_, rfl⟩
      replace h := h v88 ev88
      refine x_top (v := .int v88) (congrArg _ ev88) ?_
      clear ev88 hi
      obtain ⟨hc, h⟩ := h
      refine x_callVi (T := TX10) (N := 13) (t := 11) (As := [.int v87, .int v88]) E mlL_52 inX10_width seX10_width rfl ⟨by decide, by decide⟩ (tX10_width h) (kX10_width l z D cA q1 v87 v88 M _ h) rfl ⟨rfl, rfl⟩ ⟨Nat.le_of_ble_eq_true rfl, Nat.le_of_ble_eq_true rfl⟩ ⟨hc.1, hc.2⟩ (Nat.le_of_ble_eq_true rfl) rfl dL_law_433 (fun r89 M90 h => ?_)
      clear hc
      refine x_aload_n E dL_law_436 rfl 2 rfl ?_
      refine x_aload_n E dL_law_437 rfl 0 rfl ?_
      refine x_iload_n E dL_law_438 rfl 3 rfl ?_
      refine x_iconst (v := (J 1)) E dL_law_439 (by decide) ?_
      refine x_iadd E dL_law_440 ?_
      obtain ⟨hi, h⟩ := h
      refine x_sald E hX hbl hbA hi dL_law_441 ?_
      obtain ⟨v91, ev91⟩ : ∃ v91, v91 = xs ((x3 + (J 1))).toNatClampNeg := ⟨_, rfl⟩
      replace h := h v91 ev91
      refine x_top (v := .int v91) (congrArg _ ev91) ?_
      clear ev91 hi
      refine x_aload_n E dL_law_442 rfl 0 rfl ?_
      refine x_iload_n E dL_law_443 rfl 3 rfl ?_
      refine x_iconst (v := (J 2)) E dL_law_444 (by decide) ?_
      refine x_iadd E dL_law_445 ?_
      obtain ⟨hi, h⟩ := h
      refine x_sald E hX hbl hbA hi dL_law_446 ?_
      obtain ⟨v92, ev92⟩ : ∃ v92, v92 = xs ((x3 + (J 2))).toNatClampNeg := ⟨_, rfl⟩
      replace h := h v92 ev92
      refine x_top (v := .int v92) (congrArg _ ev92) ?_
      clear ev92 hi
      obtain ⟨hc, h⟩ := h
      refine x_callVi (T := TX11) (N := 32) (t := 12) (As := [.int v91, .int v92]) E mlL_55 inX11_width seX11_width rfl ⟨by decide, by decide⟩ (tX11_width h) (kX11_width l z D cA q5 v91 v92 M90 _ h) rfl ⟨rfl, rfl⟩ ⟨Nat.le_of_ble_eq_true rfl, Nat.le_of_ble_eq_true rfl⟩ ⟨hc.1, hc.2⟩ (Nat.le_of_ble_eq_true rfl) rfl dL_law_447 (fun r93 M94 h => ?_)
      clear hc
      refine x_icmp_eq (tgt := 1034) E dL_law_450 (by decide) (fun c95 => ?_) (fun c95 => ?_)
      · replace h := xbr_t h c95
        clear c95
        refine x_iinc (v := (x3 + (J 4))) (L' := [(3, .int (x3 + (J 4))), (0, .ref b), (1, .ref q1), (2, .ref q5)]) E dL_law_1034 3 rfl rfl (by decide) rfl ?_
        refine x_goto (tgt := 18) E dL_law_1037 (by decide) ?_
        refine x_sub (L' := [(0, .ref b), (1, .ref q1), (2, .ref q5), (3, .int (x3 + (J 4)))]) [1, 2, 3, 0] rfl ?_
        exact hk18 (M94, ck, cn, (x3 + (J 4))) h
      · replace h := xbr_f h c95
        clear c95
        refine x_iconst (v := (J 0)) E dL_law_453 (by decide) ?_
        exact h.elim
    replace h := xbr_f h c86
    by_cases c96 : y11 = (J 9)
    · replace h := xbr_t h c96
      refine x_tableIn (off := 423) (tgt := 455) E dL_law_32 (by rw [c96]; decide) (by rw [c96]; decide) (by rw [c96]; decide) (by decide) ?_
      refine x_aload_n E dL_law_455 rfl 1 rfl ?_
      refine x_aload_n E dL_law_456 rfl 0 rfl ?_
      refine x_iload_n E dL_law_457 rfl 3 rfl ?_
      refine x_iconst (v := (J 1)) E dL_law_458 (by decide) ?_
      refine x_iadd E dL_law_459 ?_
      obtain ⟨hi, h⟩ := h
      refine x_sald E hX hbl hbA hi dL_law_460 ?_
      obtain ⟨v97, ev97⟩ : ∃ v97, v97 = xs ((x3 + (J 1))).toNatClampNeg := ⟨_, rfl⟩
      replace h := h v97 ev97
      refine x_top (v := .int v97) (congrArg _ ev97) ?_
      clear ev97 hi
      refine x_aload_n E dL_law_461 rfl 0 rfl ?_
      refine x_iload_n E dL_law_462 rfl 3 rfl ?_
      refine x_iconst (v := (J 2)) E dL_law_463 (by decide) ?_
      refine x_iadd E dL_law_464 ?_
      obtain ⟨hi, h⟩ := h
      refine x_sald E hX hbl hbA hi dL_law_465 ?_
      obtain ⟨v98, ev98⟩ : ∃ v98, v98 = xs ((x3 + (J 2))).toNatClampNeg := ⟨_, rfl⟩
      replace h := h v98 ev98
      refine x_top (v := .int v98) (congrArg _ ev98) ?_
      clear ev98 hi
      obtain ⟨hc, h⟩ := h
      refine x_callVi (T := TX10) (N := 13) (t := 11) (As := [.int v97, .int v98]) E mlL_56 inX10_shelf seX10_shelf rfl ⟨by decide, by decide⟩ (tX10_shelf h) (kX10_shelf l z D cA q1 v97 v98 M _ h) rfl ⟨rfl, rfl⟩ ⟨Nat.le_of_ble_eq_true rfl, Nat.le_of_ble_eq_true rfl⟩ ⟨hc.1, hc.2⟩ (Nat.le_of_ble_eq_true rfl) rfl dL_law_466 (x_pure (fun r99 h => ?_))
      clear hc
      refine x_aload_n E dL_law_469 rfl 2 rfl ?_
      refine x_aload_n E dL_law_470 rfl 0 rfl ?_
      refine x_iload_n E dL_law_471 rfl 3 rfl ?_
      refine x_iconst (v := (J 1)) E dL_law_472 (by decide) ?_
      refine x_iadd E dL_law_473 ?_
      obtain ⟨hi, h⟩ := h
      refine x_sald E hX hbl hbA hi dL_law_474 ?_
      obtain ⟨v101, ev101⟩ : ∃ v101, v101 = xs ((x3 + (J 1))).toNatClampNeg := ⟨_, rfl⟩
      replace h := h v101 ev101
      refine x_top (v := .int v101) (congrArg _ ev101) ?_
      clear ev101 hi
      refine x_aload_n E dL_law_475 rfl 0 rfl ?_
      refine x_iload_n E dL_law_476 rfl 3 rfl ?_
      refine x_iconst (v := (J 2)) E dL_law_477 (by decide) ?_
      refine x_iadd E dL_law_478 ?_
      obtain ⟨hi, h⟩ := h
      refine x_sald E hX hbl hbA hi dL_law_479 ?_
      obtain ⟨v102, ev102⟩ : ∃ v102, v102 = xs ((x3 + (J 2))).toNatClampNeg := ⟨_, rfl⟩
      replace h := h v102 ev102
      refine x_top (v := .int v102) (congrArg _ ev102) ?_
      clear ev102 hi
      obtain ⟨hc, h⟩ := h
      refine x_callVi (T := TX11) (N := 32) (t := 12) (As := [.int v101, .int v102]) E mlL_59 inX11_shelf seX11_shelf rfl ⟨by decide, by decide⟩ (tX11_shelf h) (kX11_shelf l z D cA q5 v101 v102 M _ h) rfl ⟨rfl, rfl⟩ ⟨Nat.le_of_ble_eq_true rfl, Nat.le_of_ble_eq_true rfl⟩ ⟨hc.1, hc.2⟩ (Nat.le_of_ble_eq_true rfl) rfl dL_law_480 (x_pure (fun r103 h => ?_))
      clear hc
      refine x_icmp_eq (tgt := 1034) E dL_law_483 (by decide) (fun c105 => ?_) (fun c105 => ?_)
      · replace h := xbr_t h c105
        clear c105
        refine x_iinc (v := (x3 + (J 4))) (L' := [(3, .int (x3 + (J 4))), (0, .ref b), (1, .ref q1), (2, .ref q5)]) E dL_law_1034 3 rfl rfl (by decide) rfl ?_
        refine x_goto (tgt := 18) E dL_law_1037 (by decide) ?_
        refine x_sub (L' := [(0, .ref b), (1, .ref q1), (2, .ref q5), (3, .int (x3 + (J 4)))]) [1, 2, 3, 0] rfl ?_
        exact hk18 (M, ck, cn, (x3 + (J 4))) h
      · replace h := xbr_f h c105
        clear c105
        refine x_iconst (v := (J 0)) E dL_law_486 (by decide) ?_
        exact h.elim
    replace h := xbr_f h c96
    by_cases c106 : y11 = (J 10)
    · replace h := xbr_t h c106
      refine x_tableIn (off := 456) (tgt := 488) E dL_law_32 (by rw [c106]; decide) (by rw [c106]; decide) (by rw [c106]; decide) (by decide) ?_
      refine x_aload_n E dL_law_488 rfl 1 rfl ?_
      refine x_aload_n E dL_law_489 rfl 0 rfl ?_
      refine x_iload_n E dL_law_490 rfl 3 rfl ?_
      refine x_iconst (v := (J 1)) E dL_law_491 (by decide) ?_
      refine x_iadd E dL_law_492 ?_
      obtain ⟨hi, h⟩ := h
      refine x_sald E hX hbl hbA hi dL_law_493 ?_
      obtain ⟨v107, ev107⟩ : ∃ v107, v107 = xs ((x3 + (J 1))).toNatClampNeg := ⟨_, rfl⟩
      replace h := h v107 ev107
      refine x_top (v := .int v107) (congrArg _ ev107) ?_
      clear ev107 hi
      obtain ⟨hc, h⟩ := h
      refine x_callVi (T := TX10) (N := 13) (t := 11) (As := [.int v107]) E mlL_60 inX10_room seX10_room rfl ⟨by decide, by decide⟩ (tX10_room h) (kX10_room l z D cA q1 v107 M _ h) rfl ⟨rfl, rfl⟩ ⟨Nat.le_of_ble_eq_true rfl, Nat.le_of_ble_eq_true rfl⟩ ⟨hc.1, hc.2⟩ (Nat.le_of_ble_eq_true rfl) rfl dL_law_494 (x_pure (fun r108 h => ?_))
      clear hc
      refine x_aload_n E dL_law_497 rfl 2 rfl ?_
      refine x_aload_n E dL_law_498 rfl 0 rfl ?_
      refine x_iload_n E dL_law_499 rfl 3 rfl ?_
      refine x_iconst (v := (J 1)) E dL_law_500 (by decide) ?_
      refine x_iadd E dL_law_501 ?_
      obtain ⟨hi, h⟩ := h
      refine x_sald E hX hbl hbA hi dL_law_502 ?_
      obtain ⟨v110, ev110⟩ : ∃ v110, v110 = xs ((x3 + (J 1))).toNatClampNeg := ⟨_, rfl⟩
      replace h := h v110 ev110
      refine x_top (v := .int v110) (congrArg _ ev110) ?_
      clear ev110 hi
      obtain ⟨hc, h⟩ := h
      refine x_callVi (T := TX11) (N := 32) (t := 12) (As := [.int v110]) E mlL_63 inX11_room seX11_room rfl ⟨by decide, by decide⟩ (tX11_room h) (kX11_room l z D cA q5 v110 M _ h) rfl ⟨rfl, rfl⟩ ⟨Nat.le_of_ble_eq_true rfl, Nat.le_of_ble_eq_true rfl⟩ ⟨hc.1, hc.2⟩ (Nat.le_of_ble_eq_true rfl) rfl dL_law_503 (x_pure (fun r111 h => ?_))
      clear hc
      refine x_icmp_eq (tgt := 1034) E dL_law_506 (by decide) (fun c113 => ?_) (fun c113 => ?_)
      · replace h := xbr_t h c113
        clear c113
        refine x_iinc (v := (x3 + (J 4))) (L' := [(3, .int (x3 + (J 4))), (0, .ref b), (1, .ref q1), (2, .ref q5)]) E dL_law_1034 3 rfl rfl (by decide) rfl ?_
        refine x_goto (tgt := 18) E dL_law_1037 (by decide) ?_
        refine x_sub (L' := [(0, .ref b), (1, .ref q1), (2, .ref q5), (3, .int (x3 + (J 4)))]) [1, 2, 3, 0] rfl ?_
        exact hk18 (M, ck, cn, (x3 + (J 4))) h
      · replace h := xbr_f h c113
        clear c113
        refine x_iconst (v := (J 0)) E dL_law_509 (by decide) ?_
        exact h.elim
    replace h := xbr_f h c106
    by_cases c114 : y11 = (J 11)
    · replace h := xbr_t h c114
      refine x_tableIn (off := 479) (tgt := 511) E dL_law_32 (by rw [c114]; decide) (by rw [c114]; decide) (by rw [c114]; decide) (by decide) ?_
      refine x_aload_n E dL_law_511 rfl 1 rfl ?_
      refine x_aload_n E dL_law_512 rfl 0 rfl ?_
      refine x_iload_n E dL_law_513 rfl 3 rfl ?_
      refine x_iconst (v := (J 1)) E dL_law_514 (by decide) ?_
      refine x_iadd E dL_law_515 ?_
      obtain ⟨hi, h⟩ := h
      refine x_sald E hX hbl hbA hi dL_law_516 ?_
      obtain ⟨v115, ev115⟩ : ∃ v115, v115 = xs ((x3 + (J 1))).toNatClampNeg := ⟨_, rfl⟩
      replace h := h v115 ev115
      refine x_top (v := .int v115) (congrArg _ ev115) ?_
      clear ev115 hi
      refine x_aload_n E dL_law_517 rfl 0 rfl ?_
      refine x_iload_n E dL_law_518 rfl 3 rfl ?_
      refine x_iconst (v := (J 2)) E dL_law_519 (by decide) ?_
      refine x_iadd E dL_law_520 ?_
      obtain ⟨hi, h⟩ := h
      refine x_sald E hX hbl hbA hi dL_law_521 ?_
      obtain ⟨v116, ev116⟩ : ∃ v116, v116 = xs ((x3 + (J 2))).toNatClampNeg := ⟨_, rfl⟩
      replace h := h v116 ev116
      refine x_top (v := .int v116) (congrArg _ ev116) ?_
      clear ev116 hi
      refine x_aload_n E dL_law_522 rfl 0 rfl ?_
      refine x_iload_n E dL_law_523 rfl 3 rfl ?_
      refine x_iconst (v := (J 3)) E dL_law_524 (by decide) ?_
      refine x_iadd E dL_law_525 ?_
      obtain ⟨hi, h⟩ := h
      refine x_sald E hX hbl hbA hi dL_law_526 ?_
      obtain ⟨v117, ev117⟩ : ∃ v117, v117 = xs ((x3 + (J 3))).toNatClampNeg := ⟨_, rfl⟩
      replace h := h v117 ev117
      refine x_top (v := .int v117) (congrArg _ ev117) ?_
      clear ev117 hi
      obtain ⟨hc, h⟩ := h
      refine x_callVi (T := TX10) (N := 13) (t := 11) (As := [.int v115, .int v116, .int v117]) E mlL_64 inX10_set seX10_set rfl ⟨by decide, by decide⟩ (tX10_set h) (kX10_set l z D cA q1 v115 v116 v117 M _ h) rfl ⟨rfl, rfl⟩ ⟨Nat.le_of_ble_eq_true rfl, Nat.le_of_ble_eq_true rfl⟩ ⟨hc.1, hc.2⟩ (Nat.le_of_ble_eq_true rfl) rfl dL_law_527 (fun r118 M119 h => ?_)
      clear hc
      refine x_aload_n E dL_law_530 rfl 2 rfl ?_
      refine x_aload_n E dL_law_531 rfl 0 rfl ?_
      refine x_iload_n E dL_law_532 rfl 3 rfl ?_
      refine x_iconst (v := (J 1)) E dL_law_533 (by decide) ?_
      refine x_iadd E dL_law_534 ?_
      obtain ⟨hi, h⟩ := h
      refine x_sald E hX hbl hbA hi dL_law_535 ?_
      obtain ⟨v120, ev120⟩ : ∃ v120, v120 = xs ((x3 + (J 1))).toNatClampNeg := ⟨_, rfl⟩
      replace h := h v120 ev120
      refine x_top (v := .int v120) (congrArg _ ev120) ?_
      clear ev120 hi
      refine x_aload_n E dL_law_536 rfl 0 rfl ?_
      refine x_iload_n E dL_law_537 rfl 3 rfl ?_
      refine x_iconst (v := (J 2)) E dL_law_538 (by decide) ?_
      refine x_iadd E dL_law_539 ?_
      obtain ⟨hi, h⟩ := h
      refine x_sald E hX hbl hbA hi dL_law_540 ?_
      obtain ⟨v121, ev121⟩ : ∃ v121, v121 = xs ((x3 + (J 2))).toNatClampNeg := ⟨_, rfl⟩
      replace h := h v121 ev121
      refine x_top (v := .int v121) (congrArg _ ev121) ?_
      clear ev121 hi
      refine x_aload_n E dL_law_541 rfl 0 rfl ?_
      refine x_iload_n E dL_law_542 rfl 3 rfl ?_
      refine x_iconst (v := (J 3)) E dL_law_543 (by decide) ?_
      refine x_iadd E dL_law_544 ?_
      obtain ⟨hi, h⟩ := h
      refine x_sald E hX hbl hbA hi dL_law_545 ?_
      obtain ⟨v122, ev122⟩ : ∃ v122, v122 = xs ((x3 + (J 3))).toNatClampNeg := ⟨_, rfl⟩
      replace h := h v122 ev122
      refine x_top (v := .int v122) (congrArg _ ev122) ?_
      clear ev122 hi
      obtain ⟨hc, h⟩ := h
      refine x_callVi (T := TX11) (N := 32) (t := 12) (As := [.int v120, .int v121, .int v122]) E mlL_67 inX11_set seX11_set rfl ⟨by decide, by decide⟩ (tX11_set h) (kX11_set l z D cA q5 v120 v121 v122 M119 _ h) rfl ⟨rfl, rfl⟩ ⟨Nat.le_of_ble_eq_true rfl, Nat.le_of_ble_eq_true rfl⟩ ⟨hc.1, hc.2⟩ (Nat.le_of_ble_eq_true rfl) rfl dL_law_546 (fun r123 M124 h => ?_)
      clear hc
      refine x_icmp_eq (tgt := 1034) E dL_law_549 (by decide) (fun c125 => ?_) (fun c125 => ?_)
      · replace h := xbr_t h c125
        clear c125
        refine x_iinc (v := (x3 + (J 4))) (L' := [(3, .int (x3 + (J 4))), (0, .ref b), (1, .ref q1), (2, .ref q5)]) E dL_law_1034 3 rfl rfl (by decide) rfl ?_
        refine x_goto (tgt := 18) E dL_law_1037 (by decide) ?_
        refine x_sub (L' := [(0, .ref b), (1, .ref q1), (2, .ref q5), (3, .int (x3 + (J 4)))]) [1, 2, 3, 0] rfl ?_
        exact hk18 (M124, ck, cn, (x3 + (J 4))) h
      · replace h := xbr_f h c125
        clear c125
        refine x_iconst (v := (J 0)) E dL_law_552 (by decide) ?_
        exact h.elim
    replace h := xbr_f h c114
    by_cases c126 : y11 = (J 12)
    · replace h := xbr_t h c126
      refine x_tableIn (off := 522) (tgt := 554) E dL_law_32 (by rw [c126]; decide) (by rw [c126]; decide) (by rw [c126]; decide) (by decide) ?_
      refine x_aload_n E dL_law_554 rfl 1 rfl ?_
      refine x_aload_n E dL_law_555 rfl 0 rfl ?_
      refine x_iload_n E dL_law_556 rfl 3 rfl ?_
      refine x_iconst (v := (J 1)) E dL_law_557 (by decide) ?_
      refine x_iadd E dL_law_558 ?_
      obtain ⟨hi, h⟩ := h
      refine x_sald E hX hbl hbA hi dL_law_559 ?_
      obtain ⟨v127, ev127⟩ : ∃ v127, v127 = xs ((x3 + (J 1))).toNatClampNeg := ⟨_, rfl⟩
      replace h := h v127 ev127
      refine x_top (v := .int v127) (congrArg _ ev127) ?_
      clear ev127 hi
      refine x_aload_n E dL_law_560 rfl 0 rfl ?_
      refine x_iload_n E dL_law_561 rfl 3 rfl ?_
      refine x_iconst (v := (J 2)) E dL_law_562 (by decide) ?_
      refine x_iadd E dL_law_563 ?_
      obtain ⟨hi, h⟩ := h
      refine x_sald E hX hbl hbA hi dL_law_564 ?_
      obtain ⟨v128, ev128⟩ : ∃ v128, v128 = xs ((x3 + (J 2))).toNatClampNeg := ⟨_, rfl⟩
      replace h := h v128 ev128
      refine x_top (v := .int v128) (congrArg _ ev128) ?_
      clear ev128 hi
      obtain ⟨hc, h⟩ := h
      refine x_callVi (T := TX10) (N := 13) (t := 11) (As := [.int v127, .int v128]) E mlL_68 inX10_put seX10_put rfl ⟨by decide, by decide⟩ (tX10_put h) (kX10_put l z D cA q1 v127 v128 M _ h) rfl ⟨rfl, rfl⟩ ⟨Nat.le_of_ble_eq_true rfl, Nat.le_of_ble_eq_true rfl⟩ ⟨hc.1, hc.2⟩ (Nat.le_of_ble_eq_true rfl) rfl dL_law_565 (fun r129 M130 h => ?_)
      clear hc
      refine x_aload_n E dL_law_568 rfl 2 rfl ?_
      refine x_aload_n E dL_law_569 rfl 0 rfl ?_
      refine x_iload_n E dL_law_570 rfl 3 rfl ?_
      refine x_iconst (v := (J 1)) E dL_law_571 (by decide) ?_
      refine x_iadd E dL_law_572 ?_
      obtain ⟨hi, h⟩ := h
      refine x_sald E hX hbl hbA hi dL_law_573 ?_
      obtain ⟨v131, ev131⟩ : ∃ v131, v131 = xs ((x3 + (J 1))).toNatClampNeg := ⟨_, rfl⟩
      replace h := h v131 ev131
      refine x_top (v := .int v131) (congrArg _ ev131) ?_
      clear ev131 hi
      refine x_aload_n E dL_law_574 rfl 0 rfl ?_
      refine x_iload_n E dL_law_575 rfl 3 rfl ?_
      refine x_iconst (v := (J 2)) E dL_law_576 (by decide) ?_
      refine x_iadd E dL_law_577 ?_
      obtain ⟨hi, h⟩ := h
      refine x_sald E hX hbl hbA hi dL_law_578 ?_
      obtain ⟨v132, ev132⟩ : ∃ v132, v132 = xs ((x3 + (J 2))).toNatClampNeg := ⟨_, rfl⟩
      replace h := h v132 ev132
      refine x_top (v := .int v132) (congrArg _ ev132) ?_
      clear ev132 hi
      obtain ⟨hc, h⟩ := h
      refine x_callVi (T := TX11) (N := 32) (t := 12) (As := [.int v131, .int v132]) E mlL_71 inX11_put seX11_put rfl ⟨by decide, by decide⟩ (tX11_put h) (kX11_put l z D cA q5 v131 v132 M130 _ h) rfl ⟨rfl, rfl⟩ ⟨Nat.le_of_ble_eq_true rfl, Nat.le_of_ble_eq_true rfl⟩ ⟨hc.1, hc.2⟩ (Nat.le_of_ble_eq_true rfl) rfl dL_law_579 (fun r133 M134 h => ?_)
      clear hc
      refine x_icmp_eq (tgt := 1034) E dL_law_582 (by decide) (fun c135 => ?_) (fun c135 => ?_)
      · replace h := xbr_t h c135
        clear c135
        refine x_iinc (v := (x3 + (J 4))) (L' := [(3, .int (x3 + (J 4))), (0, .ref b), (1, .ref q1), (2, .ref q5)]) E dL_law_1034 3 rfl rfl (by decide) rfl ?_
        refine x_goto (tgt := 18) E dL_law_1037 (by decide) ?_
        refine x_sub (L' := [(0, .ref b), (1, .ref q1), (2, .ref q5), (3, .int (x3 + (J 4)))]) [1, 2, 3, 0] rfl ?_
        exact hk18 (M134, ck, cn, (x3 + (J 4))) h
      · replace h := xbr_f h c135
        clear c135
        refine x_iconst (v := (J 0)) E dL_law_585 (by decide) ?_
        exact h.elim
    replace h := xbr_f h c126
    by_cases c136 : y11 = (J 13)
    · replace h := xbr_t h c136
      refine x_tableIn (off := 555) (tgt := 587) E dL_law_32 (by rw [c136]; decide) (by rw [c136]; decide) (by rw [c136]; decide) (by decide) ?_
      refine x_aload_n E dL_law_587 rfl 1 rfl ?_
      refine x_aload_n E dL_law_588 rfl 0 rfl ?_
      refine x_iload_n E dL_law_589 rfl 3 rfl ?_
      refine x_iconst (v := (J 1)) E dL_law_590 (by decide) ?_
      refine x_iadd E dL_law_591 ?_
      obtain ⟨hi, h⟩ := h
      refine x_sald E hX hbl hbA hi dL_law_592 ?_
      obtain ⟨v137, ev137⟩ : ∃ v137, v137 = xs ((x3 + (J 1))).toNatClampNeg := ⟨_, rfl⟩
      replace h := h v137 ev137
      refine x_top (v := .int v137) (congrArg _ ev137) ?_
      clear ev137 hi
      obtain ⟨hc, h⟩ := h
      refine x_callVi (T := TX10) (N := 13) (t := 11) (As := [.int v137]) E mlL_72 inX10_take seX10_take rfl ⟨by decide, by decide⟩ (tX10_take h) (kX10_take l z D cA q1 v137 M _ h) rfl ⟨rfl, rfl⟩ ⟨Nat.le_of_ble_eq_true rfl, Nat.le_of_ble_eq_true rfl⟩ ⟨hc.1, hc.2⟩ (Nat.le_of_ble_eq_true rfl) rfl dL_law_593 (fun r138 M139 h => ?_)
      clear hc
      refine x_aload_n E dL_law_596 rfl 2 rfl ?_
      refine x_aload_n E dL_law_597 rfl 0 rfl ?_
      refine x_iload_n E dL_law_598 rfl 3 rfl ?_
      refine x_iconst (v := (J 1)) E dL_law_599 (by decide) ?_
      refine x_iadd E dL_law_600 ?_
      obtain ⟨hi, h⟩ := h
      refine x_sald E hX hbl hbA hi dL_law_601 ?_
      obtain ⟨v140, ev140⟩ : ∃ v140, v140 = xs ((x3 + (J 1))).toNatClampNeg := ⟨_, rfl⟩
      replace h := h v140 ev140
      refine x_top (v := .int v140) (congrArg _ ev140) ?_
      clear ev140 hi
      obtain ⟨hc, h⟩ := h
      refine x_callVi (T := TX11) (N := 32) (t := 12) (As := [.int v140]) E mlL_75 inX11_take seX11_take rfl ⟨by decide, by decide⟩ (tX11_take h) (kX11_take l z D cA q5 v140 M139 _ h) rfl ⟨rfl, rfl⟩ ⟨Nat.le_of_ble_eq_true rfl, Nat.le_of_ble_eq_true rfl⟩ ⟨hc.1, hc.2⟩ (Nat.le_of_ble_eq_true rfl) rfl dL_law_602 (fun r141 M142 h => ?_)
      clear hc
      refine x_icmp_eq (tgt := 1034) E dL_law_605 (by decide) (fun c143 => ?_) (fun c143 => ?_)
      · replace h := xbr_t h c143
        clear c143
        refine x_iinc (v := (x3 + (J 4))) (L' := [(3, .int (x3 + (J 4))), (0, .ref b), (1, .ref q1), (2, .ref q5)]) E dL_law_1034 3 rfl rfl (by decide) rfl ?_
        refine x_goto (tgt := 18) E dL_law_1037 (by decide) ?_
        refine x_sub (L' := [(0, .ref b), (1, .ref q1), (2, .ref q5), (3, .int (x3 + (J 4)))]) [1, 2, 3, 0] rfl ?_
        exact hk18 (M142, ck, cn, (x3 + (J 4))) h
      · replace h := xbr_f h c143
        clear c143
        refine x_iconst (v := (J 0)) E dL_law_608 (by decide) ?_
        exact h.elim
    replace h := xbr_f h c136
    by_cases c144 : y11 = (J 14)
    · replace h := xbr_t h c144
      refine x_tableIn (off := 578) (tgt := 610) E dL_law_32 (by rw [c144]; decide) (by rw [c144]; decide) (by rw [c144]; decide) (by decide) ?_
      refine x_aload_n E dL_law_610 rfl 1 rfl ?_
      obtain ⟨hc, h⟩ := h
      refine x_callVi (T := TX10) (N := 13) (t := 11) (As := []) E mlL_76 inX10_wrong seX10_wrong rfl ⟨by decide, by decide⟩ (tX10_wrong h) (kX10_wrong l z D cA q1 M _ h) rfl ⟨rfl, rfl⟩ ⟨Nat.le_of_ble_eq_true rfl, Nat.le_of_ble_eq_true rfl⟩ ⟨hc.1, hc.2⟩ (Nat.le_of_ble_eq_true rfl) rfl dL_law_611 (fun r145 M146 h => ?_)
      clear hc
      refine x_aload_n E dL_law_614 rfl 2 rfl ?_
      obtain ⟨hc, h⟩ := h
      refine x_callVi (T := TX11) (N := 32) (t := 12) (As := []) E mlL_79 inX11_wrong seX11_wrong rfl ⟨by decide, by decide⟩ (tX11_wrong h) (kX11_wrong l z D cA q5 M146 _ h) rfl ⟨rfl, rfl⟩ ⟨Nat.le_of_ble_eq_true rfl, Nat.le_of_ble_eq_true rfl⟩ ⟨hc.1, hc.2⟩ (Nat.le_of_ble_eq_true rfl) rfl dL_law_615 (fun r147 M148 h => ?_)
      clear hc
      refine x_icmp_eq (tgt := 1034) E dL_law_618 (by decide) (fun c149 => ?_) (fun c149 => ?_)
      · replace h := xbr_t h c149
        clear c149
        refine x_iinc (v := (x3 + (J 4))) (L' := [(3, .int (x3 + (J 4))), (0, .ref b), (1, .ref q1), (2, .ref q5)]) E dL_law_1034 3 rfl rfl (by decide) rfl ?_
        refine x_goto (tgt := 18) E dL_law_1037 (by decide) ?_
        refine x_sub (L' := [(0, .ref b), (1, .ref q1), (2, .ref q5), (3, .int (x3 + (J 4)))]) [1, 2, 3, 0] rfl ?_
        exact hk18 (M148, ck, cn, (x3 + (J 4))) h
      · replace h := xbr_f h c149
        clear c149
        refine x_iconst (v := (J 0)) E dL_law_621 (by decide) ?_
        exact h.elim
    replace h := xbr_f h c144
    by_cases c150 : y11 = (J 15)
    · replace h := xbr_t h c150
      refine x_tableIn (off := 591) (tgt := 623) E dL_law_32 (by rw [c150]; decide) (by rw [c150]; decide) (by rw [c150]; decide) (by decide) ?_
      refine x_aload_n E dL_law_623 rfl 1 rfl ?_
      refine x_aload_n E dL_law_624 rfl 0 rfl ?_
      refine x_iload_n E dL_law_625 rfl 3 rfl ?_
      refine x_iconst (v := (J 1)) E dL_law_626 (by decide) ?_
      refine x_iadd E dL_law_627 ?_
      obtain ⟨hi, h⟩ := h
      refine x_sald E hX hbl hbA hi dL_law_628 ?_
      obtain ⟨v151, ev151⟩ : ∃ v151, v151 = xs ((x3 + (J 1))).toNatClampNeg := ⟨_, rfl⟩
      replace h := h v151 ev151
      refine x_top (v := .int v151) (congrArg _ ev151) ?_
      clear ev151 hi
      obtain ⟨hc, h⟩ := h
      refine x_callVi (T := TX10) (N := 13) (t := 11) (As := [.int v151]) E mlL_80 inX10_tidy seX10_tidy rfl ⟨by decide, by decide⟩ (tX10_tidy h) (kX10_tidy l z D cA q1 v151 M _ h) rfl ⟨rfl, rfl⟩ ⟨Nat.le_of_ble_eq_true rfl, Nat.le_of_ble_eq_true rfl⟩ ⟨hc.1, hc.2⟩ (Nat.le_of_ble_eq_true rfl) rfl dL_law_629 (x_pure (fun r152 h => ?_))
      clear hc
      refine x_aload_n E dL_law_632 rfl 2 rfl ?_
      refine x_aload_n E dL_law_633 rfl 0 rfl ?_
      refine x_iload_n E dL_law_634 rfl 3 rfl ?_
      refine x_iconst (v := (J 1)) E dL_law_635 (by decide) ?_
      refine x_iadd E dL_law_636 ?_
      obtain ⟨hi, h⟩ := h
      refine x_sald E hX hbl hbA hi dL_law_637 ?_
      obtain ⟨v154, ev154⟩ : ∃ v154, v154 = xs ((x3 + (J 1))).toNatClampNeg := ⟨_, rfl⟩
      replace h := h v154 ev154
      refine x_top (v := .int v154) (congrArg _ ev154) ?_
      clear ev154 hi
      obtain ⟨hc, h⟩ := h
      refine x_callVi (T := TX11) (N := 32) (t := 12) (As := [.int v154]) E mlL_83 inX11_tidy seX11_tidy rfl ⟨by decide, by decide⟩ (tX11_tidy h) (kX11_tidy l z D cA q5 v154 M _ h) rfl ⟨rfl, rfl⟩ ⟨Nat.le_of_ble_eq_true rfl, Nat.le_of_ble_eq_true rfl⟩ ⟨hc.1, hc.2⟩ (Nat.le_of_ble_eq_true rfl) rfl dL_law_638 (x_pure (fun r155 h => ?_))
      clear hc
      refine x_icmp_eq (tgt := 1034) E dL_law_641 (by decide) (fun c157 => ?_) (fun c157 => ?_)
      · replace h := xbr_t h c157
        clear c157
        refine x_iinc (v := (x3 + (J 4))) (L' := [(3, .int (x3 + (J 4))), (0, .ref b), (1, .ref q1), (2, .ref q5)]) E dL_law_1034 3 rfl rfl (by decide) rfl ?_
        refine x_goto (tgt := 18) E dL_law_1037 (by decide) ?_
        refine x_sub (L' := [(0, .ref b), (1, .ref q1), (2, .ref q5), (3, .int (x3 + (J 4)))]) [1, 2, 3, 0] rfl ?_
        exact hk18 (M, ck, cn, (x3 + (J 4))) h
      · replace h := xbr_f h c157
        clear c157
        refine x_iconst (v := (J 0)) E dL_law_644 (by decide) ?_
        exact h.elim
    replace h := xbr_f h c150
    by_cases c158 : y11 = (J 16)
    · replace h := xbr_t h c158
      refine x_tableIn (off := 614) (tgt := 646) E dL_law_32 (by rw [c158]; decide) (by rw [c158]; decide) (by rw [c158]; decide) (by decide) ?_
      refine x_aload_n E dL_law_646 rfl 1 rfl ?_
      obtain ⟨hc, h⟩ := h
      refine x_callVi (T := TX10) (N := 13) (t := 11) (As := []) E mlL_84 inX10_mend seX10_mend rfl ⟨by decide, by decide⟩ (tX10_mend h) (kX10_mend l z D cA q1 M _ h) rfl ⟨rfl, rfl⟩ ⟨Nat.le_of_ble_eq_true rfl, Nat.le_of_ble_eq_true rfl⟩ ⟨hc.1, hc.2⟩ (Nat.le_of_ble_eq_true rfl) rfl dL_law_647 (fun r159 M160 h => ?_)
      clear hc
      refine x_aload_n E dL_law_650 rfl 2 rfl ?_
      obtain ⟨hc, h⟩ := h
      refine x_callVi (T := TX11) (N := 32) (t := 12) (As := []) E mlL_87 inX11_mend seX11_mend rfl ⟨by decide, by decide⟩ (tX11_mend h) (kX11_mend l z D cA q5 M160 _ h) rfl ⟨rfl, rfl⟩ ⟨Nat.le_of_ble_eq_true rfl, Nat.le_of_ble_eq_true rfl⟩ ⟨hc.1, hc.2⟩ (Nat.le_of_ble_eq_true rfl) rfl dL_law_651 (fun r161 M162 h => ?_)
      clear hc
      refine x_icmp_eq (tgt := 1034) E dL_law_654 (by decide) (fun c163 => ?_) (fun c163 => ?_)
      · replace h := xbr_t h c163
        clear c163
        refine x_iinc (v := (x3 + (J 4))) (L' := [(3, .int (x3 + (J 4))), (0, .ref b), (1, .ref q1), (2, .ref q5)]) E dL_law_1034 3 rfl rfl (by decide) rfl ?_
        refine x_goto (tgt := 18) E dL_law_1037 (by decide) ?_
        refine x_sub (L' := [(0, .ref b), (1, .ref q1), (2, .ref q5), (3, .int (x3 + (J 4)))]) [1, 2, 3, 0] rfl ?_
        exact hk18 (M162, ck, cn, (x3 + (J 4))) h
      · replace h := xbr_f h c163
        clear c163
        refine x_iconst (v := (J 0)) E dL_law_657 (by decide) ?_
        exact h.elim
    replace h := xbr_f h c158
    by_cases c164 : y11 = (J 17)
    · replace h := xbr_t h c164
      refine x_tableIn (off := 627) (tgt := 659) E dL_law_32 (by rw [c164]; decide) (by rw [c164]; decide) (by rw [c164]; decide) (by decide) ?_
      refine x_aload_n E dL_law_659 rfl 1 rfl ?_
      refine x_aload_n E dL_law_660 rfl 0 rfl ?_
      refine x_iload_n E dL_law_661 rfl 3 rfl ?_
      refine x_iconst (v := (J 1)) E dL_law_662 (by decide) ?_
      refine x_iadd E dL_law_663 ?_
      obtain ⟨hi, h⟩ := h
      refine x_sald E hX hbl hbA hi dL_law_664 ?_
      obtain ⟨v165, ev165⟩ : ∃ v165, v165 = xs ((x3 + (J 1))).toNatClampNeg := ⟨_, rfl⟩
      replace h := h v165 ev165
      refine x_top (v := .int v165) (congrArg _ ev165) ?_
      clear ev165 hi
      obtain ⟨hc, h⟩ := h
      refine x_callVi (T := TX10) (N := 13) (t := 11) (As := [.int v165]) E mlL_88 inX10_guess seX10_guess rfl ⟨by decide, by decide⟩ (tX10_guess h) (kX10_guess l z D cA q1 v165 M _ h) rfl ⟨rfl, rfl⟩ ⟨Nat.le_of_ble_eq_true rfl, Nat.le_of_ble_eq_true rfl⟩ ⟨hc.1, hc.2⟩ (Nat.le_of_ble_eq_true rfl) rfl dL_law_665 (fun r166 M167 h => ?_)
      clear hc
      refine x_aload_n E dL_law_668 rfl 2 rfl ?_
      refine x_aload_n E dL_law_669 rfl 0 rfl ?_
      refine x_iload_n E dL_law_670 rfl 3 rfl ?_
      refine x_iconst (v := (J 1)) E dL_law_671 (by decide) ?_
      refine x_iadd E dL_law_672 ?_
      obtain ⟨hi, h⟩ := h
      refine x_sald E hX hbl hbA hi dL_law_673 ?_
      obtain ⟨v168, ev168⟩ : ∃ v168, v168 = xs ((x3 + (J 1))).toNatClampNeg := ⟨_, rfl⟩
      replace h := h v168 ev168
      refine x_top (v := .int v168) (congrArg _ ev168) ?_
      clear ev168 hi
      obtain ⟨hc, h⟩ := h
      refine x_callVi (T := TX11) (N := 32) (t := 12) (As := [.int v168]) E mlL_91 inX11_guess seX11_guess rfl ⟨by decide, by decide⟩ (tX11_guess h) (kX11_guess l z D cA q5 v168 M167 _ h) rfl ⟨rfl, rfl⟩ ⟨Nat.le_of_ble_eq_true rfl, Nat.le_of_ble_eq_true rfl⟩ ⟨hc.1, hc.2⟩ (Nat.le_of_ble_eq_true rfl) rfl dL_law_674 (fun r169 M170 h => ?_)
      clear hc
      refine x_icmp_eq (tgt := 1034) E dL_law_677 (by decide) (fun c171 => ?_) (fun c171 => ?_)
      · replace h := xbr_t h c171
        clear c171
        refine x_iinc (v := (x3 + (J 4))) (L' := [(3, .int (x3 + (J 4))), (0, .ref b), (1, .ref q1), (2, .ref q5)]) E dL_law_1034 3 rfl rfl (by decide) rfl ?_
        refine x_goto (tgt := 18) E dL_law_1037 (by decide) ?_
        refine x_sub (L' := [(0, .ref b), (1, .ref q1), (2, .ref q5), (3, .int (x3 + (J 4)))]) [1, 2, 3, 0] rfl ?_
        exact hk18 (M170, ck, cn, (x3 + (J 4))) h
      · replace h := xbr_f h c171
        clear c171
        refine x_iconst (v := (J 0)) E dL_law_680 (by decide) ?_
        exact h.elim
    replace h := xbr_f h c164
    by_cases c172 : y11 = (J 18)
    · replace h := xbr_t h c172
      refine x_tableIn (off := 650) (tgt := 682) E dL_law_32 (by rw [c172]; decide) (by rw [c172]; decide) (by rw [c172]; decide) (by decide) ?_
      refine x_aload_n E dL_law_682 rfl 1 rfl ?_
      refine x_aload_n E dL_law_683 rfl 0 rfl ?_
      refine x_iload_n E dL_law_684 rfl 3 rfl ?_
      refine x_iconst (v := (J 1)) E dL_law_685 (by decide) ?_
      refine x_iadd E dL_law_686 ?_
      obtain ⟨hi, h⟩ := h
      refine x_sald E hX hbl hbA hi dL_law_687 ?_
      obtain ⟨v173, ev173⟩ : ∃ v173, v173 = xs ((x3 + (J 1))).toNatClampNeg := ⟨_, rfl⟩
      replace h := h v173 ev173
      refine x_top (v := .int v173) (congrArg _ ev173) ?_
      clear ev173 hi
      obtain ⟨hc, h⟩ := h
      refine x_callVi (T := TX10) (N := 13) (t := 11) (As := [.int v173]) E mlL_92 inX10_lay seX10_lay rfl ⟨by decide, by decide⟩ (tX10_lay h) (kX10_lay l z D cA q1 v173 M _ h) rfl ⟨rfl, rfl⟩ ⟨Nat.le_of_ble_eq_true rfl, Nat.le_of_ble_eq_true rfl⟩ ⟨hc.1, hc.2⟩ (Nat.le_of_ble_eq_true rfl) rfl dL_law_688 (fun r174 M175 h => ?_)
      clear hc
      refine x_aload_n E dL_law_691 rfl 2 rfl ?_
      refine x_aload_n E dL_law_692 rfl 0 rfl ?_
      refine x_iload_n E dL_law_693 rfl 3 rfl ?_
      refine x_iconst (v := (J 1)) E dL_law_694 (by decide) ?_
      refine x_iadd E dL_law_695 ?_
      obtain ⟨hi, h⟩ := h
      refine x_sald E hX hbl hbA hi dL_law_696 ?_
      obtain ⟨v176, ev176⟩ : ∃ v176, v176 = xs ((x3 + (J 1))).toNatClampNeg := ⟨_, rfl⟩
      replace h := h v176 ev176
      refine x_top (v := .int v176) (congrArg _ ev176) ?_
      clear ev176 hi
      obtain ⟨hc, h⟩ := h
      refine x_callVi (T := TX11) (N := 32) (t := 12) (As := [.int v176]) E mlL_95 inX11_lay seX11_lay rfl ⟨by decide, by decide⟩ (tX11_lay h) (kX11_lay l z D cA q5 v176 M175 _ h) rfl ⟨rfl, rfl⟩ ⟨Nat.le_of_ble_eq_true rfl, Nat.le_of_ble_eq_true rfl⟩ ⟨hc.1, hc.2⟩ (Nat.le_of_ble_eq_true rfl) rfl dL_law_697 (fun r177 M178 h => ?_)
      clear hc
      refine x_icmp_eq (tgt := 1034) E dL_law_700 (by decide) (fun c179 => ?_) (fun c179 => ?_)
      · replace h := xbr_t h c179
        clear c179
        refine x_iinc (v := (x3 + (J 4))) (L' := [(3, .int (x3 + (J 4))), (0, .ref b), (1, .ref q1), (2, .ref q5)]) E dL_law_1034 3 rfl rfl (by decide) rfl ?_
        refine x_goto (tgt := 18) E dL_law_1037 (by decide) ?_
        refine x_sub (L' := [(0, .ref b), (1, .ref q1), (2, .ref q5), (3, .int (x3 + (J 4)))]) [1, 2, 3, 0] rfl ?_
        exact hk18 (M178, ck, cn, (x3 + (J 4))) h
      · replace h := xbr_f h c179
        clear c179
        refine x_iconst (v := (J 0)) E dL_law_703 (by decide) ?_
        exact h.elim
    replace h := xbr_f h c172
    by_cases c180 : y11 = (J 19)
    · replace h := xbr_t h c180
      refine x_tableIn (off := 673) (tgt := 705) E dL_law_32 (by rw [c180]; decide) (by rw [c180]; decide) (by rw [c180]; decide) (by decide) ?_
      refine x_aload_n E dL_law_705 rfl 1 rfl ?_
      refine x_aload_n E dL_law_706 rfl 0 rfl ?_
      refine x_iload_n E dL_law_707 rfl 3 rfl ?_
      refine x_iconst (v := (J 1)) E dL_law_708 (by decide) ?_
      refine x_iadd E dL_law_709 ?_
      obtain ⟨hi, h⟩ := h
      refine x_sald E hX hbl hbA hi dL_law_710 ?_
      obtain ⟨v181, ev181⟩ : ∃ v181, v181 = xs ((x3 + (J 1))).toNatClampNeg := ⟨_, rfl⟩
      replace h := h v181 ev181
      refine x_top (v := .int v181) (congrArg _ ev181) ?_
      clear ev181 hi
      refine x_aload_n E dL_law_711 rfl 0 rfl ?_
      refine x_iload_n E dL_law_712 rfl 3 rfl ?_
      refine x_iconst (v := (J 2)) E dL_law_713 (by decide) ?_
      refine x_iadd E dL_law_714 ?_
      obtain ⟨hi, h⟩ := h
      refine x_sald E hX hbl hbA hi dL_law_715 ?_
      obtain ⟨v182, ev182⟩ : ∃ v182, v182 = xs ((x3 + (J 2))).toNatClampNeg := ⟨_, rfl⟩
      replace h := h v182 ev182
      refine x_top (v := .int v182) (congrArg _ ev182) ?_
      clear ev182 hi
      refine x_aload_n E dL_law_716 rfl 0 rfl ?_
      refine x_iload_n E dL_law_717 rfl 3 rfl ?_
      refine x_iconst (v := (J 3)) E dL_law_718 (by decide) ?_
      refine x_iadd E dL_law_719 ?_
      obtain ⟨hi, h⟩ := h
      refine x_sald E hX hbl hbA hi dL_law_720 ?_
      obtain ⟨v183, ev183⟩ : ∃ v183, v183 = xs ((x3 + (J 3))).toNatClampNeg := ⟨_, rfl⟩
      replace h := h v183 ev183
      refine x_top (v := .int v183) (congrArg _ ev183) ?_
      clear ev183 hi
      refine x_if_eq (tgt := 728) E dL_law_721 (by decide) (fun c184 => ?_) (fun c184 => ?_)
      · replace h := xbr_t h c184
        clear c184
        refine x_iconst (v := (J 0)) E dL_law_728 (by decide) ?_
        exact hJ729 M ck cn x3 (J 0) v182 v181 q1 h
      · replace h := xbr_f h c184
        clear c184
        refine x_iconst (v := (J 1)) E dL_law_724 (by decide) ?_
        refine x_goto (tgt := 729) E dL_law_725 (by decide) ?_
        exact hJ729 M ck cn x3 (J 1) v182 v181 q1 h
    replace h := xbr_f h c180
    by_cases c194 : y11 = (J 20)
    · replace h := xbr_t h c194
      refine x_tableIn (off := 732) (tgt := 764) E dL_law_32 (by rw [c194]; decide) (by rw [c194]; decide) (by rw [c194]; decide) (by decide) ?_
      refine x_aload_n E dL_law_764 rfl 1 rfl ?_
      refine x_aload_n E dL_law_765 rfl 0 rfl ?_
      refine x_iload_n E dL_law_766 rfl 3 rfl ?_
      refine x_iconst (v := (J 1)) E dL_law_767 (by decide) ?_
      refine x_iadd E dL_law_768 ?_
      obtain ⟨hi, h⟩ := h
      refine x_sald E hX hbl hbA hi dL_law_769 ?_
      obtain ⟨v195, ev195⟩ : ∃ v195, v195 = xs ((x3 + (J 1))).toNatClampNeg := ⟨_, rfl⟩
      replace h := h v195 ev195
      refine x_top (v := .int v195) (congrArg _ ev195) ?_
      clear ev195 hi
      refine x_aload_n E dL_law_770 rfl 0 rfl ?_
      refine x_iload_n E dL_law_771 rfl 3 rfl ?_
      refine x_iconst (v := (J 2)) E dL_law_772 (by decide) ?_
      refine x_iadd E dL_law_773 ?_
      obtain ⟨hi, h⟩ := h
      refine x_sald E hX hbl hbA hi dL_law_774 ?_
      obtain ⟨v196, ev196⟩ : ∃ v196, v196 = xs ((x3 + (J 2))).toNatClampNeg := ⟨_, rfl⟩
      replace h := h v196 ev196
      refine x_top (v := .int v196) (congrArg _ ev196) ?_
      clear ev196 hi
      obtain ⟨hc, h⟩ := h
      refine x_callVi (T := TX10) (N := 13) (t := 11) (As := [.int v195, .int v196]) E mlL_101 inX10_guide seX10_guide rfl ⟨by decide, by decide⟩ (tX10_guide h) (kX10_guide l z D cA q1 v195 v196 M _ h) rfl ⟨rfl, rfl⟩ ⟨Nat.le_of_ble_eq_true rfl, Nat.le_of_ble_eq_true rfl⟩ ⟨hc.1, hc.2⟩ (Nat.le_of_ble_eq_true rfl) rfl dL_law_775 (x_pure (fun r197 h => ?_))
      clear hc
      refine x_aload_n E dL_law_778 rfl 2 rfl ?_
      refine x_aload_n E dL_law_779 rfl 0 rfl ?_
      refine x_iload_n E dL_law_780 rfl 3 rfl ?_
      refine x_iconst (v := (J 1)) E dL_law_781 (by decide) ?_
      refine x_iadd E dL_law_782 ?_
      obtain ⟨hi, h⟩ := h
      refine x_sald E hX hbl hbA hi dL_law_783 ?_
      obtain ⟨v199, ev199⟩ : ∃ v199, v199 = xs ((x3 + (J 1))).toNatClampNeg := ⟨_, rfl⟩
      replace h := h v199 ev199
      refine x_top (v := .int v199) (congrArg _ ev199) ?_
      clear ev199 hi
      refine x_aload_n E dL_law_784 rfl 0 rfl ?_
      refine x_iload_n E dL_law_785 rfl 3 rfl ?_
      refine x_iconst (v := (J 2)) E dL_law_786 (by decide) ?_
      refine x_iadd E dL_law_787 ?_
      obtain ⟨hi, h⟩ := h
      refine x_sald E hX hbl hbA hi dL_law_788 ?_
      obtain ⟨v200, ev200⟩ : ∃ v200, v200 = xs ((x3 + (J 2))).toNatClampNeg := ⟨_, rfl⟩
      replace h := h v200 ev200
      refine x_top (v := .int v200) (congrArg _ ev200) ?_
      clear ev200 hi
      obtain ⟨hc, h⟩ := h
      refine x_callVi (T := TX11) (N := 32) (t := 12) (As := [.int v199, .int v200]) E mlL_104 inX11_guide seX11_guide rfl ⟨by decide, by decide⟩ (tX11_guide h) (kX11_guide l z D cA q5 v199 v200 M _ h) rfl ⟨rfl, rfl⟩ ⟨Nat.le_of_ble_eq_true rfl, Nat.le_of_ble_eq_true rfl⟩ ⟨hc.1, hc.2⟩ (Nat.le_of_ble_eq_true rfl) rfl dL_law_789 (fun r201 M202 h => ?_)
      clear hc
      refine x_icmp_eq (tgt := 1034) E dL_law_792 (by decide) (fun c203 => ?_) (fun c203 => ?_)
      · replace h := xbr_t h c203
        clear c203
        refine x_iinc (v := (x3 + (J 4))) (L' := [(3, .int (x3 + (J 4))), (0, .ref b), (1, .ref q1), (2, .ref q5)]) E dL_law_1034 3 rfl rfl (by decide) rfl ?_
        refine x_goto (tgt := 18) E dL_law_1037 (by decide) ?_
        refine x_sub (L' := [(0, .ref b), (1, .ref q1), (2, .ref q5), (3, .int (x3 + (J 4)))]) [1, 2, 3, 0] rfl ?_
        exact hk18 (M202, ck, cn, (x3 + (J 4))) h
      · replace h := xbr_f h c203
        clear c203
        refine x_iconst (v := (J 0)) E dL_law_795 (by decide) ?_
        exact h.elim
    replace h := xbr_f h c194
    by_cases c204 : y11 = (J 21)
    · replace h := xbr_t h c204
      refine x_tableIn (off := 765) (tgt := 797) E dL_law_32 (by rw [c204]; decide) (by rw [c204]; decide) (by rw [c204]; decide) (by decide) ?_
      refine x_aload_n E dL_law_797 rfl 1 rfl ?_
      refine x_aload_n E dL_law_798 rfl 0 rfl ?_
      refine x_iload_n E dL_law_799 rfl 3 rfl ?_
      refine x_iconst (v := (J 1)) E dL_law_800 (by decide) ?_
      refine x_iadd E dL_law_801 ?_
      obtain ⟨hi, h⟩ := h
      refine x_sald E hX hbl hbA hi dL_law_802 ?_
      obtain ⟨v205, ev205⟩ : ∃ v205, v205 = xs ((x3 + (J 1))).toNatClampNeg := ⟨_, rfl⟩
      replace h := h v205 ev205
      refine x_top (v := .int v205) (congrArg _ ev205) ?_
      clear ev205 hi
      obtain ⟨hc, h⟩ := h
      refine x_callVi (T := TX10) (N := 13) (t := 11) (As := [.int v205]) E mlL_105 inX10_list seX10_list rfl ⟨by decide, by decide⟩ (tX10_list h) (kX10_list l z D cA q1 v205 M _ h) rfl ⟨rfl, rfl⟩ ⟨Nat.le_of_ble_eq_true rfl, Nat.le_of_ble_eq_true rfl⟩ ⟨hc.1, hc.2⟩ (Nat.le_of_ble_eq_true rfl) rfl dL_law_803 (fun r206 M207 h => ?_)
      clear hc
      refine x_aload_n E dL_law_806 rfl 2 rfl ?_
      refine x_aload_n E dL_law_807 rfl 0 rfl ?_
      refine x_iload_n E dL_law_808 rfl 3 rfl ?_
      refine x_iconst (v := (J 1)) E dL_law_809 (by decide) ?_
      refine x_iadd E dL_law_810 ?_
      obtain ⟨hi, h⟩ := h
      refine x_sald E hX hbl hbA hi dL_law_811 ?_
      obtain ⟨v208, ev208⟩ : ∃ v208, v208 = xs ((x3 + (J 1))).toNatClampNeg := ⟨_, rfl⟩
      replace h := h v208 ev208
      refine x_top (v := .int v208) (congrArg _ ev208) ?_
      clear ev208 hi
      obtain ⟨hc, h⟩ := h
      refine x_callVi (T := TX11) (N := 32) (t := 12) (As := [.int v208]) E mlL_108 inX11_list seX11_list rfl ⟨by decide, by decide⟩ (tX11_list h) (kX11_list l z D cA q5 v208 M207 _ h) rfl ⟨rfl, rfl⟩ ⟨Nat.le_of_ble_eq_true rfl, Nat.le_of_ble_eq_true rfl⟩ ⟨hc.1, hc.2⟩ (Nat.le_of_ble_eq_true rfl) rfl dL_law_812 (fun r209 M210 h => ?_)
      clear hc
      refine x_icmp_eq (tgt := 1034) E dL_law_815 (by decide) (fun c211 => ?_) (fun c211 => ?_)
      · replace h := xbr_t h c211
        clear c211
        refine x_iinc (v := (x3 + (J 4))) (L' := [(3, .int (x3 + (J 4))), (0, .ref b), (1, .ref q1), (2, .ref q5)]) E dL_law_1034 3 rfl rfl (by decide) rfl ?_
        refine x_goto (tgt := 18) E dL_law_1037 (by decide) ?_
        refine x_sub (L' := [(0, .ref b), (1, .ref q1), (2, .ref q5), (3, .int (x3 + (J 4)))]) [1, 2, 3, 0] rfl ?_
        exact hk18 (M210, ck, cn, (x3 + (J 4))) h
      · replace h := xbr_f h c211
        clear c211
        refine x_iconst (v := (J 0)) E dL_law_818 (by decide) ?_
        exact h.elim
    replace h := xbr_f h c204
    by_cases c212 : y11 = (J 22)
    · replace h := xbr_t h c212
      refine x_tableIn (off := 788) (tgt := 820) E dL_law_32 (by rw [c212]; decide) (by rw [c212]; decide) (by rw [c212]; decide) (by decide) ?_
      refine x_aload_n E dL_law_820 rfl 1 rfl ?_
      refine x_aload_n E dL_law_821 rfl 0 rfl ?_
      refine x_iload_n E dL_law_822 rfl 3 rfl ?_
      refine x_iconst (v := (J 1)) E dL_law_823 (by decide) ?_
      refine x_iadd E dL_law_824 ?_
      obtain ⟨hi, h⟩ := h
      refine x_sald E hX hbl hbA hi dL_law_825 ?_
      obtain ⟨v213, ev213⟩ : ∃ v213, v213 = xs ((x3 + (J 1))).toNatClampNeg := ⟨_, rfl⟩
      replace h := h v213 ev213
      refine x_top (v := .int v213) (congrArg _ ev213) ?_
      clear ev213 hi
      obtain ⟨hc, h⟩ := h
      refine x_callVi (T := TX10) (N := 13) (t := 11) (As := [.int v213]) E mlL_109 inX10_stock seX10_stock rfl ⟨by decide, by decide⟩ (tX10_stock h) (kX10_stock l z D cA q1 v213 M _ h) rfl ⟨rfl, rfl⟩ ⟨Nat.le_of_ble_eq_true rfl, Nat.le_of_ble_eq_true rfl⟩ ⟨hc.1, hc.2⟩ (Nat.le_of_ble_eq_true rfl) rfl dL_law_826 (x_pure (fun r214 h => ?_))
      clear hc
      refine x_aload_n E dL_law_829 rfl 2 rfl ?_
      refine x_aload_n E dL_law_830 rfl 0 rfl ?_
      refine x_iload_n E dL_law_831 rfl 3 rfl ?_
      refine x_iconst (v := (J 1)) E dL_law_832 (by decide) ?_
      refine x_iadd E dL_law_833 ?_
      obtain ⟨hi, h⟩ := h
      refine x_sald E hX hbl hbA hi dL_law_834 ?_
      obtain ⟨v216, ev216⟩ : ∃ v216, v216 = xs ((x3 + (J 1))).toNatClampNeg := ⟨_, rfl⟩
      replace h := h v216 ev216
      refine x_top (v := .int v216) (congrArg _ ev216) ?_
      clear ev216 hi
      obtain ⟨hc, h⟩ := h
      refine x_callVi (T := TX11) (N := 32) (t := 12) (As := [.int v216]) E mlL_112 inX11_stock seX11_stock rfl ⟨by decide, by decide⟩ (tX11_stock h) (kX11_stock l z D cA q5 v216 M _ h) rfl ⟨rfl, rfl⟩ ⟨Nat.le_of_ble_eq_true rfl, Nat.le_of_ble_eq_true rfl⟩ ⟨hc.1, hc.2⟩ (Nat.le_of_ble_eq_true rfl) rfl dL_law_835 (x_pure (fun r217 h => ?_))
      clear hc
      refine x_icmp_eq (tgt := 1034) E dL_law_838 (by decide) (fun c219 => ?_) (fun c219 => ?_)
      · replace h := xbr_t h c219
        clear c219
        refine x_iinc (v := (x3 + (J 4))) (L' := [(3, .int (x3 + (J 4))), (0, .ref b), (1, .ref q1), (2, .ref q5)]) E dL_law_1034 3 rfl rfl (by decide) rfl ?_
        refine x_goto (tgt := 18) E dL_law_1037 (by decide) ?_
        refine x_sub (L' := [(0, .ref b), (1, .ref q1), (2, .ref q5), (3, .int (x3 + (J 4)))]) [1, 2, 3, 0] rfl ?_
        exact hk18 (M, ck, cn, (x3 + (J 4))) h
      · replace h := xbr_f h c219
        clear c219
        refine x_iconst (v := (J 0)) E dL_law_841 (by decide) ?_
        exact h.elim
    replace h := xbr_f h c212
    by_cases c220 : y11 = (J 23)
    · replace h := xbr_t h c220
      refine x_tableIn (off := 811) (tgt := 843) E dL_law_32 (by rw [c220]; decide) (by rw [c220]; decide) (by rw [c220]; decide) (by decide) ?_
      refine x_aload_n E dL_law_843 rfl 1 rfl ?_
      refine x_aload_n E dL_law_844 rfl 0 rfl ?_
      refine x_iload_n E dL_law_845 rfl 3 rfl ?_
      refine x_iconst (v := (J 1)) E dL_law_846 (by decide) ?_
      refine x_iadd E dL_law_847 ?_
      obtain ⟨hi, h⟩ := h
      refine x_sald E hX hbl hbA hi dL_law_848 ?_
      obtain ⟨v221, ev221⟩ : ∃ v221, v221 = xs ((x3 + (J 1))).toNatClampNeg := ⟨_, rfl⟩
      replace h := h v221 ev221
      refine x_top (v := .int v221) (congrArg _ ev221) ?_
      clear ev221 hi
      refine x_aload_n E dL_law_849 rfl 0 rfl ?_
      refine x_iload_n E dL_law_850 rfl 3 rfl ?_
      refine x_iconst (v := (J 2)) E dL_law_851 (by decide) ?_
      refine x_iadd E dL_law_852 ?_
      obtain ⟨hi, h⟩ := h
      refine x_sald E hX hbl hbA hi dL_law_853 ?_
      obtain ⟨v222, ev222⟩ : ∃ v222, v222 = xs ((x3 + (J 2))).toNatClampNeg := ⟨_, rfl⟩
      replace h := h v222 ev222
      refine x_top (v := .int v222) (congrArg _ ev222) ?_
      clear ev222 hi
      obtain ⟨hc, h⟩ := h
      refine x_callVi (T := TX10) (N := 13) (t := 11) (As := [.int v221, .int v222]) E mlL_113 inX10_habit seX10_habit rfl ⟨by decide, by decide⟩ (tX10_habit h) (kX10_habit l z D cA q1 v221 v222 M _ h) rfl ⟨rfl, rfl⟩ ⟨Nat.le_of_ble_eq_true rfl, Nat.le_of_ble_eq_true rfl⟩ ⟨hc.1, hc.2⟩ (Nat.le_of_ble_eq_true rfl) rfl dL_law_854 (fun r223 M224 h => ?_)
      clear hc
      refine x_aload_n E dL_law_857 rfl 2 rfl ?_
      refine x_aload_n E dL_law_858 rfl 0 rfl ?_
      refine x_iload_n E dL_law_859 rfl 3 rfl ?_
      refine x_iconst (v := (J 1)) E dL_law_860 (by decide) ?_
      refine x_iadd E dL_law_861 ?_
      obtain ⟨hi, h⟩ := h
      refine x_sald E hX hbl hbA hi dL_law_862 ?_
      obtain ⟨v225, ev225⟩ : ∃ v225, v225 = xs ((x3 + (J 1))).toNatClampNeg := ⟨_, rfl⟩
      replace h := h v225 ev225
      refine x_top (v := .int v225) (congrArg _ ev225) ?_
      clear ev225 hi
      refine x_aload_n E dL_law_863 rfl 0 rfl ?_
      refine x_iload_n E dL_law_864 rfl 3 rfl ?_
      refine x_iconst (v := (J 2)) E dL_law_865 (by decide) ?_
      refine x_iadd E dL_law_866 ?_
      obtain ⟨hi, h⟩ := h
      refine x_sald E hX hbl hbA hi dL_law_867 ?_
      obtain ⟨v226, ev226⟩ : ∃ v226, v226 = xs ((x3 + (J 2))).toNatClampNeg := ⟨_, rfl⟩
      replace h := h v226 ev226
      refine x_top (v := .int v226) (congrArg _ ev226) ?_
      clear ev226 hi
      obtain ⟨hc, h⟩ := h
      refine x_callVi (T := TX11) (N := 32) (t := 12) (As := [.int v225, .int v226]) E mlL_116 inX11_habit seX11_habit rfl ⟨by decide, by decide⟩ (tX11_habit h) (kX11_habit l z D cA q5 v225 v226 M224 _ h) rfl ⟨rfl, rfl⟩ ⟨Nat.le_of_ble_eq_true rfl, Nat.le_of_ble_eq_true rfl⟩ ⟨hc.1, hc.2⟩ (Nat.le_of_ble_eq_true rfl) rfl dL_law_868 (fun r227 M228 h => ?_)
      clear hc
      refine x_icmp_eq (tgt := 1034) E dL_law_871 (by decide) (fun c229 => ?_) (fun c229 => ?_)
      · replace h := xbr_t h c229
        clear c229
        refine x_iinc (v := (x3 + (J 4))) (L' := [(3, .int (x3 + (J 4))), (0, .ref b), (1, .ref q1), (2, .ref q5)]) E dL_law_1034 3 rfl rfl (by decide) rfl ?_
        refine x_goto (tgt := 18) E dL_law_1037 (by decide) ?_
        refine x_sub (L' := [(0, .ref b), (1, .ref q1), (2, .ref q5), (3, .int (x3 + (J 4)))]) [1, 2, 3, 0] rfl ?_
        exact hk18 (M228, ck, cn, (x3 + (J 4))) h
      · replace h := xbr_f h c229
        clear c229
        refine x_iconst (v := (J 0)) E dL_law_874 (by decide) ?_
        exact h.elim
    replace h := xbr_f h c220
    by_cases c230 : y11 = (J 24)
    · replace h := xbr_t h c230
      refine x_tableIn (off := 844) (tgt := 876) E dL_law_32 (by rw [c230]; decide) (by rw [c230]; decide) (by rw [c230]; decide) (by decide) ?_
      refine x_aload_n E dL_law_876 rfl 1 rfl ?_
      refine x_aload_n E dL_law_877 rfl 0 rfl ?_
      refine x_iload_n E dL_law_878 rfl 3 rfl ?_
      refine x_iconst (v := (J 1)) E dL_law_879 (by decide) ?_
      refine x_iadd E dL_law_880 ?_
      obtain ⟨hi, h⟩ := h
      refine x_sald E hX hbl hbA hi dL_law_881 ?_
      obtain ⟨v231, ev231⟩ : ∃ v231, v231 = xs ((x3 + (J 1))).toNatClampNeg := ⟨_, rfl⟩
      replace h := h v231 ev231
      refine x_top (v := .int v231) (congrArg _ ev231) ?_
      clear ev231 hi
      refine x_aload_n E dL_law_882 rfl 0 rfl ?_
      refine x_iload_n E dL_law_883 rfl 3 rfl ?_
      refine x_iconst (v := (J 2)) E dL_law_884 (by decide) ?_
      refine x_iadd E dL_law_885 ?_
      obtain ⟨hi, h⟩ := h
      refine x_sald E hX hbl hbA hi dL_law_886 ?_
      obtain ⟨v232, ev232⟩ : ∃ v232, v232 = xs ((x3 + (J 2))).toNatClampNeg := ⟨_, rfl⟩
      replace h := h v232 ev232
      refine x_top (v := .int v232) (congrArg _ ev232) ?_
      clear ev232 hi
      obtain ⟨hc, h⟩ := h
      refine x_callVi (T := TX10) (N := 13) (t := 11) (As := [.int v231, .int v232]) E mlL_117 inX10_likely seX10_likely rfl ⟨by decide, by decide⟩ (tX10_likely h) (kX10_likely l z D cA q1 v231 v232 M _ h) rfl ⟨rfl, rfl⟩ ⟨Nat.le_of_ble_eq_true rfl, Nat.le_of_ble_eq_true rfl⟩ ⟨hc.1, hc.2⟩ (Nat.le_of_ble_eq_true rfl) rfl dL_law_887 (x_pure (fun r233 h => ?_))
      clear hc
      refine x_aload_n E dL_law_890 rfl 2 rfl ?_
      refine x_aload_n E dL_law_891 rfl 0 rfl ?_
      refine x_iload_n E dL_law_892 rfl 3 rfl ?_
      refine x_iconst (v := (J 1)) E dL_law_893 (by decide) ?_
      refine x_iadd E dL_law_894 ?_
      obtain ⟨hi, h⟩ := h
      refine x_sald E hX hbl hbA hi dL_law_895 ?_
      obtain ⟨v235, ev235⟩ : ∃ v235, v235 = xs ((x3 + (J 1))).toNatClampNeg := ⟨_, rfl⟩
      replace h := h v235 ev235
      refine x_top (v := .int v235) (congrArg _ ev235) ?_
      clear ev235 hi
      refine x_aload_n E dL_law_896 rfl 0 rfl ?_
      refine x_iload_n E dL_law_897 rfl 3 rfl ?_
      refine x_iconst (v := (J 2)) E dL_law_898 (by decide) ?_
      refine x_iadd E dL_law_899 ?_
      obtain ⟨hi, h⟩ := h
      refine x_sald E hX hbl hbA hi dL_law_900 ?_
      obtain ⟨v236, ev236⟩ : ∃ v236, v236 = xs ((x3 + (J 2))).toNatClampNeg := ⟨_, rfl⟩
      replace h := h v236 ev236
      refine x_top (v := .int v236) (congrArg _ ev236) ?_
      clear ev236 hi
      obtain ⟨hc, h⟩ := h
      refine x_callVi (T := TX11) (N := 32) (t := 12) (As := [.int v235, .int v236]) E mlL_120 inX11_likely seX11_likely rfl ⟨by decide, by decide⟩ (tX11_likely h) (kX11_likely l z D cA q5 v235 v236 M _ h) rfl ⟨rfl, rfl⟩ ⟨Nat.le_of_ble_eq_true rfl, Nat.le_of_ble_eq_true rfl⟩ ⟨hc.1, hc.2⟩ (Nat.le_of_ble_eq_true rfl) rfl dL_law_901 (x_pure (fun r237 h => ?_))
      clear hc
      refine x_icmp_eq (tgt := 1034) E dL_law_904 (by decide) (fun c239 => ?_) (fun c239 => ?_)
      · replace h := xbr_t h c239
        clear c239
        refine x_iinc (v := (x3 + (J 4))) (L' := [(3, .int (x3 + (J 4))), (0, .ref b), (1, .ref q1), (2, .ref q5)]) E dL_law_1034 3 rfl rfl (by decide) rfl ?_
        refine x_goto (tgt := 18) E dL_law_1037 (by decide) ?_
        refine x_sub (L' := [(0, .ref b), (1, .ref q1), (2, .ref q5), (3, .int (x3 + (J 4)))]) [1, 2, 3, 0] rfl ?_
        exact hk18 (M, ck, cn, (x3 + (J 4))) h
      · replace h := xbr_f h c239
        clear c239
        refine x_iconst (v := (J 0)) E dL_law_907 (by decide) ?_
        exact h.elim
    replace h := xbr_f h c230
    by_cases c240 : y11 = (J 25)
    · replace h := xbr_t h c240
      refine x_tableIn (off := 877) (tgt := 909) E dL_law_32 (by rw [c240]; decide) (by rw [c240]; decide) (by rw [c240]; decide) (by decide) ?_
      refine x_aload_n E dL_law_909 rfl 1 rfl ?_
      refine x_aload_n E dL_law_910 rfl 0 rfl ?_
      refine x_iload_n E dL_law_911 rfl 3 rfl ?_
      refine x_iconst (v := (J 1)) E dL_law_912 (by decide) ?_
      refine x_iadd E dL_law_913 ?_
      obtain ⟨hi, h⟩ := h
      refine x_sald E hX hbl hbA hi dL_law_914 ?_
      obtain ⟨v241, ev241⟩ : ∃ v241, v241 = xs ((x3 + (J 1))).toNatClampNeg := ⟨_, rfl⟩
      replace h := h v241 ev241
      refine x_top (v := .int v241) (congrArg _ ev241) ?_
      clear ev241 hi
      refine x_aload_n E dL_law_915 rfl 0 rfl ?_
      refine x_iload_n E dL_law_916 rfl 3 rfl ?_
      refine x_iconst (v := (J 2)) E dL_law_917 (by decide) ?_
      refine x_iadd E dL_law_918 ?_
      obtain ⟨hi, h⟩ := h
      refine x_sald E hX hbl hbA hi dL_law_919 ?_
      obtain ⟨v242, ev242⟩ : ∃ v242, v242 = xs ((x3 + (J 2))).toNatClampNeg := ⟨_, rfl⟩
      replace h := h v242 ev242
      refine x_top (v := .int v242) (congrArg _ ev242) ?_
      clear ev242 hi
      obtain ⟨hc, h⟩ := h
      refine x_callVi (T := TX10) (N := 13) (t := 11) (As := [.int v241, .int v242]) E mlL_121 inX10_search seX10_search rfl ⟨by decide, by decide⟩ (tX10_search h) (kX10_search l z D cA q1 v241 v242 M _ h) rfl ⟨rfl, rfl⟩ ⟨Nat.le_of_ble_eq_true rfl, Nat.le_of_ble_eq_true rfl⟩ ⟨hc.1, hc.2⟩ (Nat.le_of_ble_eq_true rfl) rfl dL_law_920 (fun r243 M244 h => ?_)
      clear hc
      refine x_aload_n E dL_law_923 rfl 2 rfl ?_
      refine x_aload_n E dL_law_924 rfl 0 rfl ?_
      refine x_iload_n E dL_law_925 rfl 3 rfl ?_
      refine x_iconst (v := (J 1)) E dL_law_926 (by decide) ?_
      refine x_iadd E dL_law_927 ?_
      obtain ⟨hi, h⟩ := h
      refine x_sald E hX hbl hbA hi dL_law_928 ?_
      obtain ⟨v245, ev245⟩ : ∃ v245, v245 = xs ((x3 + (J 1))).toNatClampNeg := ⟨_, rfl⟩
      replace h := h v245 ev245
      refine x_top (v := .int v245) (congrArg _ ev245) ?_
      clear ev245 hi
      refine x_aload_n E dL_law_929 rfl 0 rfl ?_
      refine x_iload_n E dL_law_930 rfl 3 rfl ?_
      refine x_iconst (v := (J 2)) E dL_law_931 (by decide) ?_
      refine x_iadd E dL_law_932 ?_
      obtain ⟨hi, h⟩ := h
      refine x_sald E hX hbl hbA hi dL_law_933 ?_
      obtain ⟨v246, ev246⟩ : ∃ v246, v246 = xs ((x3 + (J 2))).toNatClampNeg := ⟨_, rfl⟩
      replace h := h v246 ev246
      refine x_top (v := .int v246) (congrArg _ ev246) ?_
      clear ev246 hi
      obtain ⟨hc, h⟩ := h
      refine x_callVi (T := TX11) (N := 32) (t := 12) (As := [.int v245, .int v246]) E mlL_124 inX11_search seX11_search rfl ⟨by decide, by decide⟩ (tX11_search h) (kX11_search l z D cA q5 v245 v246 M244 _ h) rfl ⟨rfl, rfl⟩ ⟨Nat.le_of_ble_eq_true rfl, Nat.le_of_ble_eq_true rfl⟩ ⟨hc.1, hc.2⟩ (Nat.le_of_ble_eq_true rfl) rfl dL_law_934 (fun r247 M248 h => ?_)
      clear hc
      refine x_icmp_eq (tgt := 1034) E dL_law_937 (by decide) (fun c249 => ?_) (fun c249 => ?_)
      · replace h := xbr_t h c249
        clear c249
        refine x_iinc (v := (x3 + (J 4))) (L' := [(3, .int (x3 + (J 4))), (0, .ref b), (1, .ref q1), (2, .ref q5)]) E dL_law_1034 3 rfl rfl (by decide) rfl ?_
        refine x_goto (tgt := 18) E dL_law_1037 (by decide) ?_
        refine x_sub (L' := [(0, .ref b), (1, .ref q1), (2, .ref q5), (3, .int (x3 + (J 4)))]) [1, 2, 3, 0] rfl ?_
        exact hk18 (M248, ck, cn, (x3 + (J 4))) h
      · replace h := xbr_f h c249
        clear c249
        refine x_iconst (v := (J 0)) E dL_law_940 (by decide) ?_
        exact h.elim
    replace h := xbr_f h c240
    by_cases c250 : y11 = (J 26)
    · replace h := xbr_t h c250
      refine x_tableIn (off := 910) (tgt := 942) E dL_law_32 (by rw [c250]; decide) (by rw [c250]; decide) (by rw [c250]; decide) (by decide) ?_
      refine x_aload_n E dL_law_942 rfl 1 rfl ?_
      refine x_aload_n E dL_law_943 rfl 0 rfl ?_
      refine x_iload_n E dL_law_944 rfl 3 rfl ?_
      refine x_iconst (v := (J 1)) E dL_law_945 (by decide) ?_
      refine x_iadd E dL_law_946 ?_
      obtain ⟨hi, h⟩ := h
      refine x_sald E hX hbl hbA hi dL_law_947 ?_
      obtain ⟨v251, ev251⟩ : ∃ v251, v251 = xs ((x3 + (J 1))).toNatClampNeg := ⟨_, rfl⟩
      replace h := h v251 ev251
      refine x_top (v := .int v251) (congrArg _ ev251) ?_
      clear ev251 hi
      obtain ⟨hc, h⟩ := h
      refine x_callVi (T := TX10) (N := 13) (t := 11) (As := [.int v251]) E mlL_125 inX10_seed seX10_seed rfl ⟨by decide, by decide⟩ (tX10_seed h) (kX10_seed l z D cA q1 v251 M _ h) rfl ⟨rfl, rfl⟩ ⟨Nat.le_of_ble_eq_true rfl, Nat.le_of_ble_eq_true rfl⟩ ⟨hc.1, hc.2⟩ (Nat.le_of_ble_eq_true rfl) rfl dL_law_948 (fun r252 M253 h => ?_)
      clear hc
      refine x_aload_n E dL_law_951 rfl 2 rfl ?_
      refine x_aload_n E dL_law_952 rfl 0 rfl ?_
      refine x_iload_n E dL_law_953 rfl 3 rfl ?_
      refine x_iconst (v := (J 1)) E dL_law_954 (by decide) ?_
      refine x_iadd E dL_law_955 ?_
      obtain ⟨hi, h⟩ := h
      refine x_sald E hX hbl hbA hi dL_law_956 ?_
      obtain ⟨v254, ev254⟩ : ∃ v254, v254 = xs ((x3 + (J 1))).toNatClampNeg := ⟨_, rfl⟩
      replace h := h v254 ev254
      refine x_top (v := .int v254) (congrArg _ ev254) ?_
      clear ev254 hi
      obtain ⟨hc, h⟩ := h
      refine x_callVi (T := TX11) (N := 32) (t := 12) (As := [.int v254]) E mlL_128 inX11_seed seX11_seed rfl ⟨by decide, by decide⟩ (tX11_seed h) (kX11_seed l z D cA q5 v254 M253 _ h) rfl ⟨rfl, rfl⟩ ⟨Nat.le_of_ble_eq_true rfl, Nat.le_of_ble_eq_true rfl⟩ ⟨hc.1, hc.2⟩ (Nat.le_of_ble_eq_true rfl) rfl dL_law_957 (fun r255 M256 h => ?_)
      clear hc
      refine x_icmp_eq (tgt := 1034) E dL_law_960 (by decide) (fun c257 => ?_) (fun c257 => ?_)
      · replace h := xbr_t h c257
        clear c257
        refine x_iinc (v := (x3 + (J 4))) (L' := [(3, .int (x3 + (J 4))), (0, .ref b), (1, .ref q1), (2, .ref q5)]) E dL_law_1034 3 rfl rfl (by decide) rfl ?_
        refine x_goto (tgt := 18) E dL_law_1037 (by decide) ?_
        refine x_sub (L' := [(0, .ref b), (1, .ref q1), (2, .ref q5), (3, .int (x3 + (J 4)))]) [1, 2, 3, 0] rfl ?_
        exact hk18 (M256, ck, cn, (x3 + (J 4))) h
      · replace h := xbr_f h c257
        clear c257
        refine x_iconst (v := (J 0)) E dL_law_963 (by decide) ?_
        exact h.elim
    replace h := xbr_f h c250
    by_cases c258 : y11 = (J 27)
    · replace h := xbr_t h c258
      refine x_tableIn (off := 933) (tgt := 965) E dL_law_32 (by rw [c258]; decide) (by rw [c258]; decide) (by rw [c258]; decide) (by decide) ?_
      refine x_aload_n E dL_law_965 rfl 1 rfl ?_
      refine x_aload_n E dL_law_966 rfl 0 rfl ?_
      refine x_iload_n E dL_law_967 rfl 3 rfl ?_
      refine x_iconst (v := (J 1)) E dL_law_968 (by decide) ?_
      refine x_iadd E dL_law_969 ?_
      obtain ⟨hi, h⟩ := h
      refine x_sald E hX hbl hbA hi dL_law_970 ?_
      obtain ⟨v259, ev259⟩ : ∃ v259, v259 = xs ((x3 + (J 1))).toNatClampNeg := ⟨_, rfl⟩
      replace h := h v259 ev259
      refine x_top (v := .int v259) (congrArg _ ev259) ?_
      clear ev259 hi
      obtain ⟨hc, h⟩ := h
      refine x_callVi (T := TX10) (N := 13) (t := 11) (As := [.int v259]) E mlL_129 inX10_shelve seX10_shelve rfl ⟨by decide, by decide⟩ (tX10_shelve h) (kX10_shelve l z D cA q1 v259 M _ h) rfl ⟨rfl, rfl⟩ ⟨Nat.le_of_ble_eq_true rfl, Nat.le_of_ble_eq_true rfl⟩ ⟨hc.1, hc.2⟩ (Nat.le_of_ble_eq_true rfl) rfl dL_law_971 (fun r260 M261 h => ?_)
      clear hc
      refine x_aload_n E dL_law_974 rfl 2 rfl ?_
      refine x_aload_n E dL_law_975 rfl 0 rfl ?_
      refine x_iload_n E dL_law_976 rfl 3 rfl ?_
      refine x_iconst (v := (J 1)) E dL_law_977 (by decide) ?_
      refine x_iadd E dL_law_978 ?_
      obtain ⟨hi, h⟩ := h
      refine x_sald E hX hbl hbA hi dL_law_979 ?_
      obtain ⟨v262, ev262⟩ : ∃ v262, v262 = xs ((x3 + (J 1))).toNatClampNeg := ⟨_, rfl⟩
      replace h := h v262 ev262
      refine x_top (v := .int v262) (congrArg _ ev262) ?_
      clear ev262 hi
      obtain ⟨hc, h⟩ := h
      refine x_callVi (T := TX11) (N := 32) (t := 12) (As := [.int v262]) E mlL_132 inX11_shelve seX11_shelve rfl ⟨by decide, by decide⟩ (tX11_shelve h) (kX11_shelve l z D cA q5 v262 M261 _ h) rfl ⟨rfl, rfl⟩ ⟨Nat.le_of_ble_eq_true rfl, Nat.le_of_ble_eq_true rfl⟩ ⟨hc.1, hc.2⟩ (Nat.le_of_ble_eq_true rfl) rfl dL_law_980 (fun r263 M264 h => ?_)
      clear hc
      refine x_icmp_eq (tgt := 1034) E dL_law_983 (by decide) (fun c265 => ?_) (fun c265 => ?_)
      · replace h := xbr_t h c265
        clear c265
        refine x_iinc (v := (x3 + (J 4))) (L' := [(3, .int (x3 + (J 4))), (0, .ref b), (1, .ref q1), (2, .ref q5)]) E dL_law_1034 3 rfl rfl (by decide) rfl ?_
        refine x_goto (tgt := 18) E dL_law_1037 (by decide) ?_
        refine x_sub (L' := [(0, .ref b), (1, .ref q1), (2, .ref q5), (3, .int (x3 + (J 4)))]) [1, 2, 3, 0] rfl ?_
        exact hk18 (M264, ck, cn, (x3 + (J 4))) h
      · replace h := xbr_f h c265
        clear c265
        refine x_iconst (v := (J 0)) E dL_law_986 (by decide) ?_
        exact h.elim
    replace h := xbr_f h c258
    by_cases c266 : y11 = (J 28)
    · replace h := xbr_t h c266
      refine x_tableIn (off := 956) (tgt := 988) E dL_law_32 (by rw [c266]; decide) (by rw [c266]; decide) (by rw [c266]; decide) (by decide) ?_
      refine x_aload_n E dL_law_988 rfl 1 rfl ?_
      refine x_aload_n E dL_law_989 rfl 0 rfl ?_
      refine x_iload_n E dL_law_990 rfl 3 rfl ?_
      refine x_iconst (v := (J 1)) E dL_law_991 (by decide) ?_
      refine x_iadd E dL_law_992 ?_
      obtain ⟨hi, h⟩ := h
      refine x_sald E hX hbl hbA hi dL_law_993 ?_
      obtain ⟨v267, ev267⟩ : ∃ v267, v267 = xs ((x3 + (J 1))).toNatClampNeg := ⟨_, rfl⟩
      replace h := h v267 ev267
      refine x_top (v := .int v267) (congrArg _ ev267) ?_
      clear ev267 hi
      obtain ⟨hc, h⟩ := h
      refine x_callVi (T := TX10) (N := 13) (t := 11) (As := [.int v267]) E mlL_133 inX10_keep seX10_keep rfl ⟨by decide, by decide⟩ (tX10_keep h) (kX10_keep l z D cA q1 v267 M _ h) rfl ⟨rfl, rfl⟩ ⟨Nat.le_of_ble_eq_true rfl, Nat.le_of_ble_eq_true rfl⟩ ⟨hc.1, hc.2⟩ (Nat.le_of_ble_eq_true rfl) rfl dL_law_994 (fun r268 M269 h => ?_)
      clear hc
      refine x_aload_n E dL_law_997 rfl 2 rfl ?_
      refine x_aload_n E dL_law_998 rfl 0 rfl ?_
      refine x_iload_n E dL_law_999 rfl 3 rfl ?_
      refine x_iconst (v := (J 1)) E dL_law_1000 (by decide) ?_
      refine x_iadd E dL_law_1001 ?_
      obtain ⟨hi, h⟩ := h
      refine x_sald E hX hbl hbA hi dL_law_1002 ?_
      obtain ⟨v270, ev270⟩ : ∃ v270, v270 = xs ((x3 + (J 1))).toNatClampNeg := ⟨_, rfl⟩
      replace h := h v270 ev270
      refine x_top (v := .int v270) (congrArg _ ev270) ?_
      clear ev270 hi
      obtain ⟨hc, h⟩ := h
      refine x_callVi (T := TX11) (N := 32) (t := 12) (As := [.int v270]) E mlL_136 inX11_keep seX11_keep rfl ⟨by decide, by decide⟩ (tX11_keep h) (kX11_keep l z D cA q5 v270 M269 _ h) rfl ⟨rfl, rfl⟩ ⟨Nat.le_of_ble_eq_true rfl, Nat.le_of_ble_eq_true rfl⟩ ⟨hc.1, hc.2⟩ (Nat.le_of_ble_eq_true rfl) rfl dL_law_1003 (fun r271 M272 h => ?_)
      clear hc
      refine x_icmp_eq (tgt := 1034) E dL_law_1006 (by decide) (fun c273 => ?_) (fun c273 => ?_)
      · replace h := xbr_t h c273
        clear c273
        refine x_iinc (v := (x3 + (J 4))) (L' := [(3, .int (x3 + (J 4))), (0, .ref b), (1, .ref q1), (2, .ref q5)]) E dL_law_1034 3 rfl rfl (by decide) rfl ?_
        refine x_goto (tgt := 18) E dL_law_1037 (by decide) ?_
        refine x_sub (L' := [(0, .ref b), (1, .ref q1), (2, .ref q5), (3, .int (x3 + (J 4)))]) [1, 2, 3, 0] rfl ?_
        exact hk18 (M272, ck, cn, (x3 + (J 4))) h
      · replace h := xbr_f h c273
        clear c273
        refine x_iconst (v := (J 0)) E dL_law_1009 (by decide) ?_
        exact h.elim
    replace h := xbr_f h c266
    by_cases c274 : y11 = (J 29)
    · replace h := xbr_t h c274
      refine x_tableIn (off := 979) (tgt := 1011) E dL_law_32 (by rw [c274]; decide) (by rw [c274]; decide) (by rw [c274]; decide) (by decide) ?_
      refine x_aload_n E dL_law_1011 rfl 1 rfl ?_
      refine x_aload_n E dL_law_1012 rfl 0 rfl ?_
      refine x_iload_n E dL_law_1013 rfl 3 rfl ?_
      refine x_iconst (v := (J 1)) E dL_law_1014 (by decide) ?_
      refine x_iadd E dL_law_1015 ?_
      obtain ⟨hi, h⟩ := h
      refine x_sald E hX hbl hbA hi dL_law_1016 ?_
      obtain ⟨v275, ev275⟩ : ∃ v275, v275 = xs ((x3 + (J 1))).toNatClampNeg := ⟨_, rfl⟩
      replace h := h v275 ev275
      refine x_top (v := .int v275) (congrArg _ ev275) ?_
      clear ev275 hi
      obtain ⟨hc, h⟩ := h
      refine x_callVi (T := TX10) (N := 13) (t := 11) (As := [.int v275]) E mlL_137 inX10_goBack seX10_goBack rfl ⟨by decide, by decide⟩ (tX10_goBack h) (kX10_goBack l z D cA q1 v275 M _ h) rfl ⟨rfl, rfl⟩ ⟨Nat.le_of_ble_eq_true rfl, Nat.le_of_ble_eq_true rfl⟩ ⟨hc.1, hc.2⟩ (Nat.le_of_ble_eq_true rfl) rfl dL_law_1017 (fun r276 M277 h => ?_)
      clear hc
      refine x_aload_n E dL_law_1020 rfl 2 rfl ?_
      refine x_aload_n E dL_law_1021 rfl 0 rfl ?_
      refine x_iload_n E dL_law_1022 rfl 3 rfl ?_
      refine x_iconst (v := (J 1)) E dL_law_1023 (by decide) ?_
      refine x_iadd E dL_law_1024 ?_
      obtain ⟨hi, h⟩ := h
      refine x_sald E hX hbl hbA hi dL_law_1025 ?_
      obtain ⟨v278, ev278⟩ : ∃ v278, v278 = xs ((x3 + (J 1))).toNatClampNeg := ⟨_, rfl⟩
      replace h := h v278 ev278
      refine x_top (v := .int v278) (congrArg _ ev278) ?_
      clear ev278 hi
      obtain ⟨hc, h⟩ := h
      refine x_callVi (T := TX11) (N := 32) (t := 12) (As := [.int v278]) E mlL_140 inX11_goBack seX11_goBack rfl ⟨by decide, by decide⟩ (tX11_goBack h) (kX11_goBack l z D cA q5 v278 M277 _ h) rfl ⟨rfl, rfl⟩ ⟨Nat.le_of_ble_eq_true rfl, Nat.le_of_ble_eq_true rfl⟩ ⟨hc.1, hc.2⟩ (Nat.le_of_ble_eq_true rfl) rfl dL_law_1026 (fun r279 M280 h => ?_)
      clear hc
      refine x_icmp_eq (tgt := 1034) E dL_law_1029 (by decide) (fun c281 => ?_) (fun c281 => ?_)
      · replace h := xbr_t h c281
        clear c281
        refine x_iinc (v := (x3 + (J 4))) (L' := [(3, .int (x3 + (J 4))), (0, .ref b), (1, .ref q1), (2, .ref q5)]) E dL_law_1034 3 rfl rfl (by decide) rfl ?_
        refine x_goto (tgt := 18) E dL_law_1037 (by decide) ?_
        refine x_sub (L' := [(0, .ref b), (1, .ref q1), (2, .ref q5), (3, .int (x3 + (J 4)))]) [1, 2, 3, 0] rfl ?_
        exact hk18 (M280, ck, cn, (x3 + (J 4))) h
      · replace h := xbr_f h c281
        clear c281
        refine x_iconst (v := (J 0)) E dL_law_1032 (by decide) ?_
        exact h.elim
    replace h := xbr_f h c274
    have nc12 := lv_neT c12 (a := 0) (by decide)
    have nc24 := lv_neT c24 (a := 1) (by decide)
    have nc30 := lv_neT c30 (a := 2) (by decide)
    have nc36 := lv_neT c36 (a := 3) (by decide)
    have nc46 := lv_neT c46 (a := 4) (by decide)
    have nc56 := lv_neT c56 (a := 5) (by decide)
    have nc68 := lv_neT c68 (a := 6) (by decide)
    have nc78 := lv_neT c78 (a := 7) (by decide)
    have nc86 := lv_neT c86 (a := 8) (by decide)
    have nc96 := lv_neT c96 (a := 9) (by decide)
    have nc106 := lv_neT c106 (a := 10) (by decide)
    have nc114 := lv_neT c114 (a := 11) (by decide)
    have nc126 := lv_neT c126 (a := 12) (by decide)
    have nc136 := lv_neT c136 (a := 13) (by decide)
    have nc144 := lv_neT c144 (a := 14) (by decide)
    have nc150 := lv_neT c150 (a := 15) (by decide)
    have nc158 := lv_neT c158 (a := 16) (by decide)
    have nc164 := lv_neT c164 (a := 17) (by decide)
    have nc172 := lv_neT c172 (a := 18) (by decide)
    have nc180 := lv_neT c180 (a := 19) (by decide)
    have nc194 := lv_neT c194 (a := 20) (by decide)
    have nc204 := lv_neT c204 (a := 21) (by decide)
    have nc212 := lv_neT c212 (a := 22) (by decide)
    have nc220 := lv_neT c220 (a := 23) (by decide)
    have nc230 := lv_neT c230 (a := 24) (by decide)
    have nc240 := lv_neT c240 (a := 25) (by decide)
    have nc250 := lv_neT c250 (a := 26) (by decide)
    have nc258 := lv_neT c258 (a := 27) (by decide)
    have nc266 := lv_neT c266 (a := 28) (by decide)
    have nc274 := lv_neT c274 (a := 29) (by decide)
    refine x_tableOut (tgt := 1034) E dL_law_32 (by omega) (by decide) ?_
    clear c12 c24 c30 c36 c46 c56 c68 c78 c86 c96 c106 c114 c126 c136 c144 c150 c158 c164 c172 c180 c194 c204 c212 c220 c230 c240 c250 c258 c266 c274
    clear nc12 nc24 nc30 nc36 nc46 nc56 nc68 nc78 nc86 nc96 nc106 nc114 nc126 nc136 nc144 nc150 nc158 nc164 nc172 nc180 nc194 nc204 nc212 nc220 nc230 nc240 nc250 nc258 nc266 nc274
    refine x_iinc (v := (x3 + (J 4))) (L' := [(3, .int (x3 + (J 4))), (0, .ref b), (1, .ref q1), (2, .ref q5)]) E dL_law_1034 3 rfl rfl (by decide) rfl ?_
    refine x_goto (tgt := 18) E dL_law_1037 (by decide) ?_
    refine x_sub (L' := [(0, .ref b), (1, .ref q1), (2, .ref q5), (3, .int (x3 + (J 4)))]) [1, 2, 3, 0] rfl ?_
    exact hk18 (M, ck, cn, (x3 + (J 4))) h

/-- the memory at the start: nothing, from z on -/
def xM0 (z : Nat) : Mem := (fun _ => (0, 0), fun _ _ => .null, z)
theorem law_entry {p : Program} {e : Env} {s : State} {m : MethodId} {below : List Frame} {meth : Method} {c : Code} (l : Launch) {b L : Nat} {xs : Nat → Int32} (C0 : lw_At p s m meth c b L xs) (h : PL_law xs L b (xM0 s.heap.size) (fun _ => True)) : W p l e room_1 s m #[Value.ref b] below meth c s.heap [] 0 0 (lw_Z below #[Value.ref b] s) (entryFrame m ([Value.ref b] : List Value).toArray 4) := by
  obtain ⟨D, cA, E⟩ := x_env C0
  obtain ⟨hx, hb, hr, hml, hown, hts, hX, hbl, hlocks, hgv⟩ := C0
  have hl := lv_entry ([.ref b]) (n := 4) (Nat.le_of_ble_eq_true rfl)
  rw [lg_entry_eq]
  exact law_walk l hX hbl (Nat.le_refl _) E hr hlocks _ _ h s.heap [] _ ⟨Nat.le_refl _, rfl, fun a ha => absurd rfl ha⟩ va_S.rf hl
