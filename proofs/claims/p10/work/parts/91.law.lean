def R_law : String := "WalkingTownLaw"
def lw_P (b : Addr) (xs : List Int32) (args : Array Value) (s : State) : Prop := args = #[.ref b] ∧ s.IntsAt b xs ∧ xs.length ≤ 3584 ∧ (Jvm.Cond.and given_1 narrow_1).before args s = true
def lw_Q (_ : Array Value) (s : State) (o : Outcome) (t : State) : Prop := o = .returned (some (.int 1)) ∧ Framed s o t [] 741096 6872816
def lw_Z (below : List Frame) (a : Array Value) (s : State) : State → Prop := fun t => ∃ o, t.status = .running ∧ Ended t below o ∧ lw_Q a s o t
theorem lw_ret {p : Program} {l : Launch} {e : Env} {s : State} {m : MethodId} {below : List Frame} {meth : Method} {c : Code} {b : Nat} (hx : p.tables.exec = Jvm.exec) (hb : c.code = code) (hr : meth.sig.returnType = ret) (hlocks : meth.locks = false) {pc : Nat} {H : Heap} {ls : Array Slot} (hdg : decode code pc = .ok (.ireturn, 1)) : W p l e room_1 s m #[Value.ref b] below meth c H [] 741096 6872816 (lw_Z below #[Value.ref b] s) (F0 m pc ls [.int 1]) := by
  intro T hT X
  obtain ⟨fs, hret, hrun, hended, hW, hframe⟩ := X.leave (v := some (.int 1)) (hlocks := hlocks) (fun h => by rw [hr] at h; cases h)
  have hmeth' : T.vm.method? m = some meth := X.method'
  refine ⟨T.setFrames fs, ?_, .returned (some (.int 1)), hrun, hended, rfl, ⟨_, rfl⟩, hW, hframe⟩
  jvm_step X.here [X.here.top, hx, hb, hdg, hmeth', hr, ret, narrow_b1]
  (try refine ⟨rfl, ?_⟩); (try refine ⟨rfl, ?_⟩)
  first | (intro acts; rw [hret _ acts rfl rfl rfl]) | rw [hret _ _ rfl rfl rfl]
  exact Steps.refl _
def lw_At (p : Program) (s : State) (m : MethodId) (meth : Method) (c : Code) (b L : Nat) (xs : Nat → Int32) : Prop :=
  p.tables.exec = Jvm.exec ∧ c.code = code ∧ meth.sig.returnType = ret ∧ c.maxLocals = 7 ∧ s.vm.findClass R_law = some m.cls ∧ (∀ w ∈ lw_tbl, w.before #[Value.ref b] s = true) ∧ va_X b L xs s s.heap ∧ b < s.heap.size ∧ meth.locks = false ∧ (Jvm.Cond.and given_1 narrow_1).before #[Value.ref b] s = true
theorem dL_law_156 : decode cL_law 156 = .ok (.aload_n 1, 1) := by decide +kernel
theorem dL_law_157 : decode cL_law 157 = .ok (.aload_n 0, 1) := by decide +kernel
theorem dL_law_158 : decode cL_law 158 = .ok (.iload 4, 2) := by decide +kernel
theorem dL_law_160 : decode cL_law 160 = .ok (.iconst 1, 1) := by decide +kernel
theorem dL_law_161 : decode cL_law 161 = .ok (.iadd, 1) := by decide +kernel
theorem dL_law_162 : decode cL_law 162 = .ok (.iaload, 1) := by decide +kernel
theorem dL_law_163 : decode cL_law 163 = .ok (.aload_n 0, 1) := by decide +kernel
theorem dL_law_164 : decode cL_law 164 = .ok (.iload 4, 2) := by decide +kernel
theorem dL_law_166 : decode cL_law 166 = .ok (.iconst 2, 1) := by decide +kernel
theorem dL_law_167 : decode cL_law 167 = .ok (.iadd, 1) := by decide +kernel
theorem dL_law_168 : decode cL_law 168 = .ok (.iaload, 1) := by decide +kernel
theorem dL_law_169 : decode cL_law 169 = .ok (.aload_n 0, 1) := by decide +kernel
theorem dL_law_170 : decode cL_law 170 = .ok (.iload 4, 2) := by decide +kernel
theorem dL_law_172 : decode cL_law 172 = .ok (.iconst 3, 1) := by decide +kernel
theorem dL_law_173 : decode cL_law 173 = .ok (.iadd, 1) := by decide +kernel
theorem dL_law_174 : decode cL_law 174 = .ok (.iaload, 1) := by decide +kernel
theorem dL_law_175 : decode cL_law 175 = .ok (.aload_n 0, 1) := by decide +kernel
theorem dL_law_176 : decode cL_law 176 = .ok (.iload 4, 2) := by decide +kernel
theorem dL_law_178 : decode cL_law 178 = .ok (.iconst 4, 1) := by decide +kernel
theorem dL_law_179 : decode cL_law 179 = .ok (.iadd, 1) := by decide +kernel
theorem dL_law_180 : decode cL_law 180 = .ok (.iaload, 1) := by decide +kernel
theorem dL_law_181 : decode cL_law 181 = .ok (.aload_n 0, 1) := by decide +kernel
theorem dL_law_182 : decode cL_law 182 = .ok (.iload 4, 2) := by decide +kernel
theorem dL_law_184 : decode cL_law 184 = .ok (.iconst 5, 1) := by decide +kernel
theorem dL_law_185 : decode cL_law 185 = .ok (.iadd, 1) := by decide +kernel
theorem dL_law_186 : decode cL_law 186 = .ok (.iaload, 1) := by decide +kernel
theorem dL_law_187 : decode cL_law 187 = .ok (.invokevirtual 19, 3) := by decide +kernel
theorem dL_law_190 : decode cL_law 190 = .ok (.pop, 1) := by decide +kernel
theorem dL_law_191 : decode cL_law 191 = .ok (.aload_n 2, 1) := by decide +kernel
theorem dL_law_192 : decode cL_law 192 = .ok (.aload_n 0, 1) := by decide +kernel
theorem dL_law_193 : decode cL_law 193 = .ok (.iload 4, 2) := by decide +kernel
theorem dL_law_195 : decode cL_law 195 = .ok (.iconst 1, 1) := by decide +kernel
theorem dL_law_196 : decode cL_law 196 = .ok (.iadd, 1) := by decide +kernel
theorem dL_law_197 : decode cL_law 197 = .ok (.iaload, 1) := by decide +kernel
theorem dL_law_198 : decode cL_law 198 = .ok (.aload_n 0, 1) := by decide +kernel
theorem dL_law_199 : decode cL_law 199 = .ok (.iload 4, 2) := by decide +kernel
theorem dL_law_201 : decode cL_law 201 = .ok (.iconst 2, 1) := by decide +kernel
theorem dL_law_202 : decode cL_law 202 = .ok (.iadd, 1) := by decide +kernel
theorem dL_law_203 : decode cL_law 203 = .ok (.iaload, 1) := by decide +kernel
theorem dL_law_204 : decode cL_law 204 = .ok (.aload_n 0, 1) := by decide +kernel
theorem dL_law_205 : decode cL_law 205 = .ok (.iload 4, 2) := by decide +kernel
theorem dL_law_207 : decode cL_law 207 = .ok (.iconst 3, 1) := by decide +kernel
theorem dL_law_208 : decode cL_law 208 = .ok (.iadd, 1) := by decide +kernel
theorem dL_law_209 : decode cL_law 209 = .ok (.iaload, 1) := by decide +kernel
theorem dL_law_210 : decode cL_law 210 = .ok (.aload_n 0, 1) := by decide +kernel
theorem dL_law_211 : decode cL_law 211 = .ok (.iload 4, 2) := by decide +kernel
theorem dL_law_213 : decode cL_law 213 = .ok (.iconst 4, 1) := by decide +kernel
theorem dL_law_214 : decode cL_law 214 = .ok (.iadd, 1) := by decide +kernel
theorem dL_law_215 : decode cL_law 215 = .ok (.iaload, 1) := by decide +kernel
theorem dL_law_216 : decode cL_law 216 = .ok (.aload_n 0, 1) := by decide +kernel
theorem dL_law_217 : decode cL_law 217 = .ok (.iload 4, 2) := by decide +kernel
theorem dL_law_219 : decode cL_law 219 = .ok (.iconst 5, 1) := by decide +kernel
theorem dL_law_220 : decode cL_law 220 = .ok (.iadd, 1) := by decide +kernel
theorem dL_law_221 : decode cL_law 221 = .ok (.iaload, 1) := by decide +kernel
theorem dL_law_222 : decode cL_law 222 = .ok (.invokevirtual 23, 3) := by decide +kernel
theorem dL_law_225 : decode cL_law 225 = .ok (.pop, 1) := by decide +kernel
theorem dL_law_226 : decode cL_law 226 = .ok (.goto 788, 3) := by decide +kernel
theorem dL_law_229 : decode cL_law 229 = .ok (.aload_n 1, 1) := by decide +kernel
theorem dL_law_230 : decode cL_law 230 = .ok (.aload_n 0, 1) := by decide +kernel
theorem dL_law_231 : decode cL_law 231 = .ok (.iload 4, 2) := by decide +kernel
theorem dL_law_233 : decode cL_law 233 = .ok (.iconst 1, 1) := by decide +kernel
theorem dL_law_234 : decode cL_law 234 = .ok (.iadd, 1) := by decide +kernel
theorem dL_law_235 : decode cL_law 235 = .ok (.iaload, 1) := by decide +kernel
theorem dL_law_236 : decode cL_law 236 = .ok (.invokevirtual 24, 3) := by decide +kernel
theorem dL_law_239 : decode cL_law 239 = .ok (.pop, 1) := by decide +kernel
theorem dL_law_240 : decode cL_law 240 = .ok (.aload_n 2, 1) := by decide +kernel
theorem dL_law_241 : decode cL_law 241 = .ok (.aload_n 0, 1) := by decide +kernel
theorem dL_law_242 : decode cL_law 242 = .ok (.iload 4, 2) := by decide +kernel
theorem dL_law_244 : decode cL_law 244 = .ok (.iconst 1, 1) := by decide +kernel
theorem dL_law_245 : decode cL_law 245 = .ok (.iadd, 1) := by decide +kernel
theorem dL_law_246 : decode cL_law 246 = .ok (.iaload, 1) := by decide +kernel
theorem dL_law_247 : decode cL_law 247 = .ok (.invokevirtual 28, 3) := by decide +kernel
theorem dL_law_250 : decode cL_law 250 = .ok (.pop, 1) := by decide +kernel
theorem dL_law_251 : decode cL_law 251 = .ok (.goto 763, 3) := by decide +kernel
theorem dL_law_254 : decode cL_law 254 = .ok (.aload_n 1, 1) := by decide +kernel
theorem dL_law_255 : decode cL_law 255 = .ok (.aload_n 0, 1) := by decide +kernel
theorem dL_law_256 : decode cL_law 256 = .ok (.iload 4, 2) := by decide +kernel
theorem dL_law_258 : decode cL_law 258 = .ok (.iconst 1, 1) := by decide +kernel
theorem dL_law_259 : decode cL_law 259 = .ok (.iadd, 1) := by decide +kernel
theorem dL_law_260 : decode cL_law 260 = .ok (.iaload, 1) := by decide +kernel
theorem dL_law_261 : decode cL_law 261 = .ok (.invokevirtual 29, 3) := by decide +kernel
theorem dL_law_264 : decode cL_law 264 = .ok (.pop, 1) := by decide +kernel
theorem dL_law_265 : decode cL_law 265 = .ok (.aload_n 2, 1) := by decide +kernel
theorem dL_law_266 : decode cL_law 266 = .ok (.aload_n 0, 1) := by decide +kernel
theorem dL_law_267 : decode cL_law 267 = .ok (.iload 4, 2) := by decide +kernel
theorem dL_law_269 : decode cL_law 269 = .ok (.iconst 1, 1) := by decide +kernel
theorem dL_law_270 : decode cL_law 270 = .ok (.iadd, 1) := by decide +kernel
theorem dL_law_271 : decode cL_law 271 = .ok (.iaload, 1) := by decide +kernel
theorem dL_law_272 : decode cL_law 272 = .ok (.invokevirtual 33, 3) := by decide +kernel
theorem dL_law_275 : decode cL_law 275 = .ok (.pop, 1) := by decide +kernel
theorem dL_law_276 : decode cL_law 276 = .ok (.goto 738, 3) := by decide +kernel
theorem dL_law_279 : decode cL_law 279 = .ok (.aload_n 1, 1) := by decide +kernel
theorem dL_law_280 : decode cL_law 280 = .ok (.aload_n 0, 1) := by decide +kernel
theorem dL_law_281 : decode cL_law 281 = .ok (.iload 4, 2) := by decide +kernel
theorem dL_law_283 : decode cL_law 283 = .ok (.iconst 1, 1) := by decide +kernel
theorem dL_law_284 : decode cL_law 284 = .ok (.iadd, 1) := by decide +kernel
theorem dL_law_285 : decode cL_law 285 = .ok (.iaload, 1) := by decide +kernel
theorem dL_law_286 : decode cL_law 286 = .ok (.aload_n 0, 1) := by decide +kernel
theorem dL_law_287 : decode cL_law 287 = .ok (.iload 4, 2) := by decide +kernel
theorem dL_law_289 : decode cL_law 289 = .ok (.iconst 2, 1) := by decide +kernel
theorem dL_law_290 : decode cL_law 290 = .ok (.iadd, 1) := by decide +kernel
theorem dL_law_291 : decode cL_law 291 = .ok (.iaload, 1) := by decide +kernel
theorem dL_law_292 : decode cL_law 292 = .ok (.aload_n 0, 1) := by decide +kernel
theorem dL_law_293 : decode cL_law 293 = .ok (.iload 4, 2) := by decide +kernel
theorem dL_law_295 : decode cL_law 295 = .ok (.iconst 3, 1) := by decide +kernel
theorem dL_law_296 : decode cL_law 296 = .ok (.iadd, 1) := by decide +kernel
theorem dL_law_297 : decode cL_law 297 = .ok (.iaload, 1) := by decide +kernel
theorem dL_law_298 : decode cL_law 298 = .ok (.invokevirtual 34, 3) := by decide +kernel
theorem dL_law_301 : decode cL_law 301 = .ok (.pop, 1) := by decide +kernel
theorem dL_law_302 : decode cL_law 302 = .ok (.aload_n 2, 1) := by decide +kernel
theorem dL_law_303 : decode cL_law 303 = .ok (.aload_n 0, 1) := by decide +kernel
theorem dL_law_304 : decode cL_law 304 = .ok (.iload 4, 2) := by decide +kernel
theorem dL_law_306 : decode cL_law 306 = .ok (.iconst 1, 1) := by decide +kernel
theorem dL_law_307 : decode cL_law 307 = .ok (.iadd, 1) := by decide +kernel
theorem dL_law_308 : decode cL_law 308 = .ok (.iaload, 1) := by decide +kernel
theorem dL_law_309 : decode cL_law 309 = .ok (.aload_n 0, 1) := by decide +kernel
theorem dL_law_310 : decode cL_law 310 = .ok (.iload 4, 2) := by decide +kernel
theorem dL_law_312 : decode cL_law 312 = .ok (.iconst 2, 1) := by decide +kernel
theorem dL_law_313 : decode cL_law 313 = .ok (.iadd, 1) := by decide +kernel
theorem dL_law_314 : decode cL_law 314 = .ok (.iaload, 1) := by decide +kernel
theorem dL_law_315 : decode cL_law 315 = .ok (.aload_n 0, 1) := by decide +kernel
theorem dL_law_316 : decode cL_law 316 = .ok (.iload 4, 2) := by decide +kernel
theorem dL_law_318 : decode cL_law 318 = .ok (.iconst 3, 1) := by decide +kernel
theorem dL_law_319 : decode cL_law 319 = .ok (.iadd, 1) := by decide +kernel
theorem dL_law_320 : decode cL_law 320 = .ok (.iaload, 1) := by decide +kernel
theorem dL_law_321 : decode cL_law 321 = .ok (.invokevirtual 38, 3) := by decide +kernel
theorem dL_law_324 : decode cL_law 324 = .ok (.pop, 1) := by decide +kernel
theorem dL_law_325 : decode cL_law 325 = .ok (.goto 689, 3) := by decide +kernel
theorem dL_law_328 : decode cL_law 328 = .ok (.aload_n 1, 1) := by decide +kernel
theorem dL_law_329 : decode cL_law 329 = .ok (.aload_n 0, 1) := by decide +kernel
theorem dL_law_330 : decode cL_law 330 = .ok (.iload 4, 2) := by decide +kernel
theorem dL_law_332 : decode cL_law 332 = .ok (.iconst 1, 1) := by decide +kernel
theorem dL_law_333 : decode cL_law 333 = .ok (.iadd, 1) := by decide +kernel
theorem dL_law_334 : decode cL_law 334 = .ok (.iaload, 1) := by decide +kernel
theorem dL_law_335 : decode cL_law 335 = .ok (.aload_n 0, 1) := by decide +kernel
theorem dL_law_336 : decode cL_law 336 = .ok (.iload 4, 2) := by decide +kernel
theorem dL_law_338 : decode cL_law 338 = .ok (.iconst 2, 1) := by decide +kernel
theorem dL_law_339 : decode cL_law 339 = .ok (.iadd, 1) := by decide +kernel
theorem dL_law_340 : decode cL_law 340 = .ok (.iaload, 1) := by decide +kernel
theorem dL_law_341 : decode cL_law 341 = .ok (.invokevirtual 39, 3) := by decide +kernel
theorem dL_law_344 : decode cL_law 344 = .ok (.pop, 1) := by decide +kernel
theorem dL_law_345 : decode cL_law 345 = .ok (.aload_n 2, 1) := by decide +kernel
theorem dL_law_346 : decode cL_law 346 = .ok (.aload_n 0, 1) := by decide +kernel
theorem dL_law_347 : decode cL_law 347 = .ok (.iload 4, 2) := by decide +kernel
theorem dL_law_349 : decode cL_law 349 = .ok (.iconst 1, 1) := by decide +kernel
theorem dL_law_350 : decode cL_law 350 = .ok (.iadd, 1) := by decide +kernel
theorem dL_law_351 : decode cL_law 351 = .ok (.iaload, 1) := by decide +kernel
theorem dL_law_352 : decode cL_law 352 = .ok (.aload_n 0, 1) := by decide +kernel
theorem dL_law_353 : decode cL_law 353 = .ok (.iload 4, 2) := by decide +kernel
theorem dL_law_355 : decode cL_law 355 = .ok (.iconst 2, 1) := by decide +kernel
theorem dL_law_356 : decode cL_law 356 = .ok (.iadd, 1) := by decide +kernel
theorem dL_law_357 : decode cL_law 357 = .ok (.iaload, 1) := by decide +kernel
theorem dL_law_358 : decode cL_law 358 = .ok (.invokevirtual 42, 3) := by decide +kernel
theorem dL_law_361 : decode cL_law 361 = .ok (.pop, 1) := by decide +kernel
theorem dL_law_362 : decode cL_law 362 = .ok (.goto 652, 3) := by decide +kernel
theorem dL_law_365 : decode cL_law 365 = .ok (.aload_n 1, 1) := by decide +kernel
theorem dL_law_366 : decode cL_law 366 = .ok (.aload_n 0, 1) := by decide +kernel
theorem dL_law_367 : decode cL_law 367 = .ok (.iload 4, 2) := by decide +kernel
theorem dL_law_369 : decode cL_law 369 = .ok (.iconst 1, 1) := by decide +kernel
theorem dL_law_370 : decode cL_law 370 = .ok (.iadd, 1) := by decide +kernel
theorem dL_law_371 : decode cL_law 371 = .ok (.iaload, 1) := by decide +kernel
theorem dL_law_372 : decode cL_law 372 = .ok (.aload_n 0, 1) := by decide +kernel
theorem dL_law_373 : decode cL_law 373 = .ok (.iload 4, 2) := by decide +kernel
theorem dL_law_375 : decode cL_law 375 = .ok (.iconst 2, 1) := by decide +kernel
theorem dL_law_376 : decode cL_law 376 = .ok (.iadd, 1) := by decide +kernel
theorem dL_law_377 : decode cL_law 377 = .ok (.iaload, 1) := by decide +kernel
theorem dL_law_378 : decode cL_law 378 = .ok (.aload_n 0, 1) := by decide +kernel
theorem dL_law_379 : decode cL_law 379 = .ok (.iload 4, 2) := by decide +kernel
theorem dL_law_381 : decode cL_law 381 = .ok (.iconst 3, 1) := by decide +kernel
theorem dL_law_382 : decode cL_law 382 = .ok (.iadd, 1) := by decide +kernel
theorem dL_law_383 : decode cL_law 383 = .ok (.iaload, 1) := by decide +kernel
theorem dL_law_384 : decode cL_law 384 = .ok (.invokevirtual 43, 3) := by decide +kernel
theorem dL_law_387 : decode cL_law 387 = .ok (.pop, 1) := by decide +kernel
theorem dL_law_388 : decode cL_law 388 = .ok (.aload_n 2, 1) := by decide +kernel
theorem dL_law_389 : decode cL_law 389 = .ok (.aload_n 0, 1) := by decide +kernel
theorem dL_law_390 : decode cL_law 390 = .ok (.iload 4, 2) := by decide +kernel
theorem dL_law_392 : decode cL_law 392 = .ok (.iconst 1, 1) := by decide +kernel
theorem dL_law_393 : decode cL_law 393 = .ok (.iadd, 1) := by decide +kernel
theorem dL_law_394 : decode cL_law 394 = .ok (.iaload, 1) := by decide +kernel
theorem dL_law_395 : decode cL_law 395 = .ok (.aload_n 0, 1) := by decide +kernel
theorem dL_law_396 : decode cL_law 396 = .ok (.iload 4, 2) := by decide +kernel
theorem dL_law_398 : decode cL_law 398 = .ok (.iconst 2, 1) := by decide +kernel
theorem dL_law_399 : decode cL_law 399 = .ok (.iadd, 1) := by decide +kernel
theorem dL_law_400 : decode cL_law 400 = .ok (.iaload, 1) := by decide +kernel
theorem dL_law_401 : decode cL_law 401 = .ok (.aload_n 0, 1) := by decide +kernel
theorem dL_law_402 : decode cL_law 402 = .ok (.iload 4, 2) := by decide +kernel
theorem dL_law_404 : decode cL_law 404 = .ok (.iconst 3, 1) := by decide +kernel
theorem dL_law_405 : decode cL_law 405 = .ok (.iadd, 1) := by decide +kernel
theorem dL_law_406 : decode cL_law 406 = .ok (.iaload, 1) := by decide +kernel
theorem dL_law_407 : decode cL_law 407 = .ok (.invokevirtual 47, 3) := by decide +kernel
theorem dL_law_410 : decode cL_law 410 = .ok (.pop, 1) := by decide +kernel
theorem dL_law_411 : decode cL_law 411 = .ok (.goto 603, 3) := by decide +kernel
theorem dL_law_414 : decode cL_law 414 = .ok (.aload_n 1, 1) := by decide +kernel
theorem dL_law_415 : decode cL_law 415 = .ok (.aload_n 0, 1) := by decide +kernel
theorem dL_law_416 : decode cL_law 416 = .ok (.iload 4, 2) := by decide +kernel
theorem dL_law_418 : decode cL_law 418 = .ok (.iconst 1, 1) := by decide +kernel
theorem dL_law_419 : decode cL_law 419 = .ok (.iadd, 1) := by decide +kernel
theorem dL_law_420 : decode cL_law 420 = .ok (.iaload, 1) := by decide +kernel
theorem dL_law_421 : decode cL_law 421 = .ok (.invokevirtual 48, 3) := by decide +kernel
theorem dL_law_424 : decode cL_law 424 = .ok (.pop, 1) := by decide +kernel
theorem dL_law_425 : decode cL_law 425 = .ok (.aload_n 2, 1) := by decide +kernel
theorem dL_law_426 : decode cL_law 426 = .ok (.aload_n 0, 1) := by decide +kernel
theorem dL_law_427 : decode cL_law 427 = .ok (.iload 4, 2) := by decide +kernel
theorem dL_law_429 : decode cL_law 429 = .ok (.iconst 1, 1) := by decide +kernel
theorem dL_law_430 : decode cL_law 430 = .ok (.iadd, 1) := by decide +kernel
theorem dL_law_431 : decode cL_law 431 = .ok (.iaload, 1) := by decide +kernel
theorem dL_law_432 : decode cL_law 432 = .ok (.invokevirtual 51, 3) := by decide +kernel
theorem dL_law_435 : decode cL_law 435 = .ok (.pop, 1) := by decide +kernel
theorem dL_law_436 : decode cL_law 436 = .ok (.goto 578, 3) := by decide +kernel
theorem dL_law_439 : decode cL_law 439 = .ok (.aload_n 1, 1) := by decide +kernel
theorem dL_law_440 : decode cL_law 440 = .ok (.aload_n 0, 1) := by decide +kernel
theorem dL_law_441 : decode cL_law 441 = .ok (.iload 4, 2) := by decide +kernel
theorem dL_law_443 : decode cL_law 443 = .ok (.iconst 1, 1) := by decide +kernel
theorem dL_law_444 : decode cL_law 444 = .ok (.iadd, 1) := by decide +kernel
theorem dL_law_445 : decode cL_law 445 = .ok (.iaload, 1) := by decide +kernel
theorem dL_law_446 : decode cL_law 446 = .ok (.aload_n 0, 1) := by decide +kernel
theorem dL_law_447 : decode cL_law 447 = .ok (.iload 4, 2) := by decide +kernel
theorem dL_law_449 : decode cL_law 449 = .ok (.iconst 2, 1) := by decide +kernel
theorem dL_law_450 : decode cL_law 450 = .ok (.iadd, 1) := by decide +kernel
theorem dL_law_451 : decode cL_law 451 = .ok (.iaload, 1) := by decide +kernel
theorem dL_law_452 : decode cL_law 452 = .ok (.aload_n 0, 1) := by decide +kernel
theorem dL_law_453 : decode cL_law 453 = .ok (.iload 4, 2) := by decide +kernel
theorem dL_law_455 : decode cL_law 455 = .ok (.iconst 3, 1) := by decide +kernel
theorem dL_law_456 : decode cL_law 456 = .ok (.iadd, 1) := by decide +kernel
theorem dL_law_457 : decode cL_law 457 = .ok (.iaload, 1) := by decide +kernel
theorem dL_law_458 : decode cL_law 458 = .ok (.aload_n 0, 1) := by decide +kernel
theorem dL_law_459 : decode cL_law 459 = .ok (.iload 4, 2) := by decide +kernel
theorem dL_law_461 : decode cL_law 461 = .ok (.iconst 4, 1) := by decide +kernel
theorem dL_law_462 : decode cL_law 462 = .ok (.iadd, 1) := by decide +kernel
theorem dL_law_463 : decode cL_law 463 = .ok (.iaload, 1) := by decide +kernel
theorem dL_law_464 : decode cL_law 464 = .ok (.invokevirtual 52, 3) := by decide +kernel
theorem dL_law_467 : decode cL_law 467 = .ok (.pop, 1) := by decide +kernel
theorem dL_law_468 : decode cL_law 468 = .ok (.aload_n 2, 1) := by decide +kernel
theorem dL_law_469 : decode cL_law 469 = .ok (.aload_n 0, 1) := by decide +kernel
theorem dL_law_470 : decode cL_law 470 = .ok (.iload 4, 2) := by decide +kernel
theorem dL_law_472 : decode cL_law 472 = .ok (.iconst 1, 1) := by decide +kernel
theorem dL_law_473 : decode cL_law 473 = .ok (.iadd, 1) := by decide +kernel
theorem dL_law_474 : decode cL_law 474 = .ok (.iaload, 1) := by decide +kernel
theorem dL_law_475 : decode cL_law 475 = .ok (.aload_n 0, 1) := by decide +kernel
theorem dL_law_476 : decode cL_law 476 = .ok (.iload 4, 2) := by decide +kernel
theorem dL_law_478 : decode cL_law 478 = .ok (.iconst 2, 1) := by decide +kernel
theorem dL_law_479 : decode cL_law 479 = .ok (.iadd, 1) := by decide +kernel
theorem dL_law_480 : decode cL_law 480 = .ok (.iaload, 1) := by decide +kernel
theorem dL_law_481 : decode cL_law 481 = .ok (.aload_n 0, 1) := by decide +kernel
theorem dL_law_482 : decode cL_law 482 = .ok (.iload 4, 2) := by decide +kernel
theorem dL_law_484 : decode cL_law 484 = .ok (.iconst 3, 1) := by decide +kernel
theorem dL_law_485 : decode cL_law 485 = .ok (.iadd, 1) := by decide +kernel
theorem dL_law_486 : decode cL_law 486 = .ok (.iaload, 1) := by decide +kernel
theorem dL_law_487 : decode cL_law 487 = .ok (.aload_n 0, 1) := by decide +kernel
theorem dL_law_488 : decode cL_law 488 = .ok (.iload 4, 2) := by decide +kernel
theorem dL_law_490 : decode cL_law 490 = .ok (.iconst 4, 1) := by decide +kernel
theorem dL_law_491 : decode cL_law 491 = .ok (.iadd, 1) := by decide +kernel
theorem dL_law_492 : decode cL_law 492 = .ok (.iaload, 1) := by decide +kernel
theorem dL_law_493 : decode cL_law 493 = .ok (.invokevirtual 56, 3) := by decide +kernel
theorem dL_law_496 : decode cL_law 496 = .ok (.pop, 1) := by decide +kernel
theorem dL_law_497 : decode cL_law 497 = .ok (.goto 517, 3) := by decide +kernel
theorem dL_law_500 : decode cL_law 500 = .ok (.aload_n 1, 1) := by decide +kernel
theorem dL_law_501 : decode cL_law 501 = .ok (.aload_n 0, 1) := by decide +kernel
theorem dL_law_502 : decode cL_law 502 = .ok (.iload 4, 2) := by decide +kernel
theorem dL_law_504 : decode cL_law 504 = .ok (.iconst 1, 1) := by decide +kernel
theorem dL_law_505 : decode cL_law 505 = .ok (.iadd, 1) := by decide +kernel
theorem dL_law_506 : decode cL_law 506 = .ok (.iaload, 1) := by decide +kernel
theorem dL_law_507 : decode cL_law 507 = .ok (.aload_n 0, 1) := by decide +kernel
theorem dL_law_508 : decode cL_law 508 = .ok (.iload 4, 2) := by decide +kernel
theorem dL_law_510 : decode cL_law 510 = .ok (.iconst 2, 1) := by decide +kernel
theorem dL_law_511 : decode cL_law 511 = .ok (.iadd, 1) := by decide +kernel
theorem dL_law_512 : decode cL_law 512 = .ok (.iaload, 1) := by decide +kernel
theorem dL_law_513 : decode cL_law 513 = .ok (.invokevirtual 57, 3) := by decide +kernel
theorem dL_law_516 : decode cL_law 516 = .ok (.aload_n 2, 1) := by decide +kernel
theorem dL_law_517 : decode cL_law 517 = .ok (.aload_n 0, 1) := by decide +kernel
theorem dL_law_518 : decode cL_law 518 = .ok (.iload 4, 2) := by decide +kernel
theorem dL_law_520 : decode cL_law 520 = .ok (.iconst 1, 1) := by decide +kernel
theorem dL_law_521 : decode cL_law 521 = .ok (.iadd, 1) := by decide +kernel
theorem dL_law_522 : decode cL_law 522 = .ok (.iaload, 1) := by decide +kernel
theorem dL_law_523 : decode cL_law 523 = .ok (.aload_n 0, 1) := by decide +kernel
theorem dL_law_524 : decode cL_law 524 = .ok (.iload 4, 2) := by decide +kernel
theorem dL_law_526 : decode cL_law 526 = .ok (.iconst 2, 1) := by decide +kernel
theorem dL_law_527 : decode cL_law 527 = .ok (.iadd, 1) := by decide +kernel
theorem dL_law_528 : decode cL_law 528 = .ok (.iaload, 1) := by decide +kernel
theorem dL_law_529 : decode cL_law 529 = .ok (.invokevirtual 61, 3) := by decide +kernel
theorem dL_law_532 : decode cL_law 532 = .ok (.if_icmp .eq 482, 3) := by decide +kernel
theorem dL_law_537 : decode cL_law 537 = .ok (.aload_n 1, 1) := by decide +kernel
theorem dL_law_538 : decode cL_law 538 = .ok (.aload_n 0, 1) := by decide +kernel
theorem dL_law_539 : decode cL_law 539 = .ok (.iload 4, 2) := by decide +kernel
theorem dL_law_541 : decode cL_law 541 = .ok (.iconst 1, 1) := by decide +kernel
theorem dL_law_542 : decode cL_law 542 = .ok (.iadd, 1) := by decide +kernel
theorem dL_law_543 : decode cL_law 543 = .ok (.iaload, 1) := by decide +kernel
theorem dL_law_544 : decode cL_law 544 = .ok (.aload_n 0, 1) := by decide +kernel
theorem dL_law_545 : decode cL_law 545 = .ok (.iload 4, 2) := by decide +kernel
theorem dL_law_547 : decode cL_law 547 = .ok (.iconst 2, 1) := by decide +kernel
theorem dL_law_548 : decode cL_law 548 = .ok (.iadd, 1) := by decide +kernel
theorem dL_law_549 : decode cL_law 549 = .ok (.iaload, 1) := by decide +kernel
theorem dL_law_550 : decode cL_law 550 = .ok (.aload_n 0, 1) := by decide +kernel
theorem dL_law_551 : decode cL_law 551 = .ok (.iload 4, 2) := by decide +kernel
theorem dL_law_553 : decode cL_law 553 = .ok (.iconst 3, 1) := by decide +kernel
theorem dL_law_554 : decode cL_law 554 = .ok (.iadd, 1) := by decide +kernel
theorem dL_law_555 : decode cL_law 555 = .ok (.iaload, 1) := by decide +kernel
theorem dL_law_556 : decode cL_law 556 = .ok (.aload_n 0, 1) := by decide +kernel
theorem dL_law_557 : decode cL_law 557 = .ok (.iload 4, 2) := by decide +kernel
theorem dL_law_559 : decode cL_law 559 = .ok (.iconst 4, 1) := by decide +kernel
theorem dL_law_560 : decode cL_law 560 = .ok (.iadd, 1) := by decide +kernel
theorem dL_law_561 : decode cL_law 561 = .ok (.iaload, 1) := by decide +kernel
theorem dL_law_562 : decode cL_law 562 = .ok (.aload_n 0, 1) := by decide +kernel
theorem dL_law_563 : decode cL_law 563 = .ok (.iload 4, 2) := by decide +kernel
theorem dL_law_565 : decode cL_law 565 = .ok (.iconst 5, 1) := by decide +kernel
theorem dL_law_566 : decode cL_law 566 = .ok (.iadd, 1) := by decide +kernel
theorem dL_law_567 : decode cL_law 567 = .ok (.iaload, 1) := by decide +kernel
theorem dL_law_568 : decode cL_law 568 = .ok (.aload_n 0, 1) := by decide +kernel
theorem dL_law_569 : decode cL_law 569 = .ok (.iload 4, 2) := by decide +kernel
theorem dL_law_571 : decode cL_law 571 = .ok (.bipush 6, 2) := by decide +kernel
theorem dL_law_573 : decode cL_law 573 = .ok (.iadd, 1) := by decide +kernel
theorem dL_law_574 : decode cL_law 574 = .ok (.iaload, 1) := by decide +kernel
theorem dL_law_575 : decode cL_law 575 = .ok (.invokevirtual 62, 3) := by decide +kernel
theorem dL_law_578 : decode cL_law 578 = .ok (.pop, 1) := by decide +kernel
theorem dL_law_579 : decode cL_law 579 = .ok (.aload_n 2, 1) := by decide +kernel
theorem dL_law_580 : decode cL_law 580 = .ok (.aload_n 0, 1) := by decide +kernel
theorem dL_law_581 : decode cL_law 581 = .ok (.iload 4, 2) := by decide +kernel
theorem dL_law_583 : decode cL_law 583 = .ok (.iconst 1, 1) := by decide +kernel
theorem dL_law_584 : decode cL_law 584 = .ok (.iadd, 1) := by decide +kernel
theorem dL_law_585 : decode cL_law 585 = .ok (.iaload, 1) := by decide +kernel
theorem dL_law_586 : decode cL_law 586 = .ok (.aload_n 0, 1) := by decide +kernel
theorem dL_law_587 : decode cL_law 587 = .ok (.iload 4, 2) := by decide +kernel
theorem dL_law_589 : decode cL_law 589 = .ok (.iconst 2, 1) := by decide +kernel
theorem dL_law_590 : decode cL_law 590 = .ok (.iadd, 1) := by decide +kernel
theorem dL_law_591 : decode cL_law 591 = .ok (.iaload, 1) := by decide +kernel
theorem dL_law_592 : decode cL_law 592 = .ok (.aload_n 0, 1) := by decide +kernel
theorem dL_law_593 : decode cL_law 593 = .ok (.iload 4, 2) := by decide +kernel
theorem dL_law_595 : decode cL_law 595 = .ok (.iconst 3, 1) := by decide +kernel
theorem dL_law_596 : decode cL_law 596 = .ok (.iadd, 1) := by decide +kernel
theorem dL_law_597 : decode cL_law 597 = .ok (.iaload, 1) := by decide +kernel
theorem dL_law_598 : decode cL_law 598 = .ok (.aload_n 0, 1) := by decide +kernel
theorem dL_law_599 : decode cL_law 599 = .ok (.iload 4, 2) := by decide +kernel
theorem dL_law_601 : decode cL_law 601 = .ok (.iconst 4, 1) := by decide +kernel
theorem dL_law_602 : decode cL_law 602 = .ok (.iadd, 1) := by decide +kernel
theorem dL_law_603 : decode cL_law 603 = .ok (.iaload, 1) := by decide +kernel
theorem dL_law_604 : decode cL_law 604 = .ok (.aload_n 0, 1) := by decide +kernel
theorem dL_law_605 : decode cL_law 605 = .ok (.iload 4, 2) := by decide +kernel
theorem dL_law_607 : decode cL_law 607 = .ok (.iconst 5, 1) := by decide +kernel
theorem dL_law_608 : decode cL_law 608 = .ok (.iadd, 1) := by decide +kernel
theorem dL_law_609 : decode cL_law 609 = .ok (.iaload, 1) := by decide +kernel
theorem dL_law_610 : decode cL_law 610 = .ok (.aload_n 0, 1) := by decide +kernel
theorem dL_law_611 : decode cL_law 611 = .ok (.iload 4, 2) := by decide +kernel
theorem dL_law_613 : decode cL_law 613 = .ok (.bipush 6, 2) := by decide +kernel
theorem dL_law_615 : decode cL_law 615 = .ok (.iadd, 1) := by decide +kernel
theorem dL_law_616 : decode cL_law 616 = .ok (.iaload, 1) := by decide +kernel
theorem dL_law_617 : decode cL_law 617 = .ok (.invokevirtual 66, 3) := by decide +kernel
theorem dL_law_620 : decode cL_law 620 = .ok (.pop, 1) := by decide +kernel
theorem dL_law_621 : decode cL_law 621 = .ok (.goto 393, 3) := by decide +kernel
theorem dL_law_624 : decode cL_law 624 = .ok (.aload_n 1, 1) := by decide +kernel
theorem dL_law_625 : decode cL_law 625 = .ok (.invokevirtual 67, 3) := by decide +kernel
theorem dL_law_628 : decode cL_law 628 = .ok (.pop, 1) := by decide +kernel
theorem dL_law_629 : decode cL_law 629 = .ok (.aload_n 2, 1) := by decide +kernel
theorem dL_law_630 : decode cL_law 630 = .ok (.invokevirtual 71, 3) := by decide +kernel
theorem dL_law_633 : decode cL_law 633 = .ok (.pop, 1) := by decide +kernel
theorem dL_law_634 : decode cL_law 634 = .ok (.goto 380, 3) := by decide +kernel
theorem dL_law_637 : decode cL_law 637 = .ok (.aload_n 1, 1) := by decide +kernel
theorem dL_law_638 : decode cL_law 638 = .ok (.aload_n 0, 1) := by decide +kernel
theorem dL_law_639 : decode cL_law 639 = .ok (.iload 4, 2) := by decide +kernel
theorem dL_law_641 : decode cL_law 641 = .ok (.iconst 1, 1) := by decide +kernel
theorem dL_law_642 : decode cL_law 642 = .ok (.iadd, 1) := by decide +kernel
theorem dL_law_643 : decode cL_law 643 = .ok (.iaload, 1) := by decide +kernel
theorem dL_law_644 : decode cL_law 644 = .ok (.invokevirtual 72, 3) := by decide +kernel
theorem dL_law_647 : decode cL_law 647 = .ok (.pop, 1) := by decide +kernel
theorem dL_law_648 : decode cL_law 648 = .ok (.aload_n 2, 1) := by decide +kernel
theorem dL_law_649 : decode cL_law 649 = .ok (.aload_n 0, 1) := by decide +kernel
theorem dL_law_650 : decode cL_law 650 = .ok (.iload 4, 2) := by decide +kernel
theorem dL_law_652 : decode cL_law 652 = .ok (.iconst 1, 1) := by decide +kernel
theorem dL_law_653 : decode cL_law 653 = .ok (.iadd, 1) := by decide +kernel
theorem dL_law_654 : decode cL_law 654 = .ok (.iaload, 1) := by decide +kernel
theorem dL_law_655 : decode cL_law 655 = .ok (.invokevirtual 75, 3) := by decide +kernel
theorem dL_law_658 : decode cL_law 658 = .ok (.pop, 1) := by decide +kernel
theorem dL_law_659 : decode cL_law 659 = .ok (.goto 355, 3) := by decide +kernel
theorem dL_law_662 : decode cL_law 662 = .ok (.aload_n 1, 1) := by decide +kernel
theorem dL_law_663 : decode cL_law 663 = .ok (.aload_n 0, 1) := by decide +kernel
theorem dL_law_664 : decode cL_law 664 = .ok (.iload 4, 2) := by decide +kernel
theorem dL_law_666 : decode cL_law 666 = .ok (.iconst 1, 1) := by decide +kernel
theorem dL_law_667 : decode cL_law 667 = .ok (.iadd, 1) := by decide +kernel
theorem dL_law_668 : decode cL_law 668 = .ok (.iaload, 1) := by decide +kernel
theorem dL_law_669 : decode cL_law 669 = .ok (.invokevirtual 76, 3) := by decide +kernel
theorem dL_law_672 : decode cL_law 672 = .ok (.pop, 1) := by decide +kernel
theorem dL_law_673 : decode cL_law 673 = .ok (.aload_n 2, 1) := by decide +kernel
theorem dL_law_674 : decode cL_law 674 = .ok (.aload_n 0, 1) := by decide +kernel
theorem dL_law_675 : decode cL_law 675 = .ok (.iload 4, 2) := by decide +kernel
theorem dL_law_677 : decode cL_law 677 = .ok (.iconst 1, 1) := by decide +kernel
theorem dL_law_678 : decode cL_law 678 = .ok (.iadd, 1) := by decide +kernel
theorem dL_law_679 : decode cL_law 679 = .ok (.iaload, 1) := by decide +kernel
theorem dL_law_680 : decode cL_law 680 = .ok (.invokevirtual 79, 3) := by decide +kernel
theorem dL_law_683 : decode cL_law 683 = .ok (.pop, 1) := by decide +kernel
theorem dL_law_684 : decode cL_law 684 = .ok (.goto 330, 3) := by decide +kernel
theorem dL_law_687 : decode cL_law 687 = .ok (.aload_n 1, 1) := by decide +kernel
theorem dL_law_688 : decode cL_law 688 = .ok (.aload_n 0, 1) := by decide +kernel
theorem dL_law_689 : decode cL_law 689 = .ok (.iload 4, 2) := by decide +kernel
theorem dL_law_691 : decode cL_law 691 = .ok (.iconst 1, 1) := by decide +kernel
theorem dL_law_692 : decode cL_law 692 = .ok (.iadd, 1) := by decide +kernel
theorem dL_law_693 : decode cL_law 693 = .ok (.iaload, 1) := by decide +kernel
theorem dL_law_694 : decode cL_law 694 = .ok (.invokevirtual 80, 3) := by decide +kernel
theorem dL_law_697 : decode cL_law 697 = .ok (.pop, 1) := by decide +kernel
theorem dL_law_698 : decode cL_law 698 = .ok (.aload_n 2, 1) := by decide +kernel
theorem dL_law_699 : decode cL_law 699 = .ok (.aload_n 0, 1) := by decide +kernel
theorem dL_law_700 : decode cL_law 700 = .ok (.iload 4, 2) := by decide +kernel
theorem dL_law_702 : decode cL_law 702 = .ok (.iconst 1, 1) := by decide +kernel
theorem dL_law_703 : decode cL_law 703 = .ok (.iadd, 1) := by decide +kernel
theorem dL_law_704 : decode cL_law 704 = .ok (.iaload, 1) := by decide +kernel
theorem dL_law_705 : decode cL_law 705 = .ok (.invokevirtual 83, 3) := by decide +kernel
theorem dL_law_708 : decode cL_law 708 = .ok (.pop, 1) := by decide +kernel
theorem dL_law_709 : decode cL_law 709 = .ok (.goto 305, 3) := by decide +kernel
theorem dL_law_712 : decode cL_law 712 = .ok (.aload_n 1, 1) := by decide +kernel
theorem dL_law_713 : decode cL_law 713 = .ok (.invokevirtual 84, 3) := by decide +kernel
theorem dL_law_716 : decode cL_law 716 = .ok (.pop, 1) := by decide +kernel
theorem dL_law_717 : decode cL_law 717 = .ok (.aload_n 2, 1) := by decide +kernel
theorem dL_law_718 : decode cL_law 718 = .ok (.invokevirtual 88, 3) := by decide +kernel
theorem dL_law_721 : decode cL_law 721 = .ok (.pop, 1) := by decide +kernel
theorem dL_law_722 : decode cL_law 722 = .ok (.goto 292, 3) := by decide +kernel
theorem dL_law_725 : decode cL_law 725 = .ok (.aload_n 1, 1) := by decide +kernel
theorem dL_law_726 : decode cL_law 726 = .ok (.aload_n 0, 1) := by decide +kernel
theorem dL_law_727 : decode cL_law 727 = .ok (.iload 4, 2) := by decide +kernel
theorem dL_law_729 : decode cL_law 729 = .ok (.iconst 1, 1) := by decide +kernel
theorem dL_law_730 : decode cL_law 730 = .ok (.iadd, 1) := by decide +kernel
theorem dL_law_731 : decode cL_law 731 = .ok (.iaload, 1) := by decide +kernel
theorem dL_law_732 : decode cL_law 732 = .ok (.aload_n 0, 1) := by decide +kernel
theorem dL_law_733 : decode cL_law 733 = .ok (.iload 4, 2) := by decide +kernel
theorem dL_law_735 : decode cL_law 735 = .ok (.iconst 2, 1) := by decide +kernel
theorem dL_law_736 : decode cL_law 736 = .ok (.iadd, 1) := by decide +kernel
theorem dL_law_737 : decode cL_law 737 = .ok (.iaload, 1) := by decide +kernel
theorem dL_law_738 : decode cL_law 738 = .ok (.aload_n 0, 1) := by decide +kernel
theorem dL_law_739 : decode cL_law 739 = .ok (.iload 4, 2) := by decide +kernel
theorem dL_law_741 : decode cL_law 741 = .ok (.iconst 3, 1) := by decide +kernel
theorem dL_law_742 : decode cL_law 742 = .ok (.iadd, 1) := by decide +kernel
theorem dL_law_743 : decode cL_law 743 = .ok (.iaload, 1) := by decide +kernel
theorem dL_law_744 : decode cL_law 744 = .ok (.aload_n 0, 1) := by decide +kernel
theorem dL_law_745 : decode cL_law 745 = .ok (.iload 4, 2) := by decide +kernel
theorem dL_law_747 : decode cL_law 747 = .ok (.iconst 4, 1) := by decide +kernel
theorem dL_law_748 : decode cL_law 748 = .ok (.iadd, 1) := by decide +kernel
theorem dL_law_749 : decode cL_law 749 = .ok (.iaload, 1) := by decide +kernel
theorem dL_law_750 : decode cL_law 750 = .ok (.invokevirtual 89, 3) := by decide +kernel
theorem dL_law_753 : decode cL_law 753 = .ok (.pop, 1) := by decide +kernel
theorem dL_law_754 : decode cL_law 754 = .ok (.aload_n 2, 1) := by decide +kernel
theorem dL_law_755 : decode cL_law 755 = .ok (.aload_n 0, 1) := by decide +kernel
theorem dL_law_756 : decode cL_law 756 = .ok (.iload 4, 2) := by decide +kernel
theorem dL_law_758 : decode cL_law 758 = .ok (.iconst 1, 1) := by decide +kernel
theorem dL_law_759 : decode cL_law 759 = .ok (.iadd, 1) := by decide +kernel
theorem dL_law_760 : decode cL_law 760 = .ok (.iaload, 1) := by decide +kernel
theorem dL_law_761 : decode cL_law 761 = .ok (.aload_n 0, 1) := by decide +kernel
theorem dL_law_762 : decode cL_law 762 = .ok (.iload 4, 2) := by decide +kernel
theorem dL_law_764 : decode cL_law 764 = .ok (.iconst 2, 1) := by decide +kernel
theorem dL_law_765 : decode cL_law 765 = .ok (.iadd, 1) := by decide +kernel
theorem dL_law_766 : decode cL_law 766 = .ok (.iaload, 1) := by decide +kernel
theorem dL_law_767 : decode cL_law 767 = .ok (.aload_n 0, 1) := by decide +kernel
theorem dL_law_768 : decode cL_law 768 = .ok (.iload 4, 2) := by decide +kernel
theorem dL_law_770 : decode cL_law 770 = .ok (.iconst 3, 1) := by decide +kernel
theorem dL_law_771 : decode cL_law 771 = .ok (.iadd, 1) := by decide +kernel
theorem dL_law_772 : decode cL_law 772 = .ok (.iaload, 1) := by decide +kernel
theorem dL_law_773 : decode cL_law 773 = .ok (.aload_n 0, 1) := by decide +kernel
theorem dL_law_774 : decode cL_law 774 = .ok (.iload 4, 2) := by decide +kernel
theorem dL_law_776 : decode cL_law 776 = .ok (.iconst 4, 1) := by decide +kernel
theorem dL_law_777 : decode cL_law 777 = .ok (.iadd, 1) := by decide +kernel
theorem dL_law_778 : decode cL_law 778 = .ok (.iaload, 1) := by decide +kernel
theorem dL_law_779 : decode cL_law 779 = .ok (.invokevirtual 92, 3) := by decide +kernel
theorem dL_law_782 : decode cL_law 782 = .ok (.pop, 1) := by decide +kernel
theorem dL_law_783 : decode cL_law 783 = .ok (.goto 231, 3) := by decide +kernel
theorem dL_law_786 : decode cL_law 786 = .ok (.aload_n 1, 1) := by decide +kernel
theorem dL_law_787 : decode cL_law 787 = .ok (.invokevirtual 93, 3) := by decide +kernel
theorem dL_law_790 : decode cL_law 790 = .ok (.pop, 1) := by decide +kernel
theorem dL_law_791 : decode cL_law 791 = .ok (.aload_n 2, 1) := by decide +kernel
theorem dL_law_792 : decode cL_law 792 = .ok (.invokevirtual 96, 3) := by decide +kernel
theorem dL_law_795 : decode cL_law 795 = .ok (.pop, 1) := by decide +kernel
theorem dL_law_796 : decode cL_law 796 = .ok (.goto 218, 3) := by decide +kernel
theorem dL_law_799 : decode cL_law 799 = .ok (.aload_n 1, 1) := by decide +kernel
theorem dL_law_800 : decode cL_law 800 = .ok (.invokevirtual 97, 3) := by decide +kernel
theorem dL_law_803 : decode cL_law 803 = .ok (.pop, 1) := by decide +kernel
theorem dL_law_804 : decode cL_law 804 = .ok (.aload_n 2, 1) := by decide +kernel
theorem dL_law_805 : decode cL_law 805 = .ok (.invokevirtual 100, 3) := by decide +kernel
theorem dL_law_808 : decode cL_law 808 = .ok (.pop, 1) := by decide +kernel
theorem dL_law_809 : decode cL_law 809 = .ok (.goto 205, 3) := by decide +kernel
theorem dL_law_812 : decode cL_law 812 = .ok (.aload_n 1, 1) := by decide +kernel
theorem dL_law_813 : decode cL_law 813 = .ok (.aload_n 0, 1) := by decide +kernel
theorem dL_law_814 : decode cL_law 814 = .ok (.iload 4, 2) := by decide +kernel
theorem dL_law_816 : decode cL_law 816 = .ok (.iconst 1, 1) := by decide +kernel
theorem dL_law_817 : decode cL_law 817 = .ok (.iadd, 1) := by decide +kernel
theorem dL_law_818 : decode cL_law 818 = .ok (.iaload, 1) := by decide +kernel
theorem dL_law_819 : decode cL_law 819 = .ok (.aload_n 0, 1) := by decide +kernel
theorem dL_law_820 : decode cL_law 820 = .ok (.iload 4, 2) := by decide +kernel
theorem dL_law_822 : decode cL_law 822 = .ok (.iconst 2, 1) := by decide +kernel
theorem dL_law_823 : decode cL_law 823 = .ok (.iadd, 1) := by decide +kernel
theorem dL_law_824 : decode cL_law 824 = .ok (.iaload, 1) := by decide +kernel
theorem dL_law_825 : decode cL_law 825 = .ok (.aload_n 3, 1) := by decide +kernel
theorem dL_law_826 : decode cL_law 826 = .ok (.invokestatic 101, 3) := by decide +kernel
theorem dL_law_829 : decode cL_law 829 = .ok (.istore 5, 2) := by decide +kernel
theorem dL_law_831 : decode cL_law 831 = .ok (.aload_n 2, 1) := by decide +kernel
theorem dL_law_832 : decode cL_law 832 = .ok (.aload_n 0, 1) := by decide +kernel
theorem dL_law_833 : decode cL_law 833 = .ok (.iload 4, 2) := by decide +kernel
theorem dL_law_835 : decode cL_law 835 = .ok (.iconst 1, 1) := by decide +kernel
theorem dL_law_836 : decode cL_law 836 = .ok (.iadd, 1) := by decide +kernel
theorem dL_law_837 : decode cL_law 837 = .ok (.iaload, 1) := by decide +kernel
theorem dL_law_838 : decode cL_law 838 = .ok (.aload_n 0, 1) := by decide +kernel
theorem dL_law_839 : decode cL_law 839 = .ok (.iload 4, 2) := by decide +kernel
theorem dL_law_841 : decode cL_law 841 = .ok (.iconst 2, 1) := by decide +kernel
theorem dL_law_842 : decode cL_law 842 = .ok (.iadd, 1) := by decide +kernel
theorem dL_law_843 : decode cL_law 843 = .ok (.iaload, 1) := by decide +kernel
theorem dL_law_844 : decode cL_law 844 = .ok (.invokevirtual 106, 3) := by decide +kernel
theorem dL_law_847 : decode cL_law 847 = .ok (.istore 6, 2) := by decide +kernel
theorem dL_law_849 : decode cL_law 849 = .ok (.goto 165, 3) := by decide +kernel
theorem dL_law_852 : decode cL_law 852 = .ok (.aload_n 1, 1) := by decide +kernel
theorem dL_law_853 : decode cL_law 853 = .ok (.aload_n 0, 1) := by decide +kernel
theorem dL_law_854 : decode cL_law 854 = .ok (.iload 4, 2) := by decide +kernel
theorem dL_law_856 : decode cL_law 856 = .ok (.iconst 1, 1) := by decide +kernel
theorem dL_law_857 : decode cL_law 857 = .ok (.iadd, 1) := by decide +kernel
theorem dL_law_858 : decode cL_law 858 = .ok (.iaload, 1) := by decide +kernel
theorem dL_law_859 : decode cL_law 859 = .ok (.invokevirtual 107, 3) := by decide +kernel
theorem dL_law_862 : decode cL_law 862 = .ok (.pop, 1) := by decide +kernel
theorem dL_law_863 : decode cL_law 863 = .ok (.aload_n 2, 1) := by decide +kernel
theorem dL_law_864 : decode cL_law 864 = .ok (.aload_n 0, 1) := by decide +kernel
theorem dL_law_865 : decode cL_law 865 = .ok (.iload 4, 2) := by decide +kernel
theorem dL_law_867 : decode cL_law 867 = .ok (.iconst 1, 1) := by decide +kernel
theorem dL_law_868 : decode cL_law 868 = .ok (.iadd, 1) := by decide +kernel
theorem dL_law_869 : decode cL_law 869 = .ok (.iaload, 1) := by decide +kernel
theorem dL_law_870 : decode cL_law 870 = .ok (.invokevirtual 110, 3) := by decide +kernel
theorem dL_law_873 : decode cL_law 873 = .ok (.pop, 1) := by decide +kernel
theorem dL_law_874 : decode cL_law 874 = .ok (.goto 140, 3) := by decide +kernel
theorem dL_law_877 : decode cL_law 877 = .ok (.aload_n 1, 1) := by decide +kernel
theorem dL_law_878 : decode cL_law 878 = .ok (.aload_n 0, 1) := by decide +kernel
theorem dL_law_879 : decode cL_law 879 = .ok (.iload 4, 2) := by decide +kernel
theorem dL_law_881 : decode cL_law 881 = .ok (.iconst 1, 1) := by decide +kernel
theorem dL_law_882 : decode cL_law 882 = .ok (.iadd, 1) := by decide +kernel
theorem dL_law_883 : decode cL_law 883 = .ok (.iaload, 1) := by decide +kernel
theorem dL_law_884 : decode cL_law 884 = .ok (.aload_n 0, 1) := by decide +kernel
theorem dL_law_885 : decode cL_law 885 = .ok (.iload 4, 2) := by decide +kernel
theorem dL_law_887 : decode cL_law 887 = .ok (.iconst 2, 1) := by decide +kernel
theorem dL_law_888 : decode cL_law 888 = .ok (.iadd, 1) := by decide +kernel
theorem dL_law_889 : decode cL_law 889 = .ok (.iaload, 1) := by decide +kernel
theorem dL_law_890 : decode cL_law 890 = .ok (.invokevirtual 111, 3) := by decide +kernel
theorem dL_law_893 : decode cL_law 893 = .ok (.pop, 1) := by decide +kernel
theorem dL_law_894 : decode cL_law 894 = .ok (.aload_n 2, 1) := by decide +kernel
theorem dL_law_895 : decode cL_law 895 = .ok (.aload_n 0, 1) := by decide +kernel
theorem dL_law_896 : decode cL_law 896 = .ok (.iload 4, 2) := by decide +kernel
theorem dL_law_898 : decode cL_law 898 = .ok (.iconst 1, 1) := by decide +kernel
theorem dL_law_899 : decode cL_law 899 = .ok (.iadd, 1) := by decide +kernel
theorem dL_law_900 : decode cL_law 900 = .ok (.iaload, 1) := by decide +kernel
theorem dL_law_901 : decode cL_law 901 = .ok (.aload_n 0, 1) := by decide +kernel
theorem dL_law_902 : decode cL_law 902 = .ok (.iload 4, 2) := by decide +kernel
theorem dL_law_904 : decode cL_law 904 = .ok (.iconst 2, 1) := by decide +kernel
theorem dL_law_905 : decode cL_law 905 = .ok (.iadd, 1) := by decide +kernel
theorem dL_law_906 : decode cL_law 906 = .ok (.iaload, 1) := by decide +kernel
theorem dL_law_907 : decode cL_law 907 = .ok (.invokevirtual 114, 3) := by decide +kernel
theorem dL_law_910 : decode cL_law 910 = .ok (.pop, 1) := by decide +kernel
theorem dL_law_911 : decode cL_law 911 = .ok (.goto 103, 3) := by decide +kernel
theorem dL_law_914 : decode cL_law 914 = .ok (.aload_n 1, 1) := by decide +kernel
theorem dL_law_915 : decode cL_law 915 = .ok (.aload_n 0, 1) := by decide +kernel
theorem dL_law_916 : decode cL_law 916 = .ok (.iload 4, 2) := by decide +kernel
theorem dL_law_918 : decode cL_law 918 = .ok (.iconst 1, 1) := by decide +kernel
theorem dL_law_919 : decode cL_law 919 = .ok (.iadd, 1) := by decide +kernel
theorem dL_law_920 : decode cL_law 920 = .ok (.iaload, 1) := by decide +kernel
theorem dL_law_921 : decode cL_law 921 = .ok (.invokevirtual 115, 3) := by decide +kernel
theorem dL_law_924 : decode cL_law 924 = .ok (.pop, 1) := by decide +kernel
theorem dL_law_925 : decode cL_law 925 = .ok (.aload_n 2, 1) := by decide +kernel
theorem dL_law_926 : decode cL_law 926 = .ok (.aload_n 0, 1) := by decide +kernel
theorem dL_law_927 : decode cL_law 927 = .ok (.iload 4, 2) := by decide +kernel
theorem dL_law_929 : decode cL_law 929 = .ok (.iconst 1, 1) := by decide +kernel
theorem dL_law_930 : decode cL_law 930 = .ok (.iadd, 1) := by decide +kernel
theorem dL_law_931 : decode cL_law 931 = .ok (.iaload, 1) := by decide +kernel
theorem dL_law_932 : decode cL_law 932 = .ok (.invokevirtual 118, 3) := by decide +kernel
theorem dL_law_935 : decode cL_law 935 = .ok (.pop, 1) := by decide +kernel
theorem dL_law_936 : decode cL_law 936 = .ok (.goto 78, 3) := by decide +kernel
theorem dL_law_939 : decode cL_law 939 = .ok (.aload_n 1, 1) := by decide +kernel
theorem dL_law_940 : decode cL_law 940 = .ok (.aload_n 0, 1) := by decide +kernel
theorem dL_law_941 : decode cL_law 941 = .ok (.iload 4, 2) := by decide +kernel
theorem dL_law_943 : decode cL_law 943 = .ok (.iconst 1, 1) := by decide +kernel
theorem dL_law_944 : decode cL_law 944 = .ok (.iadd, 1) := by decide +kernel
theorem dL_law_945 : decode cL_law 945 = .ok (.iaload, 1) := by decide +kernel
theorem dL_law_946 : decode cL_law 946 = .ok (.invokevirtual 119, 3) := by decide +kernel
theorem dL_law_949 : decode cL_law 949 = .ok (.pop, 1) := by decide +kernel
theorem dL_law_950 : decode cL_law 950 = .ok (.aload_n 2, 1) := by decide +kernel
theorem dL_law_951 : decode cL_law 951 = .ok (.aload_n 0, 1) := by decide +kernel
theorem dL_law_952 : decode cL_law 952 = .ok (.iload 4, 2) := by decide +kernel
theorem dL_law_954 : decode cL_law 954 = .ok (.iconst 1, 1) := by decide +kernel
theorem dL_law_955 : decode cL_law 955 = .ok (.iadd, 1) := by decide +kernel
theorem dL_law_956 : decode cL_law 956 = .ok (.iaload, 1) := by decide +kernel
theorem dL_law_957 : decode cL_law 957 = .ok (.invokevirtual 122, 3) := by decide +kernel
theorem dL_law_960 : decode cL_law 960 = .ok (.pop, 1) := by decide +kernel
theorem dL_law_961 : decode cL_law 961 = .ok (.goto 53, 3) := by decide +kernel
theorem dL_law_964 : decode cL_law 964 = .ok (.aload_n 1, 1) := by decide +kernel
theorem dL_law_965 : decode cL_law 965 = .ok (.aload_n 0, 1) := by decide +kernel
theorem dL_law_966 : decode cL_law 966 = .ok (.iload 4, 2) := by decide +kernel
theorem dL_law_968 : decode cL_law 968 = .ok (.iconst 1, 1) := by decide +kernel
theorem dL_law_969 : decode cL_law 969 = .ok (.iadd, 1) := by decide +kernel
theorem dL_law_970 : decode cL_law 970 = .ok (.iaload, 1) := by decide +kernel
theorem dL_law_971 : decode cL_law 971 = .ok (.invokevirtual 123, 3) := by decide +kernel
theorem dL_law_974 : decode cL_law 974 = .ok (.pop, 1) := by decide +kernel
theorem dL_law_975 : decode cL_law 975 = .ok (.aload_n 2, 1) := by decide +kernel
theorem dL_law_976 : decode cL_law 976 = .ok (.aload_n 0, 1) := by decide +kernel
theorem dL_law_977 : decode cL_law 977 = .ok (.iload 4, 2) := by decide +kernel
theorem dL_law_979 : decode cL_law 979 = .ok (.iconst 1, 1) := by decide +kernel
theorem dL_law_980 : decode cL_law 980 = .ok (.iadd, 1) := by decide +kernel
theorem dL_law_981 : decode cL_law 981 = .ok (.iaload, 1) := by decide +kernel
theorem dL_law_982 : decode cL_law 982 = .ok (.invokevirtual 126, 3) := by decide +kernel
theorem dL_law_985 : decode cL_law 985 = .ok (.pop, 1) := by decide +kernel
theorem dL_law_986 : decode cL_law 986 = .ok (.goto 28, 3) := by decide +kernel
theorem dL_law_989 : decode cL_law 989 = .ok (.aload_n 1, 1) := by decide +kernel
theorem dL_law_990 : decode cL_law 990 = .ok (.aload_n 0, 1) := by decide +kernel
theorem dL_law_991 : decode cL_law 991 = .ok (.iload 4, 2) := by decide +kernel
theorem dL_law_993 : decode cL_law 993 = .ok (.iconst 1, 1) := by decide +kernel
theorem dL_law_994 : decode cL_law 994 = .ok (.iadd, 1) := by decide +kernel
theorem dL_law_995 : decode cL_law 995 = .ok (.iaload, 1) := by decide +kernel
theorem dL_law_996 : decode cL_law 996 = .ok (.invokevirtual 127, 3) := by decide +kernel
theorem dL_law_999 : decode cL_law 999 = .ok (.pop, 1) := by decide +kernel
theorem dL_law_1000 : decode cL_law 1000 = .ok (.aload_n 2, 1) := by decide +kernel
theorem dL_law_1001 : decode cL_law 1001 = .ok (.aload_n 0, 1) := by decide +kernel
theorem dL_law_1002 : decode cL_law 1002 = .ok (.iload 4, 2) := by decide +kernel
theorem dL_law_1004 : decode cL_law 1004 = .ok (.iconst 1, 1) := by decide +kernel
theorem dL_law_1005 : decode cL_law 1005 = .ok (.iadd, 1) := by decide +kernel
theorem dL_law_1006 : decode cL_law 1006 = .ok (.iaload, 1) := by decide +kernel
theorem dL_law_1007 : decode cL_law 1007 = .ok (.invokevirtual 130, 3) := by decide +kernel
theorem dL_law_1010 : decode cL_law 1010 = .ok (.pop, 1) := by decide +kernel
theorem dL_law_1011 : decode cL_law 1011 = .ok (.goto 3, 3) := by decide +kernel
theorem my_le {c mc s ms : Nat} (h1 : c + mc ≤ 741096) (h2 : s + ms ≤ 6872816) : c + mc ≤ room_1.cells ∧ s + ms ≤ room_1.slots := ⟨h1, h2⟩
theorem my_tO {tA : Nat → Nat} {f g : Nat → Option Nat} (h : tO tA f) (e : g = f) : tO tA g := by rw [e]; exact h
set_option maxHeartbeats 4000000 in
set_option maxRecDepth 100000 in
theorem law_0 {p : Program} {e : Env} {s : State} {m : MethodId} {below : List Frame} {meth : Method} {c : Code} (l : Launch) {b L : Nat} {xs : Nat → Int32} (hL : L ≤ 3584) (hl0 : l.stackTraces = false) (C0 : lw_At p s m meth c b L xs) {A : Nat → Prop} (hAe : A = fun q => s.heap.size ≤ q) {dC : Nat → ClassId} {dI : Nat → Nat → Nat} {ob ad : Nat → Nat} {cA : Nat → ClassId} {h : Nat} {adm : Nat → Nat} {cAm : Nat → ClassId} {yO : Nat} {kO : ClassId} {tA : Nat → Nat} {tD : Nat} {tkK tkV tkL : Nat → Nat} {tkB : Nat → Nat → Int32} {tkT sN : Nat} (hs : iSep s ob ad h adm yO) (hKX : va_K (dC, dI) vwCl (tyX cA) s) (hKM : va_K (dC, dI) vwCl (tyM cAm) s) (hKO : va_K (dC, dI) vwCl [(kO, .long)] s) (hst : iSt s A tA tkK tkV tkL tkB tkT sN tD) (H : Heap) (locs : List Loc) (td : Nat → Int32) (hI : inV s dC dI ob ad cA h adm cAm yO kO tA tD td td H) (hS : va_S A s.heap H locs) (i : Int32) (J : Nat) (hi : i.toInt = (J : Int)) (hJ : J + 7 ≤ L) (nc ns : Nat) (hnc : nc + 9 ≤ 741096) (hns : ns + 371 ≤ 6872816) (ls : Array Slot) (hl : lv_has ls 7 [(0, .ref b), (1, .ref (ob 0)), (2, .ref h), (3, .ref yO), (4, .int i)]) (kk : ∀ (H : Heap) (locs : List Loc) (td : Nat → Int32) (ls : Array Slot), inV s dC dI ob ad cA h adm cAm yO kO tA tD td td H → va_S A s.heap H locs → lv_has ls 7 [(0, .ref b), (1, .ref (ob 0)), (2, .ref h), (3, .ref yO), (4, .int i)] → W p l e room_1 s m #[Value.ref b] below meth c H locs (nc + 9) (ns + 371) (lw_Z below #[Value.ref b] s) (F0 m 1014 ls [])) : W p l e room_1 s m #[Value.ref b] below meth c H locs nc ns (lw_Z below #[Value.ref b] s) (F0 m 156 ls []) := by
  obtain ⟨hx, hb, hr, hml, hown, hts0, hX, hbl, hlocks, hgv⟩ := id C0
  have hb : c.code = cL_law := hb
  have hown : s.vm.findClass RL = some m.cls := hown
  have hts : ∀ w ∈ (.initialized RL :: lw_good : List Cond), w.before #[Value.ref b] s = true := fun w h => (List.mem_cons.mp h).elim (fun q => by rw [q]; exact hts0 _ (lwgT kw_1_0)) (fun q => hts0 w (lwgT q))
  have hA : ∀ q : Nat, s.heap.size ≤ q → A q := fun q h => by rw [hAe]; exact h
  have hbA : ¬ A b := by rw [hAe]; exact Nat.not_le.mpr hbl
  refine lv_aload_n hx hb dL_law_156 rfl (lv_at hl 1 rfl) ?_
  refine lv_aload_n hx hb dL_law_157 rfl (lv_at hl 0 rfl) ?_
  refine lv_iload hx hb dL_law_158 (lv_at hl 4 rfl) ?_
  refine lv_iconst (v := 1) hx hb dL_law_160 (by decide) ?_
  refine lv_iadd hx hb dL_law_161 ?_
  refine lv_topi (fun v_1 ev_1 => ?_)
  refine va_sld hx hb hX hbl hbA hS (my_si (k := 1) hi hJ hL ev_1 (by decide) (by decide) (by decide)) dL_law_162 ?_
  refine lv_topi (fun v_2 ev_2 => ?_)
  refine lv_aload_n hx hb dL_law_163 rfl (lv_at hl 0 rfl) ?_
  refine lv_iload hx hb dL_law_164 (lv_at hl 4 rfl) ?_
  refine lv_iconst (v := 2) hx hb dL_law_166 (by decide) ?_
  refine lv_iadd hx hb dL_law_167 ?_
  refine lv_topi (fun v_3 ev_3 => ?_)
  refine va_sld hx hb hX hbl hbA hS (my_si (k := 2) hi hJ hL ev_3 (by decide) (by decide) (by decide)) dL_law_168 ?_
  refine lv_topi (fun v_4 ev_4 => ?_)
  refine lv_aload_n hx hb dL_law_169 rfl (lv_at hl 0 rfl) ?_
  refine lv_iload hx hb dL_law_170 (lv_at hl 4 rfl) ?_
  refine lv_iconst (v := 3) hx hb dL_law_172 (by decide) ?_
  refine lv_iadd hx hb dL_law_173 ?_
  refine lv_topi (fun v_5 ev_5 => ?_)
  refine va_sld hx hb hX hbl hbA hS (my_si (k := 3) hi hJ hL ev_5 (by decide) (by decide) (by decide)) dL_law_174 ?_
  refine lv_topi (fun v_6 ev_6 => ?_)
  refine lv_aload_n hx hb dL_law_175 rfl (lv_at hl 0 rfl) ?_
  refine lv_iload hx hb dL_law_176 (lv_at hl 4 rfl) ?_
  refine lv_iconst (v := 4) hx hb dL_law_178 (by decide) ?_
  refine lv_iadd hx hb dL_law_179 ?_
  refine lv_topi (fun v_7 ev_7 => ?_)
  refine va_sld hx hb hX hbl hbA hS (my_si (k := 4) hi hJ hL ev_7 (by decide) (by decide) (by decide)) dL_law_180 ?_
  refine lv_topi (fun v_8 ev_8 => ?_)
  refine lv_aload_n hx hb dL_law_181 rfl (lv_at hl 0 rfl) ?_
  refine lv_iload hx hb dL_law_182 (lv_at hl 4 rfl) ?_
  refine lv_iconst (v := 5) hx hb dL_law_184 (by decide) ?_
  refine lv_iadd hx hb dL_law_185 ?_
  refine lv_topi (fun v_9 ev_9 => ?_)
  refine va_sld hx hb hX hbl hbA hS (my_si (k := 5) hi hJ hL ev_9 (by decide) (by decide) (by decide)) dL_law_186 ?_
  refine lv_topi (fun v_10 ev_10 => ?_)
  obtain ⟨fv, wd, ar, gv, gw, gr, fO, gla, gfr, gra, grc, gln, gcn, glr, ce, ef, hXX, hMM, hOO, hGG, h00, hNN, hLL, hEE⟩ := hI
  have hFX : ∀ q, aX ob ad H.size q → A q := fun q w => hA q (w.elim (fun ⟨k, hk⟩ => hs.2.2.1 k q hk) (fun w => Nat.le_trans hS.1 w))
  refine va_calli (va_runV (As := [.int v_2, .int v_4, .int v_6, .int v_8, .int v_10]) (rest := []) ⟨hx, hb, hml, hown, hts⟩ (x_feedE l dC dI H.size ob ad cA hs.1 fv wd ar hXX.2.1 hXX.2.2.1 v_2 v_4 v_6 v_8 v_10) (cwV 5 hts (gV kw_3_119 kw_3_120 kw_3_121 kw_1_1 kw_3_122) rfl rfl rfl (by decide +kernel) ⟨Nat.le_of_ble_eq_true rfl, Nat.le_of_ble_eq_true rfl⟩) ⟨fun a U g mk q => ⟨q.1, q.2.1, q.2.2.1, va_K.moved (u := U) (U := U.calling g mk a) (Vm.Alike.refl U.vm) q.2.2.2⟩, va_recv hKX hXX.1 (ci := 11) (q0 := 0) rfl rfl, fun U hU hW => ⟨rfl, by rw [hU], by rw [hU]; exact hXX.1, va_K.moved hW.alike hKX⟩⟩ rfl rfl hl.1 rfl (lv_room (Nat.le_of_ble_eq_true rfl)) dL_law_187 (my_le (by omega) (by omega))) hS (fun q _ w => hFX q w) hFX (fun r_11 u t H1 locs ht hvm hw hB hz1 hk1 hS => ?_)
  obtain ⟨f_12, w_13, a_14⟩ := u
  obtain ⟨c_15, c_16, c_17, c_18, c_19, c_20, c_21⟩ := hw
  have hP1 : va_P (dC, dI) vwCl (wsX ob ad cA f_12 w_13 a_14) H1 := by have h9 := hB.1; rw [ht] at h9; exact h9
  have hnx1 : ps_feed r_11 (f_12 0) (td 5) := by have h9 : ps_feed r_11 (f_12 0) (fv 0) := c_20; rw [show fv 0 = td 5 from hXX.2.2.2.2.2.2.2.2.2] at h9; exact h9
  have hI : inV s dC dI ob ad cA h adm cAm yO kO tA tD (va_up td 5 (f_12 0)) td H1 := inv_x (ar := ar) (tX := td) hs hMM hOO hGG h00 hNN hLL hEE hP1 c_15 c_16 (my_tO hXX.2.2.2.1 (congrArg (fun z => z.1) c_19)) ⟨((c_17 7 rfl).trans hXX.2.2.2.2.1), ((c_17 4 rfl).trans hXX.2.2.2.2.2.1), ((c_17 11 rfl).trans hXX.2.2.2.2.2.2.1), ((c_17 12 rfl).trans hXX.2.2.2.2.2.2.2.1), ((c_17 9 rfl).trans hXX.2.2.2.2.2.2.2.2.1), rfl⟩ (c_17 30 rfl) (congrArg (fun z => z.2.2) c_19) hz1 hk1
  generalize H1 = H at hI hS ⊢
  refine lv_pop hx hb dL_law_190 rfl ?_
  refine lv_aload_n hx hb dL_law_191 rfl (lv_at hl 2 rfl) ?_
  refine lv_aload_n hx hb dL_law_192 rfl (lv_at hl 0 rfl) ?_
  refine lv_iload hx hb dL_law_193 (lv_at hl 4 rfl) ?_
  refine lv_iconst (v := 1) hx hb dL_law_195 (by decide) ?_
  refine lv_iadd hx hb dL_law_196 ?_
  refine lv_topi (fun v_22 ev_22 => ?_)
  refine va_sld hx hb hX hbl hbA hS (my_si (k := 1) hi hJ hL ev_22 (by decide) (by decide) (by decide)) dL_law_197 ?_
  refine lv_topi (fun v_23 ev_23 => ?_)
  obtain rfl : v_23 = v_2 := by rw [ev_23, ev_2, ev_22, ev_1]
  refine lv_aload_n hx hb dL_law_198 rfl (lv_at hl 0 rfl) ?_
  refine lv_iload hx hb dL_law_199 (lv_at hl 4 rfl) ?_
  refine lv_iconst (v := 2) hx hb dL_law_201 (by decide) ?_
  refine lv_iadd hx hb dL_law_202 ?_
  refine lv_topi (fun v_24 ev_24 => ?_)
  refine va_sld hx hb hX hbl hbA hS (my_si (k := 2) hi hJ hL ev_24 (by decide) (by decide) (by decide)) dL_law_203 ?_
  refine lv_topi (fun v_25 ev_25 => ?_)
  obtain rfl : v_25 = v_4 := by rw [ev_25, ev_4, ev_24, ev_3]
  refine lv_aload_n hx hb dL_law_204 rfl (lv_at hl 0 rfl) ?_
  refine lv_iload hx hb dL_law_205 (lv_at hl 4 rfl) ?_
  refine lv_iconst (v := 3) hx hb dL_law_207 (by decide) ?_
  refine lv_iadd hx hb dL_law_208 ?_
  refine lv_topi (fun v_26 ev_26 => ?_)
  refine va_sld hx hb hX hbl hbA hS (my_si (k := 3) hi hJ hL ev_26 (by decide) (by decide) (by decide)) dL_law_209 ?_
  refine lv_topi (fun v_27 ev_27 => ?_)
  obtain rfl : v_27 = v_6 := by rw [ev_27, ev_6, ev_26, ev_5]
  refine lv_aload_n hx hb dL_law_210 rfl (lv_at hl 0 rfl) ?_
  refine lv_iload hx hb dL_law_211 (lv_at hl 4 rfl) ?_
  refine lv_iconst (v := 4) hx hb dL_law_213 (by decide) ?_
  refine lv_iadd hx hb dL_law_214 ?_
  refine lv_topi (fun v_28 ev_28 => ?_)
  refine va_sld hx hb hX hbl hbA hS (my_si (k := 4) hi hJ hL ev_28 (by decide) (by decide) (by decide)) dL_law_215 ?_
  refine lv_topi (fun v_29 ev_29 => ?_)
  obtain rfl : v_29 = v_8 := by rw [ev_29, ev_8, ev_28, ev_7]
  refine lv_aload_n hx hb dL_law_216 rfl (lv_at hl 0 rfl) ?_
  refine lv_iload hx hb dL_law_217 (lv_at hl 4 rfl) ?_
  refine lv_iconst (v := 5) hx hb dL_law_219 (by decide) ?_
  refine lv_iadd hx hb dL_law_220 ?_
  refine lv_topi (fun v_30 ev_30 => ?_)
  refine va_sld hx hb hX hbl hbA hS (my_si (k := 5) hi hJ hL ev_30 (by decide) (by decide) (by decide)) dL_law_221 ?_
  refine lv_topi (fun v_31 ev_31 => ?_)
  obtain rfl : v_31 = v_10 := by rw [ev_31, ev_10, ev_30, ev_9]
  obtain ⟨fv, wd, ar, gv, gw, gr, fO, gla, gfr, gra, grc, gln, gcn, glr, ce, ef, hXX, hMM, hOO, hGG, h00, hNN, hLL, hEE⟩ := hI
  have hFM : ∀ q, aM h adm H.size q → A q := fun q w => hA q (w.elim (fun ⟨k, hk⟩ => hs.2.2.2.1 k q hk) (fun w => Nat.le_trans hS.1 w))
  refine va_calli (va_runV (As := [.int v_23, .int v_25, .int v_27, .int v_29, .int v_31]) (rest := []) ⟨hx, hb, hml, hown, hts⟩ (m_feedE l dC dI H.size h adm cAm hs.2.1 gv gw gr hMM.2.1 hMM.2.2.1 v_23 v_25 v_27 v_29 v_31) (cwV 5 hts (gV kw_7_202 kw_7_203 kw_7_204 kw_1_15 kw_7_205) rfl rfl rfl (by decide +kernel) ⟨Nat.le_of_ble_eq_true rfl, Nat.le_of_ble_eq_true rfl⟩) ⟨fun a U g mk q => ⟨q.1, q.2.1, q.2.2.1, va_K.moved (u := U) (U := U.calling g mk a) (Vm.Alike.refl U.vm) q.2.2.2⟩, va_recv hKM hMM.1 (ci := 12) (q0 := 0) rfl rfl, fun U hU hW => ⟨rfl, by rw [hU], by rw [hU]; exact hMM.1, va_K.moved hW.alike hKM⟩⟩ rfl rfl hl.1 rfl (lv_room (Nat.le_of_ble_eq_true rfl)) dL_law_222 (my_le (by omega) (by omega))) hS (fun q _ w => hFM q w) hFM (fun r_32 u t H1 locs ht hvm hw hB hz1 hk1 hS => ?_)
  obtain ⟨f_33, w_34, a_35⟩ := u
  obtain ⟨c_36, c_37, c_38, c_39, c_40, c_41⟩ := hw
  have hP1 : va_P (dC, dI) vwCl (wsM h adm cAm f_33 w_34 a_35) H1 := by have h9 := hB.1; rw [ht] at h9; exact h9
  have hnx2 : ps_feed r_32 (f_33 2) (td 5) := by have h9 : ps_feed r_32 (f_33 2) (gv 2) := c_40; rw [show gv 2 = td 5 from hMM.2.2.2.2.2.2.2.2.2.2] at h9; exact h9
  have hnx : r_11 = r_32 ∧ f_12 0 = f_33 2 := ps_feed_det hnx1 hnx2
  have hI : inV s dC dI ob ad cA h adm cAm yO kO tA tD (va_up td 5 (f_12 0)) (va_up td 5 (f_33 2)) H1 := inv_m (gv := gv) (gw := gw) (gr := gr) (tM := td) hs hXX hOO hGG h00 hNN hLL hEE hP1 c_36 c_37 (vM_fr hMM.2.2.2.1 c_38 c_39 rfl rfl rfl rfl rfl) (sW_fr hMM.2.2.2.2.1 c_39 rfl rfl) ⟨((c_38 3 rfl).trans hMM.2.2.2.2.2.1), ((c_38 33 rfl).trans hMM.2.2.2.2.2.2.1), ((c_38 34 rfl).trans hMM.2.2.2.2.2.2.2.1), ((c_38 35 rfl).trans hMM.2.2.2.2.2.2.2.2.1), ((c_38 6 rfl).trans hMM.2.2.2.2.2.2.2.2.2.1), rfl⟩ hz1 hk1
  generalize H1 = H at hI hS ⊢
  refine lv_pop hx hb dL_law_225 rfl ?_
  refine lv_goto (tgt := 1014) hx hb dL_law_226 (by decide) ?_
  refine W.widen (k := nc + 9) (n := ns + 371) (by omega) (by omega) ?_
  rw [← hnx.2] at hI
  exact kk _ _ _ _ hI hS (lv_sub hl [0, 1, 2, 3, 4] rfl)
set_option maxHeartbeats 4000000 in
set_option maxRecDepth 100000 in
theorem law_1 {p : Program} {e : Env} {s : State} {m : MethodId} {below : List Frame} {meth : Method} {c : Code} (l : Launch) {b L : Nat} {xs : Nat → Int32} (hL : L ≤ 3584) (hl0 : l.stackTraces = false) (C0 : lw_At p s m meth c b L xs) {A : Nat → Prop} (hAe : A = fun q => s.heap.size ≤ q) {dC : Nat → ClassId} {dI : Nat → Nat → Nat} {ob ad : Nat → Nat} {cA : Nat → ClassId} {h : Nat} {adm : Nat → Nat} {cAm : Nat → ClassId} {yO : Nat} {kO : ClassId} {tA : Nat → Nat} {tD : Nat} {tkK tkV tkL : Nat → Nat} {tkB : Nat → Nat → Int32} {tkT sN : Nat} (hs : iSep s ob ad h adm yO) (hKX : va_K (dC, dI) vwCl (tyX cA) s) (hKM : va_K (dC, dI) vwCl (tyM cAm) s) (hKO : va_K (dC, dI) vwCl [(kO, .long)] s) (hst : iSt s A tA tkK tkV tkL tkB tkT sN tD) (H : Heap) (locs : List Loc) (td : Nat → Int32) (hI : inV s dC dI ob ad cA h adm cAm yO kO tA tD td td H) (hS : va_S A s.heap H locs) (i : Int32) (J : Nat) (hi : i.toInt = (J : Int)) (hJ : J + 7 ≤ L) (nc ns : Nat) (hnc : nc + 9 ≤ 741096) (hns : ns + 371 ≤ 6872816) (ls : Array Slot) (hl : lv_has ls 7 [(0, .ref b), (1, .ref (ob 0)), (2, .ref h), (3, .ref yO), (4, .int i)]) (kk : ∀ (H : Heap) (locs : List Loc) (td : Nat → Int32) (ls : Array Slot), inV s dC dI ob ad cA h adm cAm yO kO tA tD td td H → va_S A s.heap H locs → lv_has ls 7 [(0, .ref b), (1, .ref (ob 0)), (2, .ref h), (3, .ref yO), (4, .int i)] → W p l e room_1 s m #[Value.ref b] below meth c H locs (nc + 9) (ns + 371) (lw_Z below #[Value.ref b] s) (F0 m 1014 ls [])) : W p l e room_1 s m #[Value.ref b] below meth c H locs nc ns (lw_Z below #[Value.ref b] s) (F0 m 229 ls []) := by
  obtain ⟨hx, hb, hr, hml, hown, hts0, hX, hbl, hlocks, hgv⟩ := id C0
  have hb : c.code = cL_law := hb
  have hown : s.vm.findClass RL = some m.cls := hown
  have hts : ∀ w ∈ (.initialized RL :: lw_good : List Cond), w.before #[Value.ref b] s = true := fun w h => (List.mem_cons.mp h).elim (fun q => by rw [q]; exact hts0 _ (lwgT kw_1_0)) (fun q => hts0 w (lwgT q))
  have hA : ∀ q : Nat, s.heap.size ≤ q → A q := fun q h => by rw [hAe]; exact h
  have hbA : ¬ A b := by rw [hAe]; exact Nat.not_le.mpr hbl
  refine lv_aload_n hx hb dL_law_229 rfl (lv_at hl 1 rfl) ?_
  refine lv_aload_n hx hb dL_law_230 rfl (lv_at hl 0 rfl) ?_
  refine lv_iload hx hb dL_law_231 (lv_at hl 4 rfl) ?_
  refine lv_iconst (v := 1) hx hb dL_law_233 (by decide) ?_
  refine lv_iadd hx hb dL_law_234 ?_
  refine lv_topi (fun v_1 ev_1 => ?_)
  refine va_sld hx hb hX hbl hbA hS (my_si (k := 1) hi hJ hL ev_1 (by decide) (by decide) (by decide)) dL_law_235 ?_
  refine lv_topi (fun v_2 ev_2 => ?_)
  obtain ⟨fv, wd, ar, gv, gw, gr, fO, gla, gfr, gra, grc, gln, gcn, glr, ce, ef, hXX, hMM, hOO, hGG, h00, hNN, hLL, hEE⟩ := hI
  have hFX : ∀ q, aX ob ad H.size q → A q := fun q w => hA q (w.elim (fun ⟨k, hk⟩ => hs.2.2.1 k q hk) (fun w => Nat.le_trans hS.1 w))
  refine va_calli (va_runV (As := [.int v_2]) (rest := []) ⟨hx, hb, hml, hown, hts⟩ (x_endE l dC dI H.size ob ad cA hs.1 fv wd ar hXX.2.1 hXX.2.2.1 v_2) (cwV 1 hts (gV kw_3_127 kw_3_128 kw_3_129 kw_1_1 kw_3_130) rfl rfl rfl (by decide +kernel) ⟨Nat.le_of_ble_eq_true rfl, Nat.le_of_ble_eq_true rfl⟩) ⟨fun a U g mk q => ⟨q.1, q.2.1, q.2.2.1, va_K.moved (u := U) (U := U.calling g mk a) (Vm.Alike.refl U.vm) q.2.2.2⟩, va_recv hKX hXX.1 (ci := 11) (q0 := 0) rfl rfl, fun U hU hW => ⟨rfl, by rw [hU], by rw [hU]; exact hXX.1, va_K.moved hW.alike hKX⟩⟩ rfl rfl hl.1 rfl (lv_room (Nat.le_of_ble_eq_true rfl)) dL_law_236 (my_le (by omega) (by omega))) hS (fun q _ w => hFX q w) hFX (fun r_3 u t H1 locs ht hvm hw hB hz1 hk1 hS => ?_)
  obtain ⟨f_4, w_5, a_6⟩ := u
  obtain ⟨c_7, c_8, c_9, c_10, c_11, c_12, c_13, c_14⟩ := hw
  have hP1 : va_P (dC, dI) vwCl (wsX ob ad cA f_4 w_5 a_6) H1 := by have h9 := hB.1; rw [ht] at h9; exact h9
  have hnx1 : ps_end r_3 (f_4 0) (td 5) v_2 := by have h9 : ps_end r_3 (f_4 0) (fv 0) v_2 := c_13; rw [show fv 0 = td 5 from hXX.2.2.2.2.2.2.2.2.2] at h9; exact h9
  have hI : inV s dC dI ob ad cA h adm cAm yO kO tA tD (va_up td 5 (f_4 0)) td H1 := inv_x (ar := ar) (tX := td) hs hMM hOO hGG h00 hNN hLL hEE hP1 c_7 c_8 (my_tO hXX.2.2.2.1 (congrArg (fun z => z.1) c_11)) ⟨((c_9 7 rfl).trans hXX.2.2.2.2.1), ((c_9 4 rfl).trans hXX.2.2.2.2.2.1), ((c_9 11 rfl).trans hXX.2.2.2.2.2.2.1), ((c_9 12 rfl).trans hXX.2.2.2.2.2.2.2.1), ((c_9 9 rfl).trans hXX.2.2.2.2.2.2.2.2.1), rfl⟩ (c_9 30 rfl) (congrArg (fun z => z.2.2) c_11) hz1 hk1
  generalize H1 = H at hI hS ⊢
  refine lv_pop hx hb dL_law_239 rfl ?_
  refine lv_aload_n hx hb dL_law_240 rfl (lv_at hl 2 rfl) ?_
  refine lv_aload_n hx hb dL_law_241 rfl (lv_at hl 0 rfl) ?_
  refine lv_iload hx hb dL_law_242 (lv_at hl 4 rfl) ?_
  refine lv_iconst (v := 1) hx hb dL_law_244 (by decide) ?_
  refine lv_iadd hx hb dL_law_245 ?_
  refine lv_topi (fun v_15 ev_15 => ?_)
  refine va_sld hx hb hX hbl hbA hS (my_si (k := 1) hi hJ hL ev_15 (by decide) (by decide) (by decide)) dL_law_246 ?_
  refine lv_topi (fun v_16 ev_16 => ?_)
  obtain rfl : v_16 = v_2 := by rw [ev_16, ev_2, ev_15, ev_1]
  obtain ⟨fv, wd, ar, gv, gw, gr, fO, gla, gfr, gra, grc, gln, gcn, glr, ce, ef, hXX, hMM, hOO, hGG, h00, hNN, hLL, hEE⟩ := hI
  have hFM : ∀ q, aM h adm H.size q → A q := fun q w => hA q (w.elim (fun ⟨k, hk⟩ => hs.2.2.2.1 k q hk) (fun w => Nat.le_trans hS.1 w))
  refine va_calli (va_runV (As := [.int v_16]) (rest := []) ⟨hx, hb, hml, hown, hts⟩ (m_endE l dC dI H.size h adm cAm hs.2.1 gv gw gr hMM.2.1 hMM.2.2.1 v_16) (cwV 1 hts (gV kw_7_210 kw_7_211 kw_7_212 kw_1_15 kw_7_213) rfl rfl rfl (by decide +kernel) ⟨Nat.le_of_ble_eq_true rfl, Nat.le_of_ble_eq_true rfl⟩) ⟨fun a U g mk q => ⟨q.1, q.2.1, q.2.2.1, va_K.moved (u := U) (U := U.calling g mk a) (Vm.Alike.refl U.vm) q.2.2.2⟩, va_recv hKM hMM.1 (ci := 12) (q0 := 0) rfl rfl, fun U hU hW => ⟨rfl, by rw [hU], by rw [hU]; exact hMM.1, va_K.moved hW.alike hKM⟩⟩ rfl rfl hl.1 rfl (lv_room (Nat.le_of_ble_eq_true rfl)) dL_law_247 (my_le (by omega) (by omega))) hS (fun q _ w => hFM q w) hFM (fun r_17 u t H1 locs ht hvm hw hB hz1 hk1 hS => ?_)
  obtain ⟨f_18, w_19, a_20⟩ := u
  obtain ⟨c_21, c_22, c_23, c_24, c_25, c_26, c_27⟩ := hw
  have hP1 : va_P (dC, dI) vwCl (wsM h adm cAm f_18 w_19 a_20) H1 := by have h9 := hB.1; rw [ht] at h9; exact h9
  have hnx2 : ps_end r_17 (f_18 2) (td 5) v_16 := by have h9 : ps_end r_17 (f_18 2) (gv 2) v_16 := c_26; rw [show gv 2 = td 5 from hMM.2.2.2.2.2.2.2.2.2.2] at h9; exact h9
  have hnx : r_3 = r_17 ∧ f_4 0 = f_18 2 := ps_end_det hnx1 hnx2
  have hI : inV s dC dI ob ad cA h adm cAm yO kO tA tD (va_up td 5 (f_4 0)) (va_up td 5 (f_18 2)) H1 := inv_m (gv := gv) (gw := gw) (gr := gr) (tM := td) hs hXX hOO hGG h00 hNN hLL hEE hP1 c_21 c_22 (vM_fr hMM.2.2.2.1 c_23 c_24 rfl rfl rfl rfl rfl) (sW_fr hMM.2.2.2.2.1 c_24 rfl rfl) ⟨((c_23 3 rfl).trans hMM.2.2.2.2.2.1), ((c_23 33 rfl).trans hMM.2.2.2.2.2.2.1), ((c_23 34 rfl).trans hMM.2.2.2.2.2.2.2.1), ((c_23 35 rfl).trans hMM.2.2.2.2.2.2.2.2.1), ((c_23 6 rfl).trans hMM.2.2.2.2.2.2.2.2.2.1), rfl⟩ hz1 hk1
  generalize H1 = H at hI hS ⊢
  refine lv_pop hx hb dL_law_250 rfl ?_
  refine lv_goto (tgt := 1014) hx hb dL_law_251 (by decide) ?_
  refine W.widen (k := nc + 9) (n := ns + 371) (by omega) (by omega) ?_
  rw [← hnx.2] at hI
  exact kk _ _ _ _ hI hS (lv_sub hl [0, 1, 2, 3, 4] rfl)
set_option maxHeartbeats 4000000 in
set_option maxRecDepth 100000 in
theorem law_2 {p : Program} {e : Env} {s : State} {m : MethodId} {below : List Frame} {meth : Method} {c : Code} (l : Launch) {b L : Nat} {xs : Nat → Int32} (hL : L ≤ 3584) (hl0 : l.stackTraces = false) (C0 : lw_At p s m meth c b L xs) {A : Nat → Prop} (hAe : A = fun q => s.heap.size ≤ q) {dC : Nat → ClassId} {dI : Nat → Nat → Nat} {ob ad : Nat → Nat} {cA : Nat → ClassId} {h : Nat} {adm : Nat → Nat} {cAm : Nat → ClassId} {yO : Nat} {kO : ClassId} {tA : Nat → Nat} {tD : Nat} {tkK tkV tkL : Nat → Nat} {tkB : Nat → Nat → Int32} {tkT sN : Nat} (hs : iSep s ob ad h adm yO) (hKX : va_K (dC, dI) vwCl (tyX cA) s) (hKM : va_K (dC, dI) vwCl (tyM cAm) s) (hKO : va_K (dC, dI) vwCl [(kO, .long)] s) (hst : iSt s A tA tkK tkV tkL tkB tkT sN tD) (H : Heap) (locs : List Loc) (td : Nat → Int32) (hI : inV s dC dI ob ad cA h adm cAm yO kO tA tD td td H) (hS : va_S A s.heap H locs) (i : Int32) (J : Nat) (hi : i.toInt = (J : Int)) (hJ : J + 7 ≤ L) (nc ns : Nat) (hnc : nc + 9 ≤ 741096) (hns : ns + 371 ≤ 6872816) (ls : Array Slot) (hl : lv_has ls 7 [(0, .ref b), (1, .ref (ob 0)), (2, .ref h), (3, .ref yO), (4, .int i)]) (kk : ∀ (H : Heap) (locs : List Loc) (td : Nat → Int32) (ls : Array Slot), inV s dC dI ob ad cA h adm cAm yO kO tA tD td td H → va_S A s.heap H locs → lv_has ls 7 [(0, .ref b), (1, .ref (ob 0)), (2, .ref h), (3, .ref yO), (4, .int i)] → W p l e room_1 s m #[Value.ref b] below meth c H locs (nc + 9) (ns + 371) (lw_Z below #[Value.ref b] s) (F0 m 1014 ls [])) : W p l e room_1 s m #[Value.ref b] below meth c H locs nc ns (lw_Z below #[Value.ref b] s) (F0 m 254 ls []) := by
  obtain ⟨hx, hb, hr, hml, hown, hts0, hX, hbl, hlocks, hgv⟩ := id C0
  have hb : c.code = cL_law := hb
  have hown : s.vm.findClass RL = some m.cls := hown
  have hts : ∀ w ∈ (.initialized RL :: lw_good : List Cond), w.before #[Value.ref b] s = true := fun w h => (List.mem_cons.mp h).elim (fun q => by rw [q]; exact hts0 _ (lwgT kw_1_0)) (fun q => hts0 w (lwgT q))
  have hA : ∀ q : Nat, s.heap.size ≤ q → A q := fun q h => by rw [hAe]; exact h
  have hbA : ¬ A b := by rw [hAe]; exact Nat.not_le.mpr hbl
  refine lv_aload_n hx hb dL_law_254 rfl (lv_at hl 1 rfl) ?_
  refine lv_aload_n hx hb dL_law_255 rfl (lv_at hl 0 rfl) ?_
  refine lv_iload hx hb dL_law_256 (lv_at hl 4 rfl) ?_
  refine lv_iconst (v := 1) hx hb dL_law_258 (by decide) ?_
  refine lv_iadd hx hb dL_law_259 ?_
  refine lv_topi (fun v_1 ev_1 => ?_)
  refine va_sld hx hb hX hbl hbA hS (my_si (k := 1) hi hJ hL ev_1 (by decide) (by decide) (by decide)) dL_law_260 ?_
  refine lv_topi (fun v_2 ev_2 => ?_)
  obtain ⟨fv, wd, ar, gv, gw, gr, fO, gla, gfr, gra, grc, gln, gcn, glr, ce, ef, hXX, hMM, hOO, hGG, h00, hNN, hLL, hEE⟩ := hI
  have hFX : ∀ q, aX ob ad H.size q → A q := fun q w => hA q (w.elim (fun ⟨k, hk⟩ => hs.2.2.1 k q hk) (fun w => Nat.le_trans hS.1 w))
  refine va_calli (va_runV (As := [.int v_2]) (rest := []) ⟨hx, hb, hml, hown, hts⟩ (x_nextE l dC dI H.size ob ad cA hs.1 fv wd ar hXX.2.1 hXX.2.2.1 v_2) (cwV 1 hts (gV kw_3_131 kw_3_132 kw_3_133 kw_1_1 kw_3_134) rfl rfl rfl (by decide +kernel) ⟨Nat.le_of_ble_eq_true rfl, Nat.le_of_ble_eq_true rfl⟩) ⟨fun a U g mk q => ⟨q.1, q.2.1, q.2.2.1, va_K.moved (u := U) (U := U.calling g mk a) (Vm.Alike.refl U.vm) q.2.2.2⟩, va_recv hKX hXX.1 (ci := 11) (q0 := 0) rfl rfl, fun U hU hW => ⟨rfl, by rw [hU], by rw [hU]; exact hXX.1, va_K.moved hW.alike hKX⟩⟩ rfl rfl hl.1 rfl (lv_room (Nat.le_of_ble_eq_true rfl)) dL_law_261 (my_le (by omega) (by omega))) hS (fun q _ w => hFX q w) hFX (fun r_3 u t H1 locs ht hvm hw hB hz1 hk1 hS => ?_)
  obtain ⟨f_4, w_5, a_6⟩ := u
  obtain ⟨c_7, c_8, c_9, c_10, c_11, c_12, c_13⟩ := hw
  have hP1 : va_P (dC, dI) vwCl (wsX ob ad cA f_4 w_5 a_6) H1 := by have h9 := hB.1; rw [ht] at h9; exact h9
  have hnx1 : ps_next r_3 (f_4 7) (td 0) v_2 := by have h9 : ps_next r_3 (f_4 7) (fv 7) v_2 := c_12; rw [show fv 7 = td 0 from hXX.2.2.2.2.1] at h9; exact h9
  have hI : inV s dC dI ob ad cA h adm cAm yO kO tA tD (va_up td 0 (f_4 7)) td H1 := inv_x (ar := ar) (tX := td) hs hMM hOO hGG h00 hNN hLL hEE hP1 c_7 c_8 (my_tO hXX.2.2.2.1 (congrArg (fun z => z.1) c_11)) ⟨rfl, ((c_9 4 rfl).trans hXX.2.2.2.2.2.1), ((c_9 11 rfl).trans hXX.2.2.2.2.2.2.1), ((c_9 12 rfl).trans hXX.2.2.2.2.2.2.2.1), ((c_9 9 rfl).trans hXX.2.2.2.2.2.2.2.2.1), ((c_9 0 rfl).trans hXX.2.2.2.2.2.2.2.2.2)⟩ (c_9 30 rfl) (congrArg (fun z => z.2.2) c_11) hz1 hk1
  generalize H1 = H at hI hS ⊢
  refine lv_pop hx hb dL_law_264 rfl ?_
  refine lv_aload_n hx hb dL_law_265 rfl (lv_at hl 2 rfl) ?_
  refine lv_aload_n hx hb dL_law_266 rfl (lv_at hl 0 rfl) ?_
  refine lv_iload hx hb dL_law_267 (lv_at hl 4 rfl) ?_
  refine lv_iconst (v := 1) hx hb dL_law_269 (by decide) ?_
  refine lv_iadd hx hb dL_law_270 ?_
  refine lv_topi (fun v_14 ev_14 => ?_)
  refine va_sld hx hb hX hbl hbA hS (my_si (k := 1) hi hJ hL ev_14 (by decide) (by decide) (by decide)) dL_law_271 ?_
  refine lv_topi (fun v_15 ev_15 => ?_)
  obtain rfl : v_15 = v_2 := by rw [ev_15, ev_2, ev_14, ev_1]
  obtain ⟨fv, wd, ar, gv, gw, gr, fO, gla, gfr, gra, grc, gln, gcn, glr, ce, ef, hXX, hMM, hOO, hGG, h00, hNN, hLL, hEE⟩ := hI
  have hFM : ∀ q, aM h adm H.size q → A q := fun q w => hA q (w.elim (fun ⟨k, hk⟩ => hs.2.2.2.1 k q hk) (fun w => Nat.le_trans hS.1 w))
  refine va_calli (va_runV (As := [.int v_15]) (rest := []) ⟨hx, hb, hml, hown, hts⟩ (m_nextE l dC dI H.size h adm cAm hs.2.1 gv gw gr hMM.2.1 hMM.2.2.1 v_15) (cwV 1 hts (gV kw_7_214 kw_7_215 kw_7_216 kw_1_15 kw_7_217) rfl rfl rfl (by decide +kernel) ⟨Nat.le_of_ble_eq_true rfl, Nat.le_of_ble_eq_true rfl⟩) ⟨fun a U g mk q => ⟨q.1, q.2.1, q.2.2.1, va_K.moved (u := U) (U := U.calling g mk a) (Vm.Alike.refl U.vm) q.2.2.2⟩, va_recv hKM hMM.1 (ci := 12) (q0 := 0) rfl rfl, fun U hU hW => ⟨rfl, by rw [hU], by rw [hU]; exact hMM.1, va_K.moved hW.alike hKM⟩⟩ rfl rfl hl.1 rfl (lv_room (Nat.le_of_ble_eq_true rfl)) dL_law_272 (my_le (by omega) (by omega))) hS (fun q _ w => hFM q w) hFM (fun r_16 u t H1 locs ht hvm hw hB hz1 hk1 hS => ?_)
  obtain ⟨f_17, w_18, a_19⟩ := u
  obtain ⟨c_20, c_21, c_22, c_23, c_24, c_25⟩ := hw
  have hP1 : va_P (dC, dI) vwCl (wsM h adm cAm f_17 w_18 a_19) H1 := by have h9 := hB.1; rw [ht] at h9; exact h9
  have hnx2 : ps_next r_16 (f_17 3) (td 0) v_15 := by have h9 : ps_next r_16 (f_17 3) (gv 3) v_15 := c_24; rw [show gv 3 = td 0 from hMM.2.2.2.2.2.1] at h9; exact h9
  have hnx : r_3 = r_16 ∧ f_4 7 = f_17 3 := ps_next_det hnx1 hnx2
  have hI : inV s dC dI ob ad cA h adm cAm yO kO tA tD (va_up td 0 (f_4 7)) (va_up td 0 (f_17 3)) H1 := inv_m (gv := gv) (gw := gw) (gr := gr) (tM := td) hs hXX hOO hGG h00 hNN hLL hEE hP1 c_20 c_21 (vM_fr hMM.2.2.2.1 c_22 c_23 rfl rfl rfl rfl rfl) (sW_fr hMM.2.2.2.2.1 c_23 rfl rfl) ⟨rfl, ((c_22 33 rfl).trans hMM.2.2.2.2.2.2.1), ((c_22 34 rfl).trans hMM.2.2.2.2.2.2.2.1), ((c_22 35 rfl).trans hMM.2.2.2.2.2.2.2.2.1), ((c_22 6 rfl).trans hMM.2.2.2.2.2.2.2.2.2.1), ((c_22 2 rfl).trans hMM.2.2.2.2.2.2.2.2.2.2)⟩ hz1 hk1
  generalize H1 = H at hI hS ⊢
  refine lv_pop hx hb dL_law_275 rfl ?_
  refine lv_goto (tgt := 1014) hx hb dL_law_276 (by decide) ?_
  refine W.widen (k := nc + 9) (n := ns + 371) (by omega) (by omega) ?_
  rw [← hnx.2] at hI
  exact kk _ _ _ _ hI hS (lv_sub hl [0, 1, 2, 3, 4] rfl)
set_option maxHeartbeats 4000000 in
set_option maxRecDepth 100000 in
theorem law_3 {p : Program} {e : Env} {s : State} {m : MethodId} {below : List Frame} {meth : Method} {c : Code} (l : Launch) {b L : Nat} {xs : Nat → Int32} (hL : L ≤ 3584) (hl0 : l.stackTraces = false) (C0 : lw_At p s m meth c b L xs) {A : Nat → Prop} (hAe : A = fun q => s.heap.size ≤ q) {dC : Nat → ClassId} {dI : Nat → Nat → Nat} {ob ad : Nat → Nat} {cA : Nat → ClassId} {h : Nat} {adm : Nat → Nat} {cAm : Nat → ClassId} {yO : Nat} {kO : ClassId} {tA : Nat → Nat} {tD : Nat} {tkK tkV tkL : Nat → Nat} {tkB : Nat → Nat → Int32} {tkT sN : Nat} (hs : iSep s ob ad h adm yO) (hKX : va_K (dC, dI) vwCl (tyX cA) s) (hKM : va_K (dC, dI) vwCl (tyM cAm) s) (hKO : va_K (dC, dI) vwCl [(kO, .long)] s) (hst : iSt s A tA tkK tkV tkL tkB tkT sN tD) (H : Heap) (locs : List Loc) (td : Nat → Int32) (hI : inV s dC dI ob ad cA h adm cAm yO kO tA tD td td H) (hS : va_S A s.heap H locs) (i : Int32) (J : Nat) (hi : i.toInt = (J : Int)) (hJ : J + 7 ≤ L) (nc ns : Nat) (hnc : nc + 9 ≤ 741096) (hns : ns + 371 ≤ 6872816) (ls : Array Slot) (hl : lv_has ls 7 [(0, .ref b), (1, .ref (ob 0)), (2, .ref h), (3, .ref yO), (4, .int i)]) (kk : ∀ (H : Heap) (locs : List Loc) (td : Nat → Int32) (ls : Array Slot), inV s dC dI ob ad cA h adm cAm yO kO tA tD td td H → va_S A s.heap H locs → lv_has ls 7 [(0, .ref b), (1, .ref (ob 0)), (2, .ref h), (3, .ref yO), (4, .int i)] → W p l e room_1 s m #[Value.ref b] below meth c H locs (nc + 9) (ns + 371) (lw_Z below #[Value.ref b] s) (F0 m 1014 ls [])) : W p l e room_1 s m #[Value.ref b] below meth c H locs nc ns (lw_Z below #[Value.ref b] s) (F0 m 279 ls []) := by
  obtain ⟨hx, hb, hr, hml, hown, hts0, hX, hbl, hlocks, hgv⟩ := id C0
  have hb : c.code = cL_law := hb
  have hown : s.vm.findClass RL = some m.cls := hown
  have hts : ∀ w ∈ (.initialized RL :: lw_good : List Cond), w.before #[Value.ref b] s = true := fun w h => (List.mem_cons.mp h).elim (fun q => by rw [q]; exact hts0 _ (lwgT kw_1_0)) (fun q => hts0 w (lwgT q))
  have hA : ∀ q : Nat, s.heap.size ≤ q → A q := fun q h => by rw [hAe]; exact h
  have hbA : ¬ A b := by rw [hAe]; exact Nat.not_le.mpr hbl
  refine lv_aload_n hx hb dL_law_279 rfl (lv_at hl 1 rfl) ?_
  refine lv_aload_n hx hb dL_law_280 rfl (lv_at hl 0 rfl) ?_
  refine lv_iload hx hb dL_law_281 (lv_at hl 4 rfl) ?_
  refine lv_iconst (v := 1) hx hb dL_law_283 (by decide) ?_
  refine lv_iadd hx hb dL_law_284 ?_
  refine lv_topi (fun v_1 ev_1 => ?_)
  refine va_sld hx hb hX hbl hbA hS (my_si (k := 1) hi hJ hL ev_1 (by decide) (by decide) (by decide)) dL_law_285 ?_
  refine lv_topi (fun v_2 ev_2 => ?_)
  refine lv_aload_n hx hb dL_law_286 rfl (lv_at hl 0 rfl) ?_
  refine lv_iload hx hb dL_law_287 (lv_at hl 4 rfl) ?_
  refine lv_iconst (v := 2) hx hb dL_law_289 (by decide) ?_
  refine lv_iadd hx hb dL_law_290 ?_
  refine lv_topi (fun v_3 ev_3 => ?_)
  refine va_sld hx hb hX hbl hbA hS (my_si (k := 2) hi hJ hL ev_3 (by decide) (by decide) (by decide)) dL_law_291 ?_
  refine lv_topi (fun v_4 ev_4 => ?_)
  refine lv_aload_n hx hb dL_law_292 rfl (lv_at hl 0 rfl) ?_
  refine lv_iload hx hb dL_law_293 (lv_at hl 4 rfl) ?_
  refine lv_iconst (v := 3) hx hb dL_law_295 (by decide) ?_
  refine lv_iadd hx hb dL_law_296 ?_
  refine lv_topi (fun v_5 ev_5 => ?_)
  refine va_sld hx hb hX hbl hbA hS (my_si (k := 3) hi hJ hL ev_5 (by decide) (by decide) (by decide)) dL_law_297 ?_
  refine lv_topi (fun v_6 ev_6 => ?_)
  obtain ⟨fv, wd, ar, gv, gw, gr, fO, gla, gfr, gra, grc, gln, gcn, glr, ce, ef, hXX, hMM, hOO, hGG, h00, hNN, hLL, hEE⟩ := hI
  have hFX : ∀ q, aX ob ad H.size q → A q := fun q w => hA q (w.elim (fun ⟨k, hk⟩ => hs.2.2.1 k q hk) (fun w => Nat.le_trans hS.1 w))
  refine va_calli (va_runV (As := [.int v_2, .int v_4, .int v_6]) (rest := []) ⟨hx, hb, hml, hown, hts⟩ (x_streetE l dC dI H.size ob ad cA hs.1 fv wd ar hXX.2.1 hXX.2.2.1 v_2 v_4 v_6) (cwV 3 hts (gV kw_3_135 kw_3_136 kw_3_137 kw_1_1 kw_3_138) rfl rfl rfl (by decide +kernel) ⟨Nat.le_of_ble_eq_true rfl, Nat.le_of_ble_eq_true rfl⟩) ⟨fun a U g mk q => ⟨q.1, q.2.1, q.2.2.1, va_K.moved (u := U) (U := U.calling g mk a) (Vm.Alike.refl U.vm) q.2.2.2⟩, va_recv hKX hXX.1 (ci := 11) (q0 := 0) rfl rfl, fun U hU hW => ⟨rfl, by rw [hU], by rw [hU]; exact hXX.1, va_K.moved hW.alike hKX⟩⟩ rfl rfl hl.1 rfl (lv_room (Nat.le_of_ble_eq_true rfl)) dL_law_298 (my_le (by omega) (by omega))) hS (fun q _ w => hFX q w) hFX (fun r_7 u t H1 locs ht hvm hw hB hz1 hk1 hS => ?_)
  obtain ⟨f_8, w_9, a_10⟩ := u
  obtain ⟨c_11, c_12, c_13, c_14, c_15, c_16, c_17, c_18⟩ := hw
  have hP1 : va_P (dC, dI) vwCl (wsX ob ad cA f_8 w_9 a_10) H1 := by have h9 := hB.1; rw [ht] at h9; exact h9
  have hnx1 : ps_street r_7 (f_8 9) (td 4) v_2 v_4 v_6 := by have h9 : ps_street r_7 (f_8 9) (fv 9) v_2 v_4 v_6 := c_17; rw [show fv 9 = td 4 from hXX.2.2.2.2.2.2.2.2.1] at h9; exact h9
  have hI : inV s dC dI ob ad cA h adm cAm yO kO tA tD (va_up td 4 (f_8 9)) td H1 := inv_x (ar := ar) (tX := td) hs hMM hOO hGG h00 hNN hLL hEE hP1 c_11 c_12 (my_tO hXX.2.2.2.1 (congrArg (fun z => z.1) c_15)) ⟨((c_13 7 rfl).trans hXX.2.2.2.2.1), ((c_13 4 rfl).trans hXX.2.2.2.2.2.1), ((c_13 11 rfl).trans hXX.2.2.2.2.2.2.1), ((c_13 12 rfl).trans hXX.2.2.2.2.2.2.2.1), rfl, ((c_13 0 rfl).trans hXX.2.2.2.2.2.2.2.2.2)⟩ (c_13 30 rfl) (congrArg (fun z => z.2.2) c_15) hz1 hk1
  generalize H1 = H at hI hS ⊢
  refine lv_pop hx hb dL_law_301 rfl ?_
  refine lv_aload_n hx hb dL_law_302 rfl (lv_at hl 2 rfl) ?_
  refine lv_aload_n hx hb dL_law_303 rfl (lv_at hl 0 rfl) ?_
  refine lv_iload hx hb dL_law_304 (lv_at hl 4 rfl) ?_
  refine lv_iconst (v := 1) hx hb dL_law_306 (by decide) ?_
  refine lv_iadd hx hb dL_law_307 ?_
  refine lv_topi (fun v_19 ev_19 => ?_)
  refine va_sld hx hb hX hbl hbA hS (my_si (k := 1) hi hJ hL ev_19 (by decide) (by decide) (by decide)) dL_law_308 ?_
  refine lv_topi (fun v_20 ev_20 => ?_)
  obtain rfl : v_20 = v_2 := by rw [ev_20, ev_2, ev_19, ev_1]
  refine lv_aload_n hx hb dL_law_309 rfl (lv_at hl 0 rfl) ?_
  refine lv_iload hx hb dL_law_310 (lv_at hl 4 rfl) ?_
  refine lv_iconst (v := 2) hx hb dL_law_312 (by decide) ?_
  refine lv_iadd hx hb dL_law_313 ?_
  refine lv_topi (fun v_21 ev_21 => ?_)
  refine va_sld hx hb hX hbl hbA hS (my_si (k := 2) hi hJ hL ev_21 (by decide) (by decide) (by decide)) dL_law_314 ?_
  refine lv_topi (fun v_22 ev_22 => ?_)
  obtain rfl : v_22 = v_4 := by rw [ev_22, ev_4, ev_21, ev_3]
  refine lv_aload_n hx hb dL_law_315 rfl (lv_at hl 0 rfl) ?_
  refine lv_iload hx hb dL_law_316 (lv_at hl 4 rfl) ?_
  refine lv_iconst (v := 3) hx hb dL_law_318 (by decide) ?_
  refine lv_iadd hx hb dL_law_319 ?_
  refine lv_topi (fun v_23 ev_23 => ?_)
  refine va_sld hx hb hX hbl hbA hS (my_si (k := 3) hi hJ hL ev_23 (by decide) (by decide) (by decide)) dL_law_320 ?_
  refine lv_topi (fun v_24 ev_24 => ?_)
  obtain rfl : v_24 = v_6 := by rw [ev_24, ev_6, ev_23, ev_5]
  obtain ⟨fv, wd, ar, gv, gw, gr, fO, gla, gfr, gra, grc, gln, gcn, glr, ce, ef, hXX, hMM, hOO, hGG, h00, hNN, hLL, hEE⟩ := hI
  have hFM : ∀ q, aM h adm H.size q → A q := fun q w => hA q (w.elim (fun ⟨k, hk⟩ => hs.2.2.2.1 k q hk) (fun w => Nat.le_trans hS.1 w))
  refine va_calli (va_runV (As := [.int v_20, .int v_22, .int v_24]) (rest := []) ⟨hx, hb, hml, hown, hts⟩ (m_streetE l dC dI H.size h adm cAm hs.2.1 gv gw gr hMM.2.1 hMM.2.2.1 v_20 v_22 v_24) (cwV 3 hts (gV kw_7_221 kw_7_222 kw_7_223 kw_1_15 kw_7_224) rfl rfl rfl (by decide +kernel) ⟨Nat.le_of_ble_eq_true rfl, Nat.le_of_ble_eq_true rfl⟩) ⟨fun a U g mk q => ⟨q.1, q.2.1, q.2.2.1, va_K.moved (u := U) (U := U.calling g mk a) (Vm.Alike.refl U.vm) q.2.2.2⟩, va_recv hKM hMM.1 (ci := 12) (q0 := 0) rfl rfl, fun U hU hW => ⟨rfl, by rw [hU], by rw [hU]; exact hMM.1, va_K.moved hW.alike hKM⟩⟩ rfl rfl hl.1 rfl (lv_room (Nat.le_of_ble_eq_true rfl)) dL_law_321 (my_le (by omega) (by omega))) hS (fun q _ w => hFM q w) hFM (fun r_25 u t H1 locs ht hvm hw hB hz1 hk1 hS => ?_)
  obtain ⟨f_26, w_27, a_28⟩ := u
  obtain ⟨c_29, c_30, c_31, c_32, c_33, c_34, c_35⟩ := hw
  have hP1 : va_P (dC, dI) vwCl (wsM h adm cAm f_26 w_27 a_28) H1 := by have h9 := hB.1; rw [ht] at h9; exact h9
  have hnx2 : ps_street r_25 (f_26 6) (td 4) v_20 v_22 v_24 := by have h9 : ps_street r_25 (f_26 6) (gv 6) v_20 v_22 v_24 := c_34; rw [show gv 6 = td 4 from hMM.2.2.2.2.2.2.2.2.2.1] at h9; exact h9
  have hnx : r_7 = r_25 ∧ f_8 9 = f_26 6 := ps_street_det hnx1 hnx2
  have hI : inV s dC dI ob ad cA h adm cAm yO kO tA tD (va_up td 4 (f_8 9)) (va_up td 4 (f_26 6)) H1 := inv_m (gv := gv) (gw := gw) (gr := gr) (tM := td) hs hXX hOO hGG h00 hNN hLL hEE hP1 c_29 c_30 (vM_fr hMM.2.2.2.1 c_31 c_32 rfl rfl rfl rfl rfl) (sW_fr hMM.2.2.2.2.1 c_32 rfl rfl) ⟨((c_31 3 rfl).trans hMM.2.2.2.2.2.1), ((c_31 33 rfl).trans hMM.2.2.2.2.2.2.1), ((c_31 34 rfl).trans hMM.2.2.2.2.2.2.2.1), ((c_31 35 rfl).trans hMM.2.2.2.2.2.2.2.2.1), rfl, ((c_31 2 rfl).trans hMM.2.2.2.2.2.2.2.2.2.2)⟩ hz1 hk1
  generalize H1 = H at hI hS ⊢
  refine lv_pop hx hb dL_law_324 rfl ?_
  refine lv_goto (tgt := 1014) hx hb dL_law_325 (by decide) ?_
  refine W.widen (k := nc + 9) (n := ns + 371) (by omega) (by omega) ?_
  rw [← hnx.2] at hI
  exact kk _ _ _ _ hI hS (lv_sub hl [0, 1, 2, 3, 4] rfl)
set_option maxHeartbeats 4000000 in
set_option maxRecDepth 100000 in
theorem law_4 {p : Program} {e : Env} {s : State} {m : MethodId} {below : List Frame} {meth : Method} {c : Code} (l : Launch) {b L : Nat} {xs : Nat → Int32} (hL : L ≤ 3584) (hl0 : l.stackTraces = false) (C0 : lw_At p s m meth c b L xs) {A : Nat → Prop} (hAe : A = fun q => s.heap.size ≤ q) {dC : Nat → ClassId} {dI : Nat → Nat → Nat} {ob ad : Nat → Nat} {cA : Nat → ClassId} {h : Nat} {adm : Nat → Nat} {cAm : Nat → ClassId} {yO : Nat} {kO : ClassId} {tA : Nat → Nat} {tD : Nat} {tkK tkV tkL : Nat → Nat} {tkB : Nat → Nat → Int32} {tkT sN : Nat} (hs : iSep s ob ad h adm yO) (hKX : va_K (dC, dI) vwCl (tyX cA) s) (hKM : va_K (dC, dI) vwCl (tyM cAm) s) (hKO : va_K (dC, dI) vwCl [(kO, .long)] s) (hst : iSt s A tA tkK tkV tkL tkB tkT sN tD) (H : Heap) (locs : List Loc) (td : Nat → Int32) (hI : inV s dC dI ob ad cA h adm cAm yO kO tA tD td td H) (hS : va_S A s.heap H locs) (i : Int32) (J : Nat) (hi : i.toInt = (J : Int)) (hJ : J + 7 ≤ L) (nc ns : Nat) (hnc : nc + 9 ≤ 741096) (hns : ns + 371 ≤ 6872816) (ls : Array Slot) (hl : lv_has ls 7 [(0, .ref b), (1, .ref (ob 0)), (2, .ref h), (3, .ref yO), (4, .int i)]) (kk : ∀ (H : Heap) (locs : List Loc) (td : Nat → Int32) (ls : Array Slot), inV s dC dI ob ad cA h adm cAm yO kO tA tD td td H → va_S A s.heap H locs → lv_has ls 7 [(0, .ref b), (1, .ref (ob 0)), (2, .ref h), (3, .ref yO), (4, .int i)] → W p l e room_1 s m #[Value.ref b] below meth c H locs (nc + 9) (ns + 371) (lw_Z below #[Value.ref b] s) (F0 m 1014 ls [])) : W p l e room_1 s m #[Value.ref b] below meth c H locs nc ns (lw_Z below #[Value.ref b] s) (F0 m 328 ls []) := by
  obtain ⟨hx, hb, hr, hml, hown, hts0, hX, hbl, hlocks, hgv⟩ := id C0
  have hb : c.code = cL_law := hb
  have hown : s.vm.findClass RL = some m.cls := hown
  have hts : ∀ w ∈ (.initialized RL :: lw_good : List Cond), w.before #[Value.ref b] s = true := fun w h => (List.mem_cons.mp h).elim (fun q => by rw [q]; exact hts0 _ (lwgT kw_1_0)) (fun q => hts0 w (lwgT q))
  have hA : ∀ q : Nat, s.heap.size ≤ q → A q := fun q h => by rw [hAe]; exact h
  have hbA : ¬ A b := by rw [hAe]; exact Nat.not_le.mpr hbl
  refine lv_aload_n hx hb dL_law_328 rfl (lv_at hl 1 rfl) ?_
  refine lv_aload_n hx hb dL_law_329 rfl (lv_at hl 0 rfl) ?_
  refine lv_iload hx hb dL_law_330 (lv_at hl 4 rfl) ?_
  refine lv_iconst (v := 1) hx hb dL_law_332 (by decide) ?_
  refine lv_iadd hx hb dL_law_333 ?_
  refine lv_topi (fun v_1 ev_1 => ?_)
  refine va_sld hx hb hX hbl hbA hS (my_si (k := 1) hi hJ hL ev_1 (by decide) (by decide) (by decide)) dL_law_334 ?_
  refine lv_topi (fun v_2 ev_2 => ?_)
  refine lv_aload_n hx hb dL_law_335 rfl (lv_at hl 0 rfl) ?_
  refine lv_iload hx hb dL_law_336 (lv_at hl 4 rfl) ?_
  refine lv_iconst (v := 2) hx hb dL_law_338 (by decide) ?_
  refine lv_iadd hx hb dL_law_339 ?_
  refine lv_topi (fun v_3 ev_3 => ?_)
  refine va_sld hx hb hX hbl hbA hS (my_si (k := 2) hi hJ hL ev_3 (by decide) (by decide) (by decide)) dL_law_340 ?_
  refine lv_topi (fun v_4 ev_4 => ?_)
  obtain ⟨fv, wd, ar, gv, gw, gr, fO, gla, gfr, gra, grc, gln, gcn, glr, ce, ef, hXX, hMM, hOO, hGG, h00, hNN, hLL, hEE⟩ := hI
  have hFX : ∀ q, aX ob ad H.size q → A q := fun q w => hA q (w.elim (fun ⟨k, hk⟩ => hs.2.2.1 k q hk) (fun w => Nat.le_trans hS.1 w))
  refine va_calli (va_runV (As := [.int v_2, .int v_4]) (rest := []) ⟨hx, hb, hml, hown, hts⟩ (x_far l dC dI H.size ob ad cA hs.1 fv wd ar hXX.2.1 hXX.2.2.1 v_2 v_4) (cwV 2 hts (gV kw_3_153 kw_3_154 kw_3_155 kw_1_1 kw_3_156) rfl rfl rfl (by decide +kernel) ⟨Nat.le_of_ble_eq_true rfl, Nat.le_of_ble_eq_true rfl⟩) ⟨fun a U g mk q => ⟨q.1, q.2.1, q.2.2.1, va_K.moved (u := U) (U := U.calling g mk a) (Vm.Alike.refl U.vm) q.2.2.2⟩, va_recv hKX hXX.1 (ci := 11) (q0 := 0) rfl rfl, fun U hU hW => ⟨rfl, by rw [hU], by rw [hU]; exact hXX.1, va_K.moved hW.alike hKX⟩⟩ rfl rfl hl.1 rfl (lv_room (Nat.le_of_ble_eq_true rfl)) dL_law_341 (my_le (by omega) (by omega))) hS (fun q _ w => hFX q w) hFX (fun r_5 u t H1 locs ht hvm hw hB hz1 hk1 hS => ?_)
  obtain ⟨f_6, w_7, a_8⟩ := u
  obtain ⟨c_9, c_10, c_11, c_12, c_13, c_14⟩ := hw
  have hP1 : va_P (dC, dI) vwCl (wsX ob ad cA f_6 w_7 a_8) H1 := by have h9 := hB.1; rw [ht] at h9; exact h9
  have hI : inV s dC dI ob ad cA h adm cAm yO kO tA tD td td H1 := inv_x (ar := ar) (tX := td) hs hMM hOO hGG h00 hNN hLL hEE hP1 c_9 c_10 (my_tO hXX.2.2.2.1 (congrArg (fun z => z.1) c_13)) ⟨((c_11 7 rfl).trans hXX.2.2.2.2.1), ((c_11 4 rfl).trans hXX.2.2.2.2.2.1), ((c_11 11 rfl).trans hXX.2.2.2.2.2.2.1), ((c_11 12 rfl).trans hXX.2.2.2.2.2.2.2.1), ((c_11 9 rfl).trans hXX.2.2.2.2.2.2.2.2.1), ((c_11 0 rfl).trans hXX.2.2.2.2.2.2.2.2.2)⟩ (c_11 30 rfl) (congrArg (fun z => z.2.2) c_13) hz1 hk1
  generalize H1 = H at hI hS ⊢
  refine lv_pop hx hb dL_law_344 rfl ?_
  refine lv_aload_n hx hb dL_law_345 rfl (lv_at hl 2 rfl) ?_
  refine lv_aload_n hx hb dL_law_346 rfl (lv_at hl 0 rfl) ?_
  refine lv_iload hx hb dL_law_347 (lv_at hl 4 rfl) ?_
  refine lv_iconst (v := 1) hx hb dL_law_349 (by decide) ?_
  refine lv_iadd hx hb dL_law_350 ?_
  refine lv_topi (fun v_15 ev_15 => ?_)
  refine va_sld hx hb hX hbl hbA hS (my_si (k := 1) hi hJ hL ev_15 (by decide) (by decide) (by decide)) dL_law_351 ?_
  refine lv_topi (fun v_16 ev_16 => ?_)
  refine lv_aload_n hx hb dL_law_352 rfl (lv_at hl 0 rfl) ?_
  refine lv_iload hx hb dL_law_353 (lv_at hl 4 rfl) ?_
  refine lv_iconst (v := 2) hx hb dL_law_355 (by decide) ?_
  refine lv_iadd hx hb dL_law_356 ?_
  refine lv_topi (fun v_17 ev_17 => ?_)
  refine va_sld hx hb hX hbl hbA hS (my_si (k := 2) hi hJ hL ev_17 (by decide) (by decide) (by decide)) dL_law_357 ?_
  refine lv_topi (fun v_18 ev_18 => ?_)
  obtain ⟨fv, wd, ar, gv, gw, gr, fO, gla, gfr, gra, grc, gln, gcn, glr, ce, ef, hXX, hMM, hOO, hGG, h00, hNN, hLL, hEE⟩ := hI
  have hFM : ∀ q, aM h adm H.size q → A q := fun q w => hA q (w.elim (fun ⟨k, hk⟩ => hs.2.2.2.1 k q hk) (fun w => Nat.le_trans hS.1 w))
  refine va_calli (va_runV (As := [.int v_16, .int v_18]) (rest := []) ⟨hx, hb, hml, hown, hts⟩ (m_far l dC dI H.size h adm cAm hs.2.1 gv gw gr hMM.2.1 hMM.2.2.1 v_16 v_18) (cwV 2 hts (gV kw_7_233 kw_7_234 kw_7_235 kw_1_15 kw_7_236) rfl rfl rfl (by decide +kernel) ⟨Nat.le_of_ble_eq_true rfl, Nat.le_of_ble_eq_true rfl⟩) ⟨fun a U g mk q => ⟨q.1, q.2.1, q.2.2.1, va_K.moved (u := U) (U := U.calling g mk a) (Vm.Alike.refl U.vm) q.2.2.2⟩, va_recv hKM hMM.1 (ci := 12) (q0 := 0) rfl rfl, fun U hU hW => ⟨rfl, by rw [hU], by rw [hU]; exact hMM.1, va_K.moved hW.alike hKM⟩⟩ rfl rfl hl.1 rfl (lv_room (Nat.le_of_ble_eq_true rfl)) dL_law_358 (my_le (by omega) (by omega))) hS (fun q _ w => hFM q w) hFM (fun r_19 u t H1 locs ht hvm hw hB hz1 hk1 hS => ?_)
  obtain ⟨f_20, w_21, a_22⟩ := u
  obtain ⟨c_23, c_24, c_25, c_26, c_27⟩ := hw
  have hP1 : va_P (dC, dI) vwCl (wsM h adm cAm f_20 w_21 a_22) H1 := by have h9 := hB.1; rw [ht] at h9; exact h9
  have hI : inV s dC dI ob ad cA h adm cAm yO kO tA tD td td H1 := inv_m (gv := gv) (gw := gw) (gr := gr) (tM := td) hs hXX hOO hGG h00 hNN hLL hEE hP1 c_23 c_24 (vM_fr hMM.2.2.2.1 c_25 c_26 rfl rfl rfl rfl rfl) (sW_fr hMM.2.2.2.2.1 c_26 rfl rfl) ⟨((c_25 3 rfl).trans hMM.2.2.2.2.2.1), ((c_25 33 rfl).trans hMM.2.2.2.2.2.2.1), ((c_25 34 rfl).trans hMM.2.2.2.2.2.2.2.1), ((c_25 35 rfl).trans hMM.2.2.2.2.2.2.2.2.1), ((c_25 6 rfl).trans hMM.2.2.2.2.2.2.2.2.2.1), ((c_25 2 rfl).trans hMM.2.2.2.2.2.2.2.2.2.2)⟩ hz1 hk1
  generalize H1 = H at hI hS ⊢
  refine lv_pop hx hb dL_law_361 rfl ?_
  refine lv_goto (tgt := 1014) hx hb dL_law_362 (by decide) ?_
  refine W.widen (k := nc + 9) (n := ns + 371) (by omega) (by omega) ?_
  exact kk _ _ _ _ hI hS (lv_sub hl [0, 1, 2, 3, 4] rfl)
set_option maxHeartbeats 4000000 in
set_option maxRecDepth 100000 in
theorem law_5 {p : Program} {e : Env} {s : State} {m : MethodId} {below : List Frame} {meth : Method} {c : Code} (l : Launch) {b L : Nat} {xs : Nat → Int32} (hL : L ≤ 3584) (hl0 : l.stackTraces = false) (C0 : lw_At p s m meth c b L xs) {A : Nat → Prop} (hAe : A = fun q => s.heap.size ≤ q) {dC : Nat → ClassId} {dI : Nat → Nat → Nat} {ob ad : Nat → Nat} {cA : Nat → ClassId} {h : Nat} {adm : Nat → Nat} {cAm : Nat → ClassId} {yO : Nat} {kO : ClassId} {tA : Nat → Nat} {tD : Nat} {tkK tkV tkL : Nat → Nat} {tkB : Nat → Nat → Int32} {tkT sN : Nat} (hs : iSep s ob ad h adm yO) (hKX : va_K (dC, dI) vwCl (tyX cA) s) (hKM : va_K (dC, dI) vwCl (tyM cAm) s) (hKO : va_K (dC, dI) vwCl [(kO, .long)] s) (hst : iSt s A tA tkK tkV tkL tkB tkT sN tD) (H : Heap) (locs : List Loc) (td : Nat → Int32) (hI : inV s dC dI ob ad cA h adm cAm yO kO tA tD td td H) (hS : va_S A s.heap H locs) (i : Int32) (J : Nat) (hi : i.toInt = (J : Int)) (hJ : J + 7 ≤ L) (nc ns : Nat) (hnc : nc + 9 ≤ 741096) (hns : ns + 371 ≤ 6872816) (ls : Array Slot) (hl : lv_has ls 7 [(0, .ref b), (1, .ref (ob 0)), (2, .ref h), (3, .ref yO), (4, .int i)]) (kk : ∀ (H : Heap) (locs : List Loc) (td : Nat → Int32) (ls : Array Slot), inV s dC dI ob ad cA h adm cAm yO kO tA tD td td H → va_S A s.heap H locs → lv_has ls 7 [(0, .ref b), (1, .ref (ob 0)), (2, .ref h), (3, .ref yO), (4, .int i)] → W p l e room_1 s m #[Value.ref b] below meth c H locs (nc + 9) (ns + 371) (lw_Z below #[Value.ref b] s) (F0 m 1014 ls [])) : W p l e room_1 s m #[Value.ref b] below meth c H locs nc ns (lw_Z below #[Value.ref b] s) (F0 m 365 ls []) := by
  obtain ⟨hx, hb, hr, hml, hown, hts0, hX, hbl, hlocks, hgv⟩ := id C0
  have hb : c.code = cL_law := hb
  have hown : s.vm.findClass RL = some m.cls := hown
  have hts : ∀ w ∈ (.initialized RL :: lw_good : List Cond), w.before #[Value.ref b] s = true := fun w h => (List.mem_cons.mp h).elim (fun q => by rw [q]; exact hts0 _ (lwgT kw_1_0)) (fun q => hts0 w (lwgT q))
  have hA : ∀ q : Nat, s.heap.size ≤ q → A q := fun q h => by rw [hAe]; exact h
  have hbA : ¬ A b := by rw [hAe]; exact Nat.not_le.mpr hbl
  refine lv_aload_n hx hb dL_law_365 rfl (lv_at hl 1 rfl) ?_
  refine lv_aload_n hx hb dL_law_366 rfl (lv_at hl 0 rfl) ?_
  refine lv_iload hx hb dL_law_367 (lv_at hl 4 rfl) ?_
  refine lv_iconst (v := 1) hx hb dL_law_369 (by decide) ?_
  refine lv_iadd hx hb dL_law_370 ?_
  refine lv_topi (fun v_1 ev_1 => ?_)
  refine va_sld hx hb hX hbl hbA hS (my_si (k := 1) hi hJ hL ev_1 (by decide) (by decide) (by decide)) dL_law_371 ?_
  refine lv_topi (fun v_2 ev_2 => ?_)
  refine lv_aload_n hx hb dL_law_372 rfl (lv_at hl 0 rfl) ?_
  refine lv_iload hx hb dL_law_373 (lv_at hl 4 rfl) ?_
  refine lv_iconst (v := 2) hx hb dL_law_375 (by decide) ?_
  refine lv_iadd hx hb dL_law_376 ?_
  refine lv_topi (fun v_3 ev_3 => ?_)
  refine va_sld hx hb hX hbl hbA hS (my_si (k := 2) hi hJ hL ev_3 (by decide) (by decide) (by decide)) dL_law_377 ?_
  refine lv_topi (fun v_4 ev_4 => ?_)
  refine lv_aload_n hx hb dL_law_378 rfl (lv_at hl 0 rfl) ?_
  refine lv_iload hx hb dL_law_379 (lv_at hl 4 rfl) ?_
  refine lv_iconst (v := 3) hx hb dL_law_381 (by decide) ?_
  refine lv_iadd hx hb dL_law_382 ?_
  refine lv_topi (fun v_5 ev_5 => ?_)
  refine va_sld hx hb hX hbl hbA hS (my_si (k := 3) hi hJ hL ev_5 (by decide) (by decide) (by decide)) dL_law_383 ?_
  refine lv_topi (fun v_6 ev_6 => ?_)
  obtain ⟨fv, wd, ar, gv, gw, gr, fO, gla, gfr, gra, grc, gln, gcn, glr, ce, ef, hXX, hMM, hOO, hGG, h00, hNN, hLL, hEE⟩ := hI
  have hFX : ∀ q, aX ob ad H.size q → A q := fun q w => hA q (w.elim (fun ⟨k, hk⟩ => hs.2.2.1 k q hk) (fun w => Nat.le_trans hS.1 w))
  refine va_calli (va_runV (As := [.int v_2, .int v_4, .int v_6]) (rest := []) ⟨hx, hb, hml, hown, hts⟩ (x_personE l dC dI H.size ob ad cA hs.1 fv wd ar hXX.2.1 hXX.2.2.1 v_2 v_4 v_6) (cwV 3 hts (gV kw_3_160 kw_3_161 kw_3_162 kw_1_1 kw_3_163) rfl rfl rfl (by decide +kernel) ⟨Nat.le_of_ble_eq_true rfl, Nat.le_of_ble_eq_true rfl⟩) ⟨fun a U g mk q => ⟨q.1, q.2.1, q.2.2.1, va_K.moved (u := U) (U := U.calling g mk a) (Vm.Alike.refl U.vm) q.2.2.2⟩, va_recv hKX hXX.1 (ci := 11) (q0 := 0) rfl rfl, fun U hU hW => ⟨rfl, by rw [hU], by rw [hU]; exact hXX.1, va_K.moved hW.alike hKX⟩⟩ rfl rfl hl.1 rfl (lv_room (Nat.le_of_ble_eq_true rfl)) dL_law_384 (my_le (by omega) (by omega))) hS (fun q _ w => hFX q w) hFX (fun r_7 u t H1 locs ht hvm hw hB hz1 hk1 hS => ?_)
  obtain ⟨f_8, w_9, a_10⟩ := u
  obtain ⟨c_11, c_12, c_13, c_14, c_15, c_16, c_17⟩ := hw
  have hP1 : va_P (dC, dI) vwCl (wsX ob ad cA f_8 w_9 a_10) H1 := by have h9 := hB.1; rw [ht] at h9; exact h9
  have hnx1 : (f_8 0).toInt = 0 := c_16
  have hI : inV s dC dI ob ad cA h adm cAm yO kO tA tD (va_up td 5 (f_8 0)) td H1 := inv_x (ar := ar) (tX := td) hs hMM hOO hGG h00 hNN hLL hEE hP1 c_11 c_12 (my_tO hXX.2.2.2.1 (congrArg (fun z => z.1) c_15)) ⟨((c_13 7 rfl).trans hXX.2.2.2.2.1), ((c_13 4 rfl).trans hXX.2.2.2.2.2.1), ((c_13 11 rfl).trans hXX.2.2.2.2.2.2.1), ((c_13 12 rfl).trans hXX.2.2.2.2.2.2.2.1), ((c_13 9 rfl).trans hXX.2.2.2.2.2.2.2.2.1), rfl⟩ (c_13 30 rfl) (congrArg (fun z => z.2.2) c_15) hz1 hk1
  generalize H1 = H at hI hS ⊢
  refine lv_pop hx hb dL_law_387 rfl ?_
  refine lv_aload_n hx hb dL_law_388 rfl (lv_at hl 2 rfl) ?_
  refine lv_aload_n hx hb dL_law_389 rfl (lv_at hl 0 rfl) ?_
  refine lv_iload hx hb dL_law_390 (lv_at hl 4 rfl) ?_
  refine lv_iconst (v := 1) hx hb dL_law_392 (by decide) ?_
  refine lv_iadd hx hb dL_law_393 ?_
  refine lv_topi (fun v_18 ev_18 => ?_)
  refine va_sld hx hb hX hbl hbA hS (my_si (k := 1) hi hJ hL ev_18 (by decide) (by decide) (by decide)) dL_law_394 ?_
  refine lv_topi (fun v_19 ev_19 => ?_)
  obtain rfl : v_19 = v_2 := by rw [ev_19, ev_2, ev_18, ev_1]
  refine lv_aload_n hx hb dL_law_395 rfl (lv_at hl 0 rfl) ?_
  refine lv_iload hx hb dL_law_396 (lv_at hl 4 rfl) ?_
  refine lv_iconst (v := 2) hx hb dL_law_398 (by decide) ?_
  refine lv_iadd hx hb dL_law_399 ?_
  refine lv_topi (fun v_20 ev_20 => ?_)
  refine va_sld hx hb hX hbl hbA hS (my_si (k := 2) hi hJ hL ev_20 (by decide) (by decide) (by decide)) dL_law_400 ?_
  refine lv_topi (fun v_21 ev_21 => ?_)
  obtain rfl : v_21 = v_4 := by rw [ev_21, ev_4, ev_20, ev_3]
  refine lv_aload_n hx hb dL_law_401 rfl (lv_at hl 0 rfl) ?_
  refine lv_iload hx hb dL_law_402 (lv_at hl 4 rfl) ?_
  refine lv_iconst (v := 3) hx hb dL_law_404 (by decide) ?_
  refine lv_iadd hx hb dL_law_405 ?_
  refine lv_topi (fun v_22 ev_22 => ?_)
  refine va_sld hx hb hX hbl hbA hS (my_si (k := 3) hi hJ hL ev_22 (by decide) (by decide) (by decide)) dL_law_406 ?_
  refine lv_topi (fun v_23 ev_23 => ?_)
  obtain rfl : v_23 = v_6 := by rw [ev_23, ev_6, ev_22, ev_5]
  obtain ⟨fv, wd, ar, gv, gw, gr, fO, gla, gfr, gra, grc, gln, gcn, glr, ce, ef, hXX, hMM, hOO, hGG, h00, hNN, hLL, hEE⟩ := hI
  have hFM : ∀ q, aM h adm H.size q → A q := fun q w => hA q (w.elim (fun ⟨k, hk⟩ => hs.2.2.2.1 k q hk) (fun w => Nat.le_trans hS.1 w))
  refine va_calli (va_runV (As := [.int v_19, .int v_21, .int v_23]) (rest := []) ⟨hx, hb, hml, hown, hts⟩ (m_personE l dC dI H.size h adm cAm hs.2.1 gv gw gr hMM.2.1 hMM.2.2.1 v_19 v_21 v_23) (cwV 3 hts (gV kw_8_20 kw_8_21 kw_8_22 kw_1_15 kw_8_23) rfl rfl rfl (by decide +kernel) ⟨Nat.le_of_ble_eq_true rfl, Nat.le_of_ble_eq_true rfl⟩) ⟨fun a U g mk q => ⟨q.1, q.2.1, q.2.2.1, va_K.moved (u := U) (U := U.calling g mk a) (Vm.Alike.refl U.vm) q.2.2.2⟩, va_recv hKM hMM.1 (ci := 12) (q0 := 0) rfl rfl, fun U hU hW => ⟨rfl, by rw [hU], by rw [hU]; exact hMM.1, va_K.moved hW.alike hKM⟩⟩ rfl rfl hl.1 rfl (lv_room (Nat.le_of_ble_eq_true rfl)) dL_law_407 (my_le (by omega) (by omega))) hS (fun q _ w => hFM q w) hFM (fun r_24 u t H1 locs ht hvm hw hB hz1 hk1 hS => ?_)
  obtain ⟨f_25, w_26, a_27⟩ := u
  obtain ⟨c_28, c_29, c_30, c_31, c_32, c_33⟩ := hw
  have hP1 : va_P (dC, dI) vwCl (wsM h adm cAm f_25 w_26 a_27) H1 := by have h9 := hB.1; rw [ht] at h9; exact h9
  have hnx : True ∧ f_8 0 = f_25 2 := ⟨trivial, Int32.toInt_inj.mp (hnx1.trans (show (f_25 2).toInt = 0 from c_32).symm)⟩
  have hI : inV s dC dI ob ad cA h adm cAm yO kO tA tD (va_up td 5 (f_8 0)) (va_up td 5 (f_25 2)) H1 := inv_m (gv := gv) (gw := gw) (gr := gr) (tM := td) hs hXX hOO hGG h00 hNN hLL hEE hP1 c_28 c_29 (vM_fr hMM.2.2.2.1 c_30 c_31 rfl rfl rfl rfl rfl) (sW_fr hMM.2.2.2.2.1 c_31 rfl rfl) ⟨((c_30 3 rfl).trans hMM.2.2.2.2.2.1), ((c_30 33 rfl).trans hMM.2.2.2.2.2.2.1), ((c_30 34 rfl).trans hMM.2.2.2.2.2.2.2.1), ((c_30 35 rfl).trans hMM.2.2.2.2.2.2.2.2.1), ((c_30 6 rfl).trans hMM.2.2.2.2.2.2.2.2.2.1), rfl⟩ hz1 hk1
  generalize H1 = H at hI hS ⊢
  refine lv_pop hx hb dL_law_410 rfl ?_
  refine lv_goto (tgt := 1014) hx hb dL_law_411 (by decide) ?_
  refine W.widen (k := nc + 9) (n := ns + 371) (by omega) (by omega) ?_
  rw [← hnx.2] at hI
  exact kk _ _ _ _ hI hS (lv_sub hl [0, 1, 2, 3, 4] rfl)
set_option maxHeartbeats 4000000 in
set_option maxRecDepth 100000 in
theorem law_6 {p : Program} {e : Env} {s : State} {m : MethodId} {below : List Frame} {meth : Method} {c : Code} (l : Launch) {b L : Nat} {xs : Nat → Int32} (hL : L ≤ 3584) (hl0 : l.stackTraces = false) (C0 : lw_At p s m meth c b L xs) {A : Nat → Prop} (hAe : A = fun q => s.heap.size ≤ q) {dC : Nat → ClassId} {dI : Nat → Nat → Nat} {ob ad : Nat → Nat} {cA : Nat → ClassId} {h : Nat} {adm : Nat → Nat} {cAm : Nat → ClassId} {yO : Nat} {kO : ClassId} {tA : Nat → Nat} {tD : Nat} {tkK tkV tkL : Nat → Nat} {tkB : Nat → Nat → Int32} {tkT sN : Nat} (hs : iSep s ob ad h adm yO) (hKX : va_K (dC, dI) vwCl (tyX cA) s) (hKM : va_K (dC, dI) vwCl (tyM cAm) s) (hKO : va_K (dC, dI) vwCl [(kO, .long)] s) (hst : iSt s A tA tkK tkV tkL tkB tkT sN tD) (H : Heap) (locs : List Loc) (td : Nat → Int32) (hI : inV s dC dI ob ad cA h adm cAm yO kO tA tD td td H) (hS : va_S A s.heap H locs) (i : Int32) (J : Nat) (hi : i.toInt = (J : Int)) (hJ : J + 7 ≤ L) (nc ns : Nat) (hnc : nc + 9 ≤ 741096) (hns : ns + 371 ≤ 6872816) (ls : Array Slot) (hl : lv_has ls 7 [(0, .ref b), (1, .ref (ob 0)), (2, .ref h), (3, .ref yO), (4, .int i)]) (kk : ∀ (H : Heap) (locs : List Loc) (td : Nat → Int32) (ls : Array Slot), inV s dC dI ob ad cA h adm cAm yO kO tA tD td td H → va_S A s.heap H locs → lv_has ls 7 [(0, .ref b), (1, .ref (ob 0)), (2, .ref h), (3, .ref yO), (4, .int i)] → W p l e room_1 s m #[Value.ref b] below meth c H locs (nc + 9) (ns + 371) (lw_Z below #[Value.ref b] s) (F0 m 1014 ls [])) : W p l e room_1 s m #[Value.ref b] below meth c H locs nc ns (lw_Z below #[Value.ref b] s) (F0 m 414 ls []) := by
  obtain ⟨hx, hb, hr, hml, hown, hts0, hX, hbl, hlocks, hgv⟩ := id C0
  have hb : c.code = cL_law := hb
  have hown : s.vm.findClass RL = some m.cls := hown
  have hts : ∀ w ∈ (.initialized RL :: lw_good : List Cond), w.before #[Value.ref b] s = true := fun w h => (List.mem_cons.mp h).elim (fun q => by rw [q]; exact hts0 _ (lwgT kw_1_0)) (fun q => hts0 w (lwgT q))
  have hA : ∀ q : Nat, s.heap.size ≤ q → A q := fun q h => by rw [hAe]; exact h
  have hbA : ¬ A b := by rw [hAe]; exact Nat.not_le.mpr hbl
  refine lv_aload_n hx hb dL_law_414 rfl (lv_at hl 1 rfl) ?_
  refine lv_aload_n hx hb dL_law_415 rfl (lv_at hl 0 rfl) ?_
  refine lv_iload hx hb dL_law_416 (lv_at hl 4 rfl) ?_
  refine lv_iconst (v := 1) hx hb dL_law_418 (by decide) ?_
  refine lv_iadd hx hb dL_law_419 ?_
  refine lv_topi (fun v_1 ev_1 => ?_)
  refine va_sld hx hb hX hbl hbA hS (my_si (k := 1) hi hJ hL ev_1 (by decide) (by decide) (by decide)) dL_law_420 ?_
  refine lv_topi (fun v_2 ev_2 => ?_)
  obtain ⟨fv, wd, ar, gv, gw, gr, fO, gla, gfr, gra, grc, gln, gcn, glr, ce, ef, hXX, hMM, hOO, hGG, h00, hNN, hLL, hEE⟩ := hI
  have hFX : ∀ q, aX ob ad H.size q → A q := fun q w => hA q (w.elim (fun ⟨k, hk⟩ => hs.2.2.1 k q hk) (fun w => Nat.le_trans hS.1 w))
  refine va_calli (va_runV (As := [.int v_2]) (rest := []) ⟨hx, hb, hml, hown, hts⟩ (x_stopE l dC dI H.size ob ad cA hs.1 fv wd ar hXX.2.1 hXX.2.2.1 v_2) (cwV 1 hts (gV kw_3_175 kw_3_176 kw_3_177 kw_1_1 kw_3_178) rfl rfl rfl (by decide +kernel) ⟨Nat.le_of_ble_eq_true rfl, Nat.le_of_ble_eq_true rfl⟩) ⟨fun a U g mk q => ⟨q.1, q.2.1, q.2.2.1, va_K.moved (u := U) (U := U.calling g mk a) (Vm.Alike.refl U.vm) q.2.2.2⟩, va_recv hKX hXX.1 (ci := 11) (q0 := 0) rfl rfl, fun U hU hW => ⟨rfl, by rw [hU], by rw [hU]; exact hXX.1, va_K.moved hW.alike hKX⟩⟩ rfl rfl hl.1 rfl (lv_room (Nat.le_of_ble_eq_true rfl)) dL_law_421 (my_le (by omega) (by omega))) hS (fun q _ w => hFX q w) hFX (fun r_3 u t H1 locs ht hvm hw hB hz1 hk1 hS => ?_)
  obtain ⟨f_4, w_5, a_6⟩ := u
  obtain ⟨c_7, c_8, c_9, c_10, c_11, c_12, c_13⟩ := hw
  have hP1 : va_P (dC, dI) vwCl (wsX ob ad cA f_4 w_5 a_6) H1 := by have h9 := hB.1; rw [ht] at h9; exact h9
  have hnx1 : ps_stop r_3 (f_4 4) (td 1) v_2 := by have h9 : ps_stop r_3 (f_4 4) (fv 4) v_2 := c_12; rw [show fv 4 = td 1 from hXX.2.2.2.2.2.1] at h9; exact h9
  have hI : inV s dC dI ob ad cA h adm cAm yO kO tA tD (va_up td 1 (f_4 4)) td H1 := inv_x (ar := ar) (tX := td) hs hMM hOO hGG h00 hNN hLL hEE hP1 c_7 c_8 (my_tO hXX.2.2.2.1 (congrArg (fun z => z.1) c_11)) ⟨((c_9 7 rfl).trans hXX.2.2.2.2.1), rfl, ((c_9 11 rfl).trans hXX.2.2.2.2.2.2.1), ((c_9 12 rfl).trans hXX.2.2.2.2.2.2.2.1), ((c_9 9 rfl).trans hXX.2.2.2.2.2.2.2.2.1), ((c_9 0 rfl).trans hXX.2.2.2.2.2.2.2.2.2)⟩ (c_9 30 rfl) (congrArg (fun z => z.2.2) c_11) hz1 hk1
  generalize H1 = H at hI hS ⊢
  refine lv_pop hx hb dL_law_424 rfl ?_
  refine lv_aload_n hx hb dL_law_425 rfl (lv_at hl 2 rfl) ?_
  refine lv_aload_n hx hb dL_law_426 rfl (lv_at hl 0 rfl) ?_
  refine lv_iload hx hb dL_law_427 (lv_at hl 4 rfl) ?_
  refine lv_iconst (v := 1) hx hb dL_law_429 (by decide) ?_
  refine lv_iadd hx hb dL_law_430 ?_
  refine lv_topi (fun v_14 ev_14 => ?_)
  refine va_sld hx hb hX hbl hbA hS (my_si (k := 1) hi hJ hL ev_14 (by decide) (by decide) (by decide)) dL_law_431 ?_
  refine lv_topi (fun v_15 ev_15 => ?_)
  obtain rfl : v_15 = v_2 := by rw [ev_15, ev_2, ev_14, ev_1]
  obtain ⟨fv, wd, ar, gv, gw, gr, fO, gla, gfr, gra, grc, gln, gcn, glr, ce, ef, hXX, hMM, hOO, hGG, h00, hNN, hLL, hEE⟩ := hI
  have hFM : ∀ q, aM h adm H.size q → A q := fun q w => hA q (w.elim (fun ⟨k, hk⟩ => hs.2.2.2.1 k q hk) (fun w => Nat.le_trans hS.1 w))
  refine va_calli (va_runV (As := [.int v_15]) (rest := []) ⟨hx, hb, hml, hown, hts⟩ (m_stopE l dC dI H.size h adm cAm hs.2.1 gv gw gr hMM.2.1 hMM.2.2.1 v_15) (cwV 1 hts (gV kw_8_28 kw_8_29 kw_8_30 kw_1_15 kw_8_31) rfl rfl rfl (by decide +kernel) ⟨Nat.le_of_ble_eq_true rfl, Nat.le_of_ble_eq_true rfl⟩) ⟨fun a U g mk q => ⟨q.1, q.2.1, q.2.2.1, va_K.moved (u := U) (U := U.calling g mk a) (Vm.Alike.refl U.vm) q.2.2.2⟩, va_recv hKM hMM.1 (ci := 12) (q0 := 0) rfl rfl, fun U hU hW => ⟨rfl, by rw [hU], by rw [hU]; exact hMM.1, va_K.moved hW.alike hKM⟩⟩ rfl rfl hl.1 rfl (lv_room (Nat.le_of_ble_eq_true rfl)) dL_law_432 (my_le (by omega) (by omega))) hS (fun q _ w => hFM q w) hFM (fun r_16 u t H1 locs ht hvm hw hB hz1 hk1 hS => ?_)
  obtain ⟨f_17, w_18, a_19⟩ := u
  obtain ⟨c_20, c_21, c_22, c_23, c_24, c_25⟩ := hw
  have hP1 : va_P (dC, dI) vwCl (wsM h adm cAm f_17 w_18 a_19) H1 := by have h9 := hB.1; rw [ht] at h9; exact h9
  have hnx2 : ps_stop r_16 (f_17 33) (td 1) v_15 := by have h9 : ps_stop r_16 (f_17 33) (gv 33) v_15 := c_24; rw [show gv 33 = td 1 from hMM.2.2.2.2.2.2.1] at h9; exact h9
  have hnx : r_3 = r_16 ∧ f_4 4 = f_17 33 := ps_stop_det hnx1 hnx2
  have hI : inV s dC dI ob ad cA h adm cAm yO kO tA tD (va_up td 1 (f_4 4)) (va_up td 1 (f_17 33)) H1 := inv_m (gv := gv) (gw := gw) (gr := gr) (tM := td) hs hXX hOO hGG h00 hNN hLL hEE hP1 c_20 c_21 (vM_fr hMM.2.2.2.1 c_22 c_23 rfl rfl rfl rfl rfl) (sW_fr hMM.2.2.2.2.1 c_23 rfl rfl) ⟨((c_22 3 rfl).trans hMM.2.2.2.2.2.1), rfl, ((c_22 34 rfl).trans hMM.2.2.2.2.2.2.2.1), ((c_22 35 rfl).trans hMM.2.2.2.2.2.2.2.2.1), ((c_22 6 rfl).trans hMM.2.2.2.2.2.2.2.2.2.1), ((c_22 2 rfl).trans hMM.2.2.2.2.2.2.2.2.2.2)⟩ hz1 hk1
  generalize H1 = H at hI hS ⊢
  refine lv_pop hx hb dL_law_435 rfl ?_
  refine lv_goto (tgt := 1014) hx hb dL_law_436 (by decide) ?_
  refine W.widen (k := nc + 9) (n := ns + 371) (by omega) (by omega) ?_
  rw [← hnx.2] at hI
  exact kk _ _ _ _ hI hS (lv_sub hl [0, 1, 2, 3, 4] rfl)
set_option maxHeartbeats 4000000 in
set_option maxRecDepth 100000 in
theorem law_7 {p : Program} {e : Env} {s : State} {m : MethodId} {below : List Frame} {meth : Method} {c : Code} (l : Launch) {b L : Nat} {xs : Nat → Int32} (hL : L ≤ 3584) (hl0 : l.stackTraces = false) (C0 : lw_At p s m meth c b L xs) {A : Nat → Prop} (hAe : A = fun q => s.heap.size ≤ q) {dC : Nat → ClassId} {dI : Nat → Nat → Nat} {ob ad : Nat → Nat} {cA : Nat → ClassId} {h : Nat} {adm : Nat → Nat} {cAm : Nat → ClassId} {yO : Nat} {kO : ClassId} {tA : Nat → Nat} {tD : Nat} {tkK tkV tkL : Nat → Nat} {tkB : Nat → Nat → Int32} {tkT sN : Nat} (hs : iSep s ob ad h adm yO) (hKX : va_K (dC, dI) vwCl (tyX cA) s) (hKM : va_K (dC, dI) vwCl (tyM cAm) s) (hKO : va_K (dC, dI) vwCl [(kO, .long)] s) (hst : iSt s A tA tkK tkV tkL tkB tkT sN tD) (H : Heap) (locs : List Loc) (td : Nat → Int32) (hI : inV s dC dI ob ad cA h adm cAm yO kO tA tD td td H) (hS : va_S A s.heap H locs) (i : Int32) (J : Nat) (hi : i.toInt = (J : Int)) (hJ : J + 7 ≤ L) (nc ns : Nat) (hnc : nc + 9 ≤ 741096) (hns : ns + 371 ≤ 6872816) (ls : Array Slot) (hl : lv_has ls 7 [(0, .ref b), (1, .ref (ob 0)), (2, .ref h), (3, .ref yO), (4, .int i)]) (kk : ∀ (H : Heap) (locs : List Loc) (td : Nat → Int32) (ls : Array Slot), inV s dC dI ob ad cA h adm cAm yO kO tA tD td td H → va_S A s.heap H locs → lv_has ls 7 [(0, .ref b), (1, .ref (ob 0)), (2, .ref h), (3, .ref yO), (4, .int i)] → W p l e room_1 s m #[Value.ref b] below meth c H locs (nc + 9) (ns + 371) (lw_Z below #[Value.ref b] s) (F0 m 1014 ls [])) : W p l e room_1 s m #[Value.ref b] below meth c H locs nc ns (lw_Z below #[Value.ref b] s) (F0 m 439 ls []) := by
  obtain ⟨hx, hb, hr, hml, hown, hts0, hX, hbl, hlocks, hgv⟩ := id C0
  have hb : c.code = cL_law := hb
  have hown : s.vm.findClass RL = some m.cls := hown
  have hts : ∀ w ∈ (.initialized RL :: lw_good : List Cond), w.before #[Value.ref b] s = true := fun w h => (List.mem_cons.mp h).elim (fun q => by rw [q]; exact hts0 _ (lwgT kw_1_0)) (fun q => hts0 w (lwgT q))
  have hA : ∀ q : Nat, s.heap.size ≤ q → A q := fun q h => by rw [hAe]; exact h
  have hbA : ¬ A b := by rw [hAe]; exact Nat.not_le.mpr hbl
  refine lv_aload_n hx hb dL_law_439 rfl (lv_at hl 1 rfl) ?_
  refine lv_aload_n hx hb dL_law_440 rfl (lv_at hl 0 rfl) ?_
  refine lv_iload hx hb dL_law_441 (lv_at hl 4 rfl) ?_
  refine lv_iconst (v := 1) hx hb dL_law_443 (by decide) ?_
  refine lv_iadd hx hb dL_law_444 ?_
  refine lv_topi (fun v_1 ev_1 => ?_)
  refine va_sld hx hb hX hbl hbA hS (my_si (k := 1) hi hJ hL ev_1 (by decide) (by decide) (by decide)) dL_law_445 ?_
  refine lv_topi (fun v_2 ev_2 => ?_)
  refine lv_aload_n hx hb dL_law_446 rfl (lv_at hl 0 rfl) ?_
  refine lv_iload hx hb dL_law_447 (lv_at hl 4 rfl) ?_
  refine lv_iconst (v := 2) hx hb dL_law_449 (by decide) ?_
  refine lv_iadd hx hb dL_law_450 ?_
  refine lv_topi (fun v_3 ev_3 => ?_)
  refine va_sld hx hb hX hbl hbA hS (my_si (k := 2) hi hJ hL ev_3 (by decide) (by decide) (by decide)) dL_law_451 ?_
  refine lv_topi (fun v_4 ev_4 => ?_)
  refine lv_aload_n hx hb dL_law_452 rfl (lv_at hl 0 rfl) ?_
  refine lv_iload hx hb dL_law_453 (lv_at hl 4 rfl) ?_
  refine lv_iconst (v := 3) hx hb dL_law_455 (by decide) ?_
  refine lv_iadd hx hb dL_law_456 ?_
  refine lv_topi (fun v_5 ev_5 => ?_)
  refine va_sld hx hb hX hbl hbA hS (my_si (k := 3) hi hJ hL ev_5 (by decide) (by decide) (by decide)) dL_law_457 ?_
  refine lv_topi (fun v_6 ev_6 => ?_)
  refine lv_aload_n hx hb dL_law_458 rfl (lv_at hl 0 rfl) ?_
  refine lv_iload hx hb dL_law_459 (lv_at hl 4 rfl) ?_
  refine lv_iconst (v := 4) hx hb dL_law_461 (by decide) ?_
  refine lv_iadd hx hb dL_law_462 ?_
  refine lv_topi (fun v_7 ev_7 => ?_)
  refine va_sld hx hb hX hbl hbA hS (my_si (k := 4) hi hJ hL ev_7 (by decide) (by decide) (by decide)) dL_law_463 ?_
  refine lv_topi (fun v_8 ev_8 => ?_)
  obtain ⟨fv, wd, ar, gv, gw, gr, fO, gla, gfr, gra, grc, gln, gcn, glr, ce, ef, hXX, hMM, hOO, hGG, h00, hNN, hLL, hEE⟩ := hI
  have hFX : ∀ q, aX ob ad H.size q → A q := fun q w => hA q (w.elim (fun ⟨k, hk⟩ => hs.2.2.1 k q hk) (fun w => Nat.le_trans hS.1 w))
  refine va_calli (va_runV (As := [.int v_2, .int v_4, .int v_6, .int v_8]) (rest := []) ⟨hx, hb, hml, hown, hts⟩ (x_wheelE l dC dI H.size ob ad cA hs.1 fv wd ar hXX.2.1 hXX.2.2.1 v_2 v_4 v_6 v_8) (cwV 4 hts (gV kw_3_179 kw_3_180 kw_3_181 kw_1_1 kw_3_182) rfl rfl rfl (by decide +kernel) ⟨Nat.le_of_ble_eq_true rfl, Nat.le_of_ble_eq_true rfl⟩) ⟨fun a U g mk q => ⟨q.1, q.2.1, q.2.2.1, va_K.moved (u := U) (U := U.calling g mk a) (Vm.Alike.refl U.vm) q.2.2.2⟩, va_recv hKX hXX.1 (ci := 11) (q0 := 0) rfl rfl, fun U hU hW => ⟨rfl, by rw [hU], by rw [hU]; exact hXX.1, va_K.moved hW.alike hKX⟩⟩ rfl rfl hl.1 rfl (lv_room (Nat.le_of_ble_eq_true rfl)) dL_law_464 (my_le (by omega) (by omega))) hS (fun q _ w => hFX q w) hFX (fun r_9 u t H1 locs ht hvm hw hB hz1 hk1 hS => ?_)
  obtain ⟨f_10, w_11, a_12⟩ := u
  obtain ⟨c_13, c_14, c_15, c_16, c_17, c_18, c_19⟩ := hw
  have hP1 : va_P (dC, dI) vwCl (wsX ob ad cA f_10 w_11 a_12) H1 := by have h9 := hB.1; rw [ht] at h9; exact h9
  have hnx1 : ps_wheel r_9 (f_10 11) (td 2) (td 1) v_2 v_4 v_6 v_8 := by have h9 : ps_wheel r_9 (f_10 11) (fv 11) (fv 4) v_2 v_4 v_6 v_8 := c_18; rw [show fv 11 = td 2 from hXX.2.2.2.2.2.2.1, show fv 4 = td 1 from hXX.2.2.2.2.2.1] at h9; exact h9
  have hI : inV s dC dI ob ad cA h adm cAm yO kO tA tD (va_up td 2 (f_10 11)) td H1 := inv_x (ar := ar) (tX := td) hs hMM hOO hGG h00 hNN hLL hEE hP1 c_13 c_14 (my_tO hXX.2.2.2.1 (congrArg (fun z => z.1) c_17)) ⟨((c_15 7 rfl).trans hXX.2.2.2.2.1), ((c_15 4 rfl).trans hXX.2.2.2.2.2.1), rfl, ((c_15 12 rfl).trans hXX.2.2.2.2.2.2.2.1), ((c_15 9 rfl).trans hXX.2.2.2.2.2.2.2.2.1), ((c_15 0 rfl).trans hXX.2.2.2.2.2.2.2.2.2)⟩ (c_15 30 rfl) (congrArg (fun z => z.2.2) c_17) hz1 hk1
  generalize H1 = H at hI hS ⊢
  refine lv_pop hx hb dL_law_467 rfl ?_
  refine lv_aload_n hx hb dL_law_468 rfl (lv_at hl 2 rfl) ?_
  refine lv_aload_n hx hb dL_law_469 rfl (lv_at hl 0 rfl) ?_
  refine lv_iload hx hb dL_law_470 (lv_at hl 4 rfl) ?_
  refine lv_iconst (v := 1) hx hb dL_law_472 (by decide) ?_
  refine lv_iadd hx hb dL_law_473 ?_
  refine lv_topi (fun v_20 ev_20 => ?_)
  refine va_sld hx hb hX hbl hbA hS (my_si (k := 1) hi hJ hL ev_20 (by decide) (by decide) (by decide)) dL_law_474 ?_
  refine lv_topi (fun v_21 ev_21 => ?_)
  obtain rfl : v_21 = v_2 := by rw [ev_21, ev_2, ev_20, ev_1]
  refine lv_aload_n hx hb dL_law_475 rfl (lv_at hl 0 rfl) ?_
  refine lv_iload hx hb dL_law_476 (lv_at hl 4 rfl) ?_
  refine lv_iconst (v := 2) hx hb dL_law_478 (by decide) ?_
  refine lv_iadd hx hb dL_law_479 ?_
  refine lv_topi (fun v_22 ev_22 => ?_)
  refine va_sld hx hb hX hbl hbA hS (my_si (k := 2) hi hJ hL ev_22 (by decide) (by decide) (by decide)) dL_law_480 ?_
  refine lv_topi (fun v_23 ev_23 => ?_)
  obtain rfl : v_23 = v_4 := by rw [ev_23, ev_4, ev_22, ev_3]
  refine lv_aload_n hx hb dL_law_481 rfl (lv_at hl 0 rfl) ?_
  refine lv_iload hx hb dL_law_482 (lv_at hl 4 rfl) ?_
  refine lv_iconst (v := 3) hx hb dL_law_484 (by decide) ?_
  refine lv_iadd hx hb dL_law_485 ?_
  refine lv_topi (fun v_24 ev_24 => ?_)
  refine va_sld hx hb hX hbl hbA hS (my_si (k := 3) hi hJ hL ev_24 (by decide) (by decide) (by decide)) dL_law_486 ?_
  refine lv_topi (fun v_25 ev_25 => ?_)
  obtain rfl : v_25 = v_6 := by rw [ev_25, ev_6, ev_24, ev_5]
  refine lv_aload_n hx hb dL_law_487 rfl (lv_at hl 0 rfl) ?_
  refine lv_iload hx hb dL_law_488 (lv_at hl 4 rfl) ?_
  refine lv_iconst (v := 4) hx hb dL_law_490 (by decide) ?_
  refine lv_iadd hx hb dL_law_491 ?_
  refine lv_topi (fun v_26 ev_26 => ?_)
  refine va_sld hx hb hX hbl hbA hS (my_si (k := 4) hi hJ hL ev_26 (by decide) (by decide) (by decide)) dL_law_492 ?_
  refine lv_topi (fun v_27 ev_27 => ?_)
  obtain rfl : v_27 = v_8 := by rw [ev_27, ev_8, ev_26, ev_7]
  obtain ⟨fv, wd, ar, gv, gw, gr, fO, gla, gfr, gra, grc, gln, gcn, glr, ce, ef, hXX, hMM, hOO, hGG, h00, hNN, hLL, hEE⟩ := hI
  have hFM : ∀ q, aM h adm H.size q → A q := fun q w => hA q (w.elim (fun ⟨k, hk⟩ => hs.2.2.2.1 k q hk) (fun w => Nat.le_trans hS.1 w))
  refine va_calli (va_runV (As := [.int v_21, .int v_23, .int v_25, .int v_27]) (rest := []) ⟨hx, hb, hml, hown, hts⟩ (m_wheelE l dC dI H.size h adm cAm hs.2.1 gv gw gr hMM.2.1 hMM.2.2.1 v_21 v_23 v_25 v_27) (cwV 4 hts (gV kw_8_32 kw_8_33 kw_8_34 kw_1_15 kw_8_35) rfl rfl rfl (by decide +kernel) ⟨Nat.le_of_ble_eq_true rfl, Nat.le_of_ble_eq_true rfl⟩) ⟨fun a U g mk q => ⟨q.1, q.2.1, q.2.2.1, va_K.moved (u := U) (U := U.calling g mk a) (Vm.Alike.refl U.vm) q.2.2.2⟩, va_recv hKM hMM.1 (ci := 12) (q0 := 0) rfl rfl, fun U hU hW => ⟨rfl, by rw [hU], by rw [hU]; exact hMM.1, va_K.moved hW.alike hKM⟩⟩ rfl rfl hl.1 rfl (lv_room (Nat.le_of_ble_eq_true rfl)) dL_law_493 (my_le (by omega) (by omega))) hS (fun q _ w => hFM q w) hFM (fun r_28 u t H1 locs ht hvm hw hB hz1 hk1 hS => ?_)
  obtain ⟨f_29, w_30, a_31⟩ := u
  obtain ⟨c_32, c_33, c_34, c_35, c_36, c_37⟩ := hw
  have hP1 : va_P (dC, dI) vwCl (wsM h adm cAm f_29 w_30 a_31) H1 := by have h9 := hB.1; rw [ht] at h9; exact h9
  have hnx2 : ps_wheel r_28 (f_29 34) (td 2) (td 1) v_21 v_23 v_25 v_27 := by have h9 : ps_wheel r_28 (f_29 34) (gv 34) (gv 33) v_21 v_23 v_25 v_27 := c_36; rw [show gv 34 = td 2 from hMM.2.2.2.2.2.2.2.1, show gv 33 = td 1 from hMM.2.2.2.2.2.2.1] at h9; exact h9
  have hnx : r_9 = r_28 ∧ f_10 11 = f_29 34 := ps_wheel_det hnx1 hnx2
  have hI : inV s dC dI ob ad cA h adm cAm yO kO tA tD (va_up td 2 (f_10 11)) (va_up td 2 (f_29 34)) H1 := inv_m (gv := gv) (gw := gw) (gr := gr) (tM := td) hs hXX hOO hGG h00 hNN hLL hEE hP1 c_32 c_33 (vM_fr hMM.2.2.2.1 c_34 c_35 rfl rfl rfl rfl rfl) (sW_fr hMM.2.2.2.2.1 c_35 rfl rfl) ⟨((c_34 3 rfl).trans hMM.2.2.2.2.2.1), ((c_34 33 rfl).trans hMM.2.2.2.2.2.2.1), rfl, ((c_34 35 rfl).trans hMM.2.2.2.2.2.2.2.2.1), ((c_34 6 rfl).trans hMM.2.2.2.2.2.2.2.2.2.1), ((c_34 2 rfl).trans hMM.2.2.2.2.2.2.2.2.2.2)⟩ hz1 hk1
  generalize H1 = H at hI hS ⊢
  refine lv_pop hx hb dL_law_496 rfl ?_
  refine lv_goto (tgt := 1014) hx hb dL_law_497 (by decide) ?_
  refine W.widen (k := nc + 9) (n := ns + 371) (by omega) (by omega) ?_
  rw [← hnx.2] at hI
  exact kk _ _ _ _ hI hS (lv_sub hl [0, 1, 2, 3, 4] rfl)
set_option maxHeartbeats 4000000 in
set_option maxRecDepth 100000 in
theorem law_8 {p : Program} {e : Env} {s : State} {m : MethodId} {below : List Frame} {meth : Method} {c : Code} (l : Launch) {b L : Nat} {xs : Nat → Int32} (hL : L ≤ 3584) (hl0 : l.stackTraces = false) (C0 : lw_At p s m meth c b L xs) {A : Nat → Prop} (hAe : A = fun q => s.heap.size ≤ q) {dC : Nat → ClassId} {dI : Nat → Nat → Nat} {ob ad : Nat → Nat} {cA : Nat → ClassId} {h : Nat} {adm : Nat → Nat} {cAm : Nat → ClassId} {yO : Nat} {kO : ClassId} {tA : Nat → Nat} {tD : Nat} {tkK tkV tkL : Nat → Nat} {tkB : Nat → Nat → Int32} {tkT sN : Nat} (hs : iSep s ob ad h adm yO) (hKX : va_K (dC, dI) vwCl (tyX cA) s) (hKM : va_K (dC, dI) vwCl (tyM cAm) s) (hKO : va_K (dC, dI) vwCl [(kO, .long)] s) (hst : iSt s A tA tkK tkV tkL tkB tkT sN tD) (H : Heap) (locs : List Loc) (td : Nat → Int32) (hI : inV s dC dI ob ad cA h adm cAm yO kO tA tD td td H) (hS : va_S A s.heap H locs) (i : Int32) (J : Nat) (hi : i.toInt = (J : Int)) (hJ : J + 7 ≤ L) (nc ns : Nat) (hnc : nc + 9 ≤ 741096) (hns : ns + 371 ≤ 6872816) (ls : Array Slot) (hl : lv_has ls 7 [(0, .ref b), (1, .ref (ob 0)), (2, .ref h), (3, .ref yO), (4, .int i)]) (kk : ∀ (H : Heap) (locs : List Loc) (td : Nat → Int32) (ls : Array Slot), inV s dC dI ob ad cA h adm cAm yO kO tA tD td td H → va_S A s.heap H locs → lv_has ls 7 [(0, .ref b), (1, .ref (ob 0)), (2, .ref h), (3, .ref yO), (4, .int i)] → W p l e room_1 s m #[Value.ref b] below meth c H locs (nc + 9) (ns + 371) (lw_Z below #[Value.ref b] s) (F0 m 1014 ls [])) : W p l e room_1 s m #[Value.ref b] below meth c H locs nc ns (lw_Z below #[Value.ref b] s) (F0 m 500 ls []) := by
  obtain ⟨hx, hb, hr, hml, hown, hts0, hX, hbl, hlocks, hgv⟩ := id C0
  have hb : c.code = cL_law := hb
  have hown : s.vm.findClass RL = some m.cls := hown
  have hts : ∀ w ∈ (.initialized RL :: lw_good : List Cond), w.before #[Value.ref b] s = true := fun w h => (List.mem_cons.mp h).elim (fun q => by rw [q]; exact hts0 _ (lwgT kw_1_0)) (fun q => hts0 w (lwgT q))
  have hA : ∀ q : Nat, s.heap.size ≤ q → A q := fun q h => by rw [hAe]; exact h
  have hbA : ¬ A b := by rw [hAe]; exact Nat.not_le.mpr hbl
  refine lv_aload_n hx hb dL_law_500 rfl (lv_at hl 1 rfl) ?_
  refine lv_aload_n hx hb dL_law_501 rfl (lv_at hl 0 rfl) ?_
  refine lv_iload hx hb dL_law_502 (lv_at hl 4 rfl) ?_
  refine lv_iconst (v := 1) hx hb dL_law_504 (by decide) ?_
  refine lv_iadd hx hb dL_law_505 ?_
  refine lv_topi (fun v_1 ev_1 => ?_)
  refine va_sld hx hb hX hbl hbA hS (my_si (k := 1) hi hJ hL ev_1 (by decide) (by decide) (by decide)) dL_law_506 ?_
  refine lv_topi (fun v_2 ev_2 => ?_)
  refine lv_aload_n hx hb dL_law_507 rfl (lv_at hl 0 rfl) ?_
  refine lv_iload hx hb dL_law_508 (lv_at hl 4 rfl) ?_
  refine lv_iconst (v := 2) hx hb dL_law_510 (by decide) ?_
  refine lv_iadd hx hb dL_law_511 ?_
  refine lv_topi (fun v_3 ev_3 => ?_)
  refine va_sld hx hb hX hbl hbA hS (my_si (k := 2) hi hJ hL ev_3 (by decide) (by decide) (by decide)) dL_law_512 ?_
  refine lv_topi (fun v_4 ev_4 => ?_)
  obtain ⟨fv, wd, ar, gv, gw, gr, fO, gla, gfr, gra, grc, gln, gcn, glr, ce, ef, hXX, hMM, hOO, hGG, h00, hNN, hLL, hEE⟩ := hI
  have hFX : ∀ q, aX ob ad H.size q → A q := fun q w => hA q (w.elim (fun ⟨k, hk⟩ => hs.2.2.1 k q hk) (fun w => Nat.le_trans hS.1 w))
  refine va_calli (va_runV (As := [.int v_2, .int v_4]) (rest := []) ⟨hx, hb, hml, hown, hts⟩ (x_insureE l dC dI H.size ob ad cA hs.1 fv wd ar hXX.2.1 hXX.2.2.1 v_2 v_4) (cwV 2 hts (gV kw_3_194 kw_3_195 kw_3_196 kw_1_1 kw_3_197) rfl rfl rfl (by decide +kernel) ⟨Nat.le_of_ble_eq_true rfl, Nat.le_of_ble_eq_true rfl⟩) ⟨fun a U g mk q => ⟨q.1, q.2.1, q.2.2.1, va_K.moved (u := U) (U := U.calling g mk a) (Vm.Alike.refl U.vm) q.2.2.2⟩, va_recv hKX hXX.1 (ci := 11) (q0 := 0) rfl rfl, fun U hU hW => ⟨rfl, by rw [hU], by rw [hU]; exact hXX.1, va_K.moved hW.alike hKX⟩⟩ rfl rfl hl.1 rfl (lv_room (Nat.le_of_ble_eq_true rfl)) dL_law_513 (my_le (by omega) (by omega))) hS (fun q _ w => hFX q w) hFX (fun r_5 u t H1 locs ht hvm hw hB hz1 hk1 hS => ?_)
  obtain ⟨f_6, w_7, a_8⟩ := u
  obtain ⟨c_9, c_10, c_11, c_12, c_13, c_14, c_15, c_16⟩ := hw
  have hP1 : va_P (dC, dI) vwCl (wsX ob ad cA f_6 w_7 a_8) H1 := by have h9 := hB.1; rw [ht] at h9; exact h9
  have hnx1 : ps_insure r_5 (td 2) v_2 v_4 := by have h9 : ps_insure r_5 (fv 11) v_2 v_4 := c_15; rw [show fv 11 = td 2 from hXX.2.2.2.2.2.2.1] at h9; exact h9
  have hI : inV s dC dI ob ad cA h adm cAm yO kO tA tD td td H1 := inv_x (ar := ar) (tX := td) hs hMM hOO hGG h00 hNN hLL hEE hP1 c_9 c_10 (my_tO hXX.2.2.2.1 (congrArg (fun z => z.1) c_13)) ⟨((c_11 7 rfl).trans hXX.2.2.2.2.1), ((c_11 4 rfl).trans hXX.2.2.2.2.2.1), ((c_11 11 rfl).trans hXX.2.2.2.2.2.2.1), ((c_11 12 rfl).trans hXX.2.2.2.2.2.2.2.1), ((c_11 9 rfl).trans hXX.2.2.2.2.2.2.2.2.1), ((c_11 0 rfl).trans hXX.2.2.2.2.2.2.2.2.2)⟩ (c_11 30 rfl) (congrArg (fun z => z.2.2) c_13) hz1 hk1
  generalize H1 = H at hI hS ⊢
  refine lv_aload_n hx hb dL_law_516 rfl (lv_at hl 2 rfl) ?_
  refine lv_aload_n hx hb dL_law_517 rfl (lv_at hl 0 rfl) ?_
  refine lv_iload hx hb dL_law_518 (lv_at hl 4 rfl) ?_
  refine lv_iconst (v := 1) hx hb dL_law_520 (by decide) ?_
  refine lv_iadd hx hb dL_law_521 ?_
  refine lv_topi (fun v_17 ev_17 => ?_)
  refine va_sld hx hb hX hbl hbA hS (my_si (k := 1) hi hJ hL ev_17 (by decide) (by decide) (by decide)) dL_law_522 ?_
  refine lv_topi (fun v_18 ev_18 => ?_)
  obtain rfl : v_18 = v_2 := by rw [ev_18, ev_2, ev_17, ev_1]
  refine lv_aload_n hx hb dL_law_523 rfl (lv_at hl 0 rfl) ?_
  refine lv_iload hx hb dL_law_524 (lv_at hl 4 rfl) ?_
  refine lv_iconst (v := 2) hx hb dL_law_526 (by decide) ?_
  refine lv_iadd hx hb dL_law_527 ?_
  refine lv_topi (fun v_19 ev_19 => ?_)
  refine va_sld hx hb hX hbl hbA hS (my_si (k := 2) hi hJ hL ev_19 (by decide) (by decide) (by decide)) dL_law_528 ?_
  refine lv_topi (fun v_20 ev_20 => ?_)
  obtain rfl : v_20 = v_4 := by rw [ev_20, ev_4, ev_19, ev_3]
  obtain ⟨fv, wd, ar, gv, gw, gr, fO, gla, gfr, gra, grc, gln, gcn, glr, ce, ef, hXX, hMM, hOO, hGG, h00, hNN, hLL, hEE⟩ := hI
  have hFM : ∀ q, aM h adm H.size q → A q := fun q w => hA q (w.elim (fun ⟨k, hk⟩ => hs.2.2.2.1 k q hk) (fun w => Nat.le_trans hS.1 w))
  refine va_calli (va_runV (As := [.int v_18, .int v_20]) (rest := [.int r_5]) ⟨hx, hb, hml, hown, hts⟩ (m_insureE l dC dI H.size h adm cAm hs.2.1 gv gw gr hMM.2.1 hMM.2.2.1 v_18 v_20) (cwV 2 hts (gV kw_8_36 kw_8_37 kw_8_38 kw_1_15 kw_8_39) rfl rfl rfl (by decide +kernel) ⟨Nat.le_of_ble_eq_true rfl, Nat.le_of_ble_eq_true rfl⟩) ⟨fun a U g mk q => ⟨q.1, q.2.1, q.2.2.1, va_K.moved (u := U) (U := U.calling g mk a) (Vm.Alike.refl U.vm) q.2.2.2⟩, va_recv hKM hMM.1 (ci := 12) (q0 := 0) rfl rfl, fun U hU hW => ⟨rfl, by rw [hU], by rw [hU]; exact hMM.1, va_K.moved hW.alike hKM⟩⟩ rfl rfl hl.1 rfl (lv_room (Nat.le_of_ble_eq_true rfl)) dL_law_529 (my_le (by omega) (by omega))) hS (fun q _ w => hFM q w) hFM (fun r_21 u t H1 locs ht hvm hw hB hz1 hk1 hS => ?_)
  obtain ⟨f_22, w_23, a_24⟩ := u
  obtain ⟨c_25, c_26, c_27, c_28, c_29, c_30, c_31⟩ := hw
  have hP1 : va_P (dC, dI) vwCl (wsM h adm cAm f_22 w_23 a_24) H1 := by have h9 := hB.1; rw [ht] at h9; exact h9
  have hnx2 : ps_insure r_21 (td 2) v_18 v_20 := by have h9 : ps_insure r_21 (gv 34) v_18 v_20 := c_30; rw [show gv 34 = td 2 from hMM.2.2.2.2.2.2.2.1] at h9; exact h9
  have hnx : r_5 = r_21 ∧ True := ⟨ps_insure_det hnx1 hnx2, trivial⟩
  have hI : inV s dC dI ob ad cA h adm cAm yO kO tA tD td td H1 := inv_m (gv := gv) (gw := gw) (gr := gr) (tM := td) hs hXX hOO hGG h00 hNN hLL hEE hP1 c_25 c_26 (vM_fr hMM.2.2.2.1 c_27 c_28 rfl rfl rfl rfl rfl) (sW_fr hMM.2.2.2.2.1 c_28 rfl rfl) ⟨((c_27 3 rfl).trans hMM.2.2.2.2.2.1), ((c_27 33 rfl).trans hMM.2.2.2.2.2.2.1), ((c_27 34 rfl).trans hMM.2.2.2.2.2.2.2.1), ((c_27 35 rfl).trans hMM.2.2.2.2.2.2.2.2.1), ((c_27 6 rfl).trans hMM.2.2.2.2.2.2.2.2.2.1), ((c_27 2 rfl).trans hMM.2.2.2.2.2.2.2.2.2.2)⟩ hz1 hk1
  generalize H1 = H at hI hS ⊢
  refine lv_icmp_eq (tgt := 1014) hx hb dL_law_532 (by decide) (fun cq => ?_) (fun cq => ?_)
  rotate_left
  · exact (cq hnx.1).elim
  refine W.widen (k := nc + 9) (n := ns + 371) (by omega) (by omega) ?_
  exact kk _ _ _ _ hI hS (lv_sub hl [0, 1, 2, 3, 4] rfl)
set_option maxHeartbeats 4000000 in
set_option maxRecDepth 100000 in
theorem law_9 {p : Program} {e : Env} {s : State} {m : MethodId} {below : List Frame} {meth : Method} {c : Code} (l : Launch) {b L : Nat} {xs : Nat → Int32} (hL : L ≤ 3584) (hl0 : l.stackTraces = false) (C0 : lw_At p s m meth c b L xs) {A : Nat → Prop} (hAe : A = fun q => s.heap.size ≤ q) {dC : Nat → ClassId} {dI : Nat → Nat → Nat} {ob ad : Nat → Nat} {cA : Nat → ClassId} {h : Nat} {adm : Nat → Nat} {cAm : Nat → ClassId} {yO : Nat} {kO : ClassId} {tA : Nat → Nat} {tD : Nat} {tkK tkV tkL : Nat → Nat} {tkB : Nat → Nat → Int32} {tkT sN : Nat} (hs : iSep s ob ad h adm yO) (hKX : va_K (dC, dI) vwCl (tyX cA) s) (hKM : va_K (dC, dI) vwCl (tyM cAm) s) (hKO : va_K (dC, dI) vwCl [(kO, .long)] s) (hst : iSt s A tA tkK tkV tkL tkB tkT sN tD) (H : Heap) (locs : List Loc) (td : Nat → Int32) (hI : inV s dC dI ob ad cA h adm cAm yO kO tA tD td td H) (hS : va_S A s.heap H locs) (i : Int32) (J : Nat) (hi : i.toInt = (J : Int)) (hJ : J + 7 ≤ L) (nc ns : Nat) (hnc : nc + 9 ≤ 741096) (hns : ns + 371 ≤ 6872816) (ls : Array Slot) (hl : lv_has ls 7 [(0, .ref b), (1, .ref (ob 0)), (2, .ref h), (3, .ref yO), (4, .int i)]) (kk : ∀ (H : Heap) (locs : List Loc) (td : Nat → Int32) (ls : Array Slot), inV s dC dI ob ad cA h adm cAm yO kO tA tD td td H → va_S A s.heap H locs → lv_has ls 7 [(0, .ref b), (1, .ref (ob 0)), (2, .ref h), (3, .ref yO), (4, .int i)] → W p l e room_1 s m #[Value.ref b] below meth c H locs (nc + 9) (ns + 371) (lw_Z below #[Value.ref b] s) (F0 m 1014 ls [])) : W p l e room_1 s m #[Value.ref b] below meth c H locs nc ns (lw_Z below #[Value.ref b] s) (F0 m 537 ls []) := by
  obtain ⟨hx, hb, hr, hml, hown, hts0, hX, hbl, hlocks, hgv⟩ := id C0
  have hb : c.code = cL_law := hb
  have hown : s.vm.findClass RL = some m.cls := hown
  have hts : ∀ w ∈ (.initialized RL :: lw_good : List Cond), w.before #[Value.ref b] s = true := fun w h => (List.mem_cons.mp h).elim (fun q => by rw [q]; exact hts0 _ (lwgT kw_1_0)) (fun q => hts0 w (lwgT q))
  have hA : ∀ q : Nat, s.heap.size ≤ q → A q := fun q h => by rw [hAe]; exact h
  have hbA : ¬ A b := by rw [hAe]; exact Nat.not_le.mpr hbl
  refine lv_aload_n hx hb dL_law_537 rfl (lv_at hl 1 rfl) ?_
  refine lv_aload_n hx hb dL_law_538 rfl (lv_at hl 0 rfl) ?_
  refine lv_iload hx hb dL_law_539 (lv_at hl 4 rfl) ?_
  refine lv_iconst (v := 1) hx hb dL_law_541 (by decide) ?_
  refine lv_iadd hx hb dL_law_542 ?_
  refine lv_topi (fun v_1 ev_1 => ?_)
  refine va_sld hx hb hX hbl hbA hS (my_si (k := 1) hi hJ hL ev_1 (by decide) (by decide) (by decide)) dL_law_543 ?_
  refine lv_topi (fun v_2 ev_2 => ?_)
  refine lv_aload_n hx hb dL_law_544 rfl (lv_at hl 0 rfl) ?_
  refine lv_iload hx hb dL_law_545 (lv_at hl 4 rfl) ?_
  refine lv_iconst (v := 2) hx hb dL_law_547 (by decide) ?_
  refine lv_iadd hx hb dL_law_548 ?_
  refine lv_topi (fun v_3 ev_3 => ?_)
  refine va_sld hx hb hX hbl hbA hS (my_si (k := 2) hi hJ hL ev_3 (by decide) (by decide) (by decide)) dL_law_549 ?_
  refine lv_topi (fun v_4 ev_4 => ?_)
  refine lv_aload_n hx hb dL_law_550 rfl (lv_at hl 0 rfl) ?_
  refine lv_iload hx hb dL_law_551 (lv_at hl 4 rfl) ?_
  refine lv_iconst (v := 3) hx hb dL_law_553 (by decide) ?_
  refine lv_iadd hx hb dL_law_554 ?_
  refine lv_topi (fun v_5 ev_5 => ?_)
  refine va_sld hx hb hX hbl hbA hS (my_si (k := 3) hi hJ hL ev_5 (by decide) (by decide) (by decide)) dL_law_555 ?_
  refine lv_topi (fun v_6 ev_6 => ?_)
  refine lv_aload_n hx hb dL_law_556 rfl (lv_at hl 0 rfl) ?_
  refine lv_iload hx hb dL_law_557 (lv_at hl 4 rfl) ?_
  refine lv_iconst (v := 4) hx hb dL_law_559 (by decide) ?_
  refine lv_iadd hx hb dL_law_560 ?_
  refine lv_topi (fun v_7 ev_7 => ?_)
  refine va_sld hx hb hX hbl hbA hS (my_si (k := 4) hi hJ hL ev_7 (by decide) (by decide) (by decide)) dL_law_561 ?_
  refine lv_topi (fun v_8 ev_8 => ?_)
  refine lv_aload_n hx hb dL_law_562 rfl (lv_at hl 0 rfl) ?_
  refine lv_iload hx hb dL_law_563 (lv_at hl 4 rfl) ?_
  refine lv_iconst (v := 5) hx hb dL_law_565 (by decide) ?_
  refine lv_iadd hx hb dL_law_566 ?_
  refine lv_topi (fun v_9 ev_9 => ?_)
  refine va_sld hx hb hX hbl hbA hS (my_si (k := 5) hi hJ hL ev_9 (by decide) (by decide) (by decide)) dL_law_567 ?_
  refine lv_topi (fun v_10 ev_10 => ?_)
  refine lv_aload_n hx hb dL_law_568 rfl (lv_at hl 0 rfl) ?_
  refine lv_iload hx hb dL_law_569 (lv_at hl 4 rfl) ?_
  refine lv_bipush (v := 6) hx hb dL_law_571 (by decide) ?_
  refine lv_iadd hx hb dL_law_573 ?_
  refine lv_topi (fun v_11 ev_11 => ?_)
  refine va_sld hx hb hX hbl hbA hS (my_si (k := 6) hi hJ hL ev_11 (by decide) (by decide) (by decide)) dL_law_574 ?_
  refine lv_topi (fun v_12 ev_12 => ?_)
  obtain ⟨fv, wd, ar, gv, gw, gr, fO, gla, gfr, gra, grc, gln, gcn, glr, ce, ef, hXX, hMM, hOO, hGG, h00, hNN, hLL, hEE⟩ := hI
  have hFX : ∀ q, aX ob ad H.size q → A q := fun q w => hA q (w.elim (fun ⟨k, hk⟩ => hs.2.2.1 k q hk) (fun w => Nat.le_trans hS.1 w))
  refine va_calli (va_runV (As := [.int v_2, .int v_4, .int v_6, .int v_8, .int v_10, .int v_12]) (rest := []) ⟨hx, hb, hml, hown, hts⟩ (x_tripE l dC dI H.size ob ad cA hs.1 fv wd ar hXX.2.1 hXX.2.2.1 v_2 v_4 v_6 v_8 v_10 v_12) (cwV 6 hts (gV kw_3_202 kw_3_203 kw_3_204 kw_1_1 kw_3_205) rfl rfl rfl (by decide +kernel) ⟨Nat.le_of_ble_eq_true rfl, Nat.le_of_ble_eq_true rfl⟩) ⟨fun a U g mk q => ⟨q.1, q.2.1, q.2.2.1, va_K.moved (u := U) (U := U.calling g mk a) (Vm.Alike.refl U.vm) q.2.2.2⟩, va_recv hKX hXX.1 (ci := 11) (q0 := 0) rfl rfl, fun U hU hW => ⟨rfl, by rw [hU], by rw [hU]; exact hXX.1, va_K.moved hW.alike hKX⟩⟩ rfl rfl hl.1 rfl (lv_room (Nat.le_of_ble_eq_true rfl)) dL_law_575 (my_le (by omega) (by omega))) hS (fun q _ w => hFX q w) hFX (fun r_13 u t H1 locs ht hvm hw hB hz1 hk1 hS => ?_)
  obtain ⟨f_14, w_15, a_16⟩ := u
  obtain ⟨c_17, c_18, c_19, c_20, c_21, c_22, c_23⟩ := hw
  have hP1 : va_P (dC, dI) vwCl (wsX ob ad cA f_14 w_15 a_16) H1 := by have h9 := hB.1; rw [ht] at h9; exact h9
  have hnx1 : ps_trip r_13 (f_14 12) (td 3) (td 2) (td 1) (td 0) v_2 v_4 v_6 v_8 v_10 v_12 := by have h9 : ps_trip r_13 (f_14 12) (fv 12) (fv 11) (fv 4) (fv 7) v_2 v_4 v_6 v_8 v_10 v_12 := c_22; rw [show fv 12 = td 3 from hXX.2.2.2.2.2.2.2.1, show fv 11 = td 2 from hXX.2.2.2.2.2.2.1, show fv 4 = td 1 from hXX.2.2.2.2.2.1, show fv 7 = td 0 from hXX.2.2.2.2.1] at h9; exact h9
  have hI : inV s dC dI ob ad cA h adm cAm yO kO tA tD (va_up td 3 (f_14 12)) td H1 := inv_x (ar := ar) (tX := td) hs hMM hOO hGG h00 hNN hLL hEE hP1 c_17 c_18 (my_tO hXX.2.2.2.1 (congrArg (fun z => z.1) c_21)) ⟨((c_19 7 rfl).trans hXX.2.2.2.2.1), ((c_19 4 rfl).trans hXX.2.2.2.2.2.1), ((c_19 11 rfl).trans hXX.2.2.2.2.2.2.1), rfl, ((c_19 9 rfl).trans hXX.2.2.2.2.2.2.2.2.1), ((c_19 0 rfl).trans hXX.2.2.2.2.2.2.2.2.2)⟩ (c_19 30 rfl) (congrArg (fun z => z.2.2) c_21) hz1 hk1
  generalize H1 = H at hI hS ⊢
  refine lv_pop hx hb dL_law_578 rfl ?_
  refine lv_aload_n hx hb dL_law_579 rfl (lv_at hl 2 rfl) ?_
  refine lv_aload_n hx hb dL_law_580 rfl (lv_at hl 0 rfl) ?_
  refine lv_iload hx hb dL_law_581 (lv_at hl 4 rfl) ?_
  refine lv_iconst (v := 1) hx hb dL_law_583 (by decide) ?_
  refine lv_iadd hx hb dL_law_584 ?_
  refine lv_topi (fun v_24 ev_24 => ?_)
  refine va_sld hx hb hX hbl hbA hS (my_si (k := 1) hi hJ hL ev_24 (by decide) (by decide) (by decide)) dL_law_585 ?_
  refine lv_topi (fun v_25 ev_25 => ?_)
  obtain rfl : v_25 = v_2 := by rw [ev_25, ev_2, ev_24, ev_1]
  refine lv_aload_n hx hb dL_law_586 rfl (lv_at hl 0 rfl) ?_
  refine lv_iload hx hb dL_law_587 (lv_at hl 4 rfl) ?_
  refine lv_iconst (v := 2) hx hb dL_law_589 (by decide) ?_
  refine lv_iadd hx hb dL_law_590 ?_
  refine lv_topi (fun v_26 ev_26 => ?_)
  refine va_sld hx hb hX hbl hbA hS (my_si (k := 2) hi hJ hL ev_26 (by decide) (by decide) (by decide)) dL_law_591 ?_
  refine lv_topi (fun v_27 ev_27 => ?_)
  obtain rfl : v_27 = v_4 := by rw [ev_27, ev_4, ev_26, ev_3]
  refine lv_aload_n hx hb dL_law_592 rfl (lv_at hl 0 rfl) ?_
  refine lv_iload hx hb dL_law_593 (lv_at hl 4 rfl) ?_
  refine lv_iconst (v := 3) hx hb dL_law_595 (by decide) ?_
  refine lv_iadd hx hb dL_law_596 ?_
  refine lv_topi (fun v_28 ev_28 => ?_)
  refine va_sld hx hb hX hbl hbA hS (my_si (k := 3) hi hJ hL ev_28 (by decide) (by decide) (by decide)) dL_law_597 ?_
  refine lv_topi (fun v_29 ev_29 => ?_)
  obtain rfl : v_29 = v_6 := by rw [ev_29, ev_6, ev_28, ev_5]
  refine lv_aload_n hx hb dL_law_598 rfl (lv_at hl 0 rfl) ?_
  refine lv_iload hx hb dL_law_599 (lv_at hl 4 rfl) ?_
  refine lv_iconst (v := 4) hx hb dL_law_601 (by decide) ?_
  refine lv_iadd hx hb dL_law_602 ?_
  refine lv_topi (fun v_30 ev_30 => ?_)
  refine va_sld hx hb hX hbl hbA hS (my_si (k := 4) hi hJ hL ev_30 (by decide) (by decide) (by decide)) dL_law_603 ?_
  refine lv_topi (fun v_31 ev_31 => ?_)
  obtain rfl : v_31 = v_8 := by rw [ev_31, ev_8, ev_30, ev_7]
  refine lv_aload_n hx hb dL_law_604 rfl (lv_at hl 0 rfl) ?_
  refine lv_iload hx hb dL_law_605 (lv_at hl 4 rfl) ?_
  refine lv_iconst (v := 5) hx hb dL_law_607 (by decide) ?_
  refine lv_iadd hx hb dL_law_608 ?_
  refine lv_topi (fun v_32 ev_32 => ?_)
  refine va_sld hx hb hX hbl hbA hS (my_si (k := 5) hi hJ hL ev_32 (by decide) (by decide) (by decide)) dL_law_609 ?_
  refine lv_topi (fun v_33 ev_33 => ?_)
  obtain rfl : v_33 = v_10 := by rw [ev_33, ev_10, ev_32, ev_9]
  refine lv_aload_n hx hb dL_law_610 rfl (lv_at hl 0 rfl) ?_
  refine lv_iload hx hb dL_law_611 (lv_at hl 4 rfl) ?_
  refine lv_bipush (v := 6) hx hb dL_law_613 (by decide) ?_
  refine lv_iadd hx hb dL_law_615 ?_
  refine lv_topi (fun v_34 ev_34 => ?_)
  refine va_sld hx hb hX hbl hbA hS (my_si (k := 6) hi hJ hL ev_34 (by decide) (by decide) (by decide)) dL_law_616 ?_
  refine lv_topi (fun v_35 ev_35 => ?_)
  obtain rfl : v_35 = v_12 := by rw [ev_35, ev_12, ev_34, ev_11]
  obtain ⟨fv, wd, ar, gv, gw, gr, fO, gla, gfr, gra, grc, gln, gcn, glr, ce, ef, hXX, hMM, hOO, hGG, h00, hNN, hLL, hEE⟩ := hI
  have hFM : ∀ q, aM h adm H.size q → A q := fun q w => hA q (w.elim (fun ⟨k, hk⟩ => hs.2.2.2.1 k q hk) (fun w => Nat.le_trans hS.1 w))
  refine va_calli (va_runV (As := [.int v_25, .int v_27, .int v_29, .int v_31, .int v_33, .int v_35]) (rest := []) ⟨hx, hb, hml, hown, hts⟩ (m_tripE l dC dI H.size h adm cAm hs.2.1 gv gw gr hMM.2.1 hMM.2.2.1 v_25 v_27 v_29 v_31 v_33 v_35) (cwV 6 hts (gV kw_8_44 kw_8_45 kw_8_46 kw_1_15 kw_8_47) rfl rfl rfl (by decide +kernel) ⟨Nat.le_of_ble_eq_true rfl, Nat.le_of_ble_eq_true rfl⟩) ⟨fun a U g mk q => ⟨q.1, q.2.1, q.2.2.1, va_K.moved (u := U) (U := U.calling g mk a) (Vm.Alike.refl U.vm) q.2.2.2⟩, va_recv hKM hMM.1 (ci := 12) (q0 := 0) rfl rfl, fun U hU hW => ⟨rfl, by rw [hU], by rw [hU]; exact hMM.1, va_K.moved hW.alike hKM⟩⟩ rfl rfl hl.1 rfl (lv_room (Nat.le_of_ble_eq_true rfl)) dL_law_617 (my_le (by omega) (by omega))) hS (fun q _ w => hFM q w) hFM (fun r_36 u t H1 locs ht hvm hw hB hz1 hk1 hS => ?_)
  obtain ⟨f_37, w_38, a_39⟩ := u
  obtain ⟨c_40, c_41, c_42, c_43, c_44, c_45⟩ := hw
  have hP1 : va_P (dC, dI) vwCl (wsM h adm cAm f_37 w_38 a_39) H1 := by have h9 := hB.1; rw [ht] at h9; exact h9
  have hnx2 : ps_trip r_36 (f_37 35) (td 3) (td 2) (td 1) (td 0) v_25 v_27 v_29 v_31 v_33 v_35 := by have h9 : ps_trip r_36 (f_37 35) (gv 35) (gv 34) (gv 33) (gv 3) v_25 v_27 v_29 v_31 v_33 v_35 := c_44; rw [show gv 35 = td 3 from hMM.2.2.2.2.2.2.2.2.1, show gv 34 = td 2 from hMM.2.2.2.2.2.2.2.1, show gv 33 = td 1 from hMM.2.2.2.2.2.2.1, show gv 3 = td 0 from hMM.2.2.2.2.2.1] at h9; exact h9
  have hnx : r_13 = r_36 ∧ f_14 12 = f_37 35 := ps_trip_det hnx1 hnx2
  have hI : inV s dC dI ob ad cA h adm cAm yO kO tA tD (va_up td 3 (f_14 12)) (va_up td 3 (f_37 35)) H1 := inv_m (gv := gv) (gw := gw) (gr := gr) (tM := td) hs hXX hOO hGG h00 hNN hLL hEE hP1 c_40 c_41 (vM_fr hMM.2.2.2.1 c_42 c_43 rfl rfl rfl rfl rfl) (sW_fr hMM.2.2.2.2.1 c_43 rfl rfl) ⟨((c_42 3 rfl).trans hMM.2.2.2.2.2.1), ((c_42 33 rfl).trans hMM.2.2.2.2.2.2.1), ((c_42 34 rfl).trans hMM.2.2.2.2.2.2.2.1), rfl, ((c_42 6 rfl).trans hMM.2.2.2.2.2.2.2.2.2.1), ((c_42 2 rfl).trans hMM.2.2.2.2.2.2.2.2.2.2)⟩ hz1 hk1
  generalize H1 = H at hI hS ⊢
  refine lv_pop hx hb dL_law_620 rfl ?_
  refine lv_goto (tgt := 1014) hx hb dL_law_621 (by decide) ?_
  refine W.widen (k := nc + 9) (n := ns + 371) (by omega) (by omega) ?_
  rw [← hnx.2] at hI
  exact kk _ _ _ _ hI hS (lv_sub hl [0, 1, 2, 3, 4] rfl)
set_option maxHeartbeats 4000000 in
set_option maxRecDepth 100000 in
theorem law_10 {p : Program} {e : Env} {s : State} {m : MethodId} {below : List Frame} {meth : Method} {c : Code} (l : Launch) {b L : Nat} {xs : Nat → Int32} (hL : L ≤ 3584) (hl0 : l.stackTraces = false) (C0 : lw_At p s m meth c b L xs) {A : Nat → Prop} (hAe : A = fun q => s.heap.size ≤ q) {dC : Nat → ClassId} {dI : Nat → Nat → Nat} {ob ad : Nat → Nat} {cA : Nat → ClassId} {h : Nat} {adm : Nat → Nat} {cAm : Nat → ClassId} {yO : Nat} {kO : ClassId} {tA : Nat → Nat} {tD : Nat} {tkK tkV tkL : Nat → Nat} {tkB : Nat → Nat → Int32} {tkT sN : Nat} (hs : iSep s ob ad h adm yO) (hKX : va_K (dC, dI) vwCl (tyX cA) s) (hKM : va_K (dC, dI) vwCl (tyM cAm) s) (hKO : va_K (dC, dI) vwCl [(kO, .long)] s) (hst : iSt s A tA tkK tkV tkL tkB tkT sN tD) (H : Heap) (locs : List Loc) (td : Nat → Int32) (hI : inV s dC dI ob ad cA h adm cAm yO kO tA tD td td H) (hS : va_S A s.heap H locs) (i : Int32) (J : Nat) (hi : i.toInt = (J : Int)) (hJ : J + 7 ≤ L) (nc ns : Nat) (hnc : nc + 9 ≤ 741096) (hns : ns + 371 ≤ 6872816) (ls : Array Slot) (hl : lv_has ls 7 [(0, .ref b), (1, .ref (ob 0)), (2, .ref h), (3, .ref yO), (4, .int i)]) (kk : ∀ (H : Heap) (locs : List Loc) (td : Nat → Int32) (ls : Array Slot), inV s dC dI ob ad cA h adm cAm yO kO tA tD td td H → va_S A s.heap H locs → lv_has ls 7 [(0, .ref b), (1, .ref (ob 0)), (2, .ref h), (3, .ref yO), (4, .int i)] → W p l e room_1 s m #[Value.ref b] below meth c H locs (nc + 9) (ns + 371) (lw_Z below #[Value.ref b] s) (F0 m 1014 ls [])) : W p l e room_1 s m #[Value.ref b] below meth c H locs nc ns (lw_Z below #[Value.ref b] s) (F0 m 624 ls []) := by
  obtain ⟨hx, hb, hr, hml, hown, hts0, hX, hbl, hlocks, hgv⟩ := id C0
  have hb : c.code = cL_law := hb
  have hown : s.vm.findClass RL = some m.cls := hown
  have hts : ∀ w ∈ (.initialized RL :: lw_good : List Cond), w.before #[Value.ref b] s = true := fun w h => (List.mem_cons.mp h).elim (fun q => by rw [q]; exact hts0 _ (lwgT kw_1_0)) (fun q => hts0 w (lwgT q))
  have hA : ∀ q : Nat, s.heap.size ≤ q → A q := fun q h => by rw [hAe]; exact h
  have hbA : ¬ A b := by rw [hAe]; exact Nat.not_le.mpr hbl
  refine lv_aload_n hx hb dL_law_624 rfl (lv_at hl 1 rfl) ?_
  obtain ⟨fv, wd, ar, gv, gw, gr, fO, gla, gfr, gra, grc, gln, gcn, glr, ce, ef, hXX, hMM, hOO, hGG, h00, hNN, hLL, hEE⟩ := hI
  have hFX : ∀ q, aX ob ad H.size q → A q := fun q w => hA q (w.elim (fun ⟨k, hk⟩ => hs.2.2.1 k q hk) (fun w => Nat.le_trans hS.1 w))
  refine va_calli (va_runV (As := []) (rest := []) ⟨hx, hb, hml, hown, hts⟩ (x_rainE l dC dI H.size ob ad cA hs.1 fv wd ar hXX.2.1 hXX.2.2.1 ) (cwV 0 hts (gV kw_3_218 kw_3_219 kw_3_220 kw_1_1 kw_3_221) rfl rfl rfl (by decide +kernel) ⟨Nat.le_of_ble_eq_true rfl, Nat.le_of_ble_eq_true rfl⟩) ⟨fun a U g mk q => ⟨q.1, q.2.1, q.2.2.1, va_K.moved (u := U) (U := U.calling g mk a) (Vm.Alike.refl U.vm) q.2.2.2⟩, va_recv hKX hXX.1 (ci := 11) (q0 := 0) rfl rfl, fun U hU hW => ⟨rfl, by rw [hU], by rw [hU]; exact hXX.1, va_K.moved hW.alike hKX⟩⟩ rfl rfl hl.1 rfl (lv_room (Nat.le_of_ble_eq_true rfl)) dL_law_625 (my_le (by omega) (by omega))) hS (fun q _ w => hFX q w) hFX (fun r_1 u t H1 locs ht hvm hw hB hz1 hk1 hS => ?_)
  obtain ⟨f_2, w_3, a_4⟩ := u
  obtain ⟨c_5, c_6, c_7, c_8, c_9, c_10, c_11, c_12⟩ := hw
  have hP1 : va_P (dC, dI) vwCl (wsX ob ad cA f_2 w_3 a_4) H1 := by have h9 := hB.1; rw [ht] at h9; exact h9
  have hnx1 : (f_2 0).toInt = 0 := c_11
  have hI : inV s dC dI ob ad cA h adm cAm yO kO tA tD (va_up td 5 (f_2 0)) td H1 := inv_x (ar := ar) (tX := td) hs hMM hOO hGG h00 hNN hLL hEE hP1 c_5 c_6 (my_tO hXX.2.2.2.1 (congrArg (fun z => z.1) c_9)) ⟨((c_7 7 rfl).trans hXX.2.2.2.2.1), ((c_7 4 rfl).trans hXX.2.2.2.2.2.1), ((c_7 11 rfl).trans hXX.2.2.2.2.2.2.1), ((c_7 12 rfl).trans hXX.2.2.2.2.2.2.2.1), ((c_7 9 rfl).trans hXX.2.2.2.2.2.2.2.2.1), rfl⟩ (c_7 30 rfl) (congrArg (fun z => z.2.2) c_9) hz1 hk1
  generalize H1 = H at hI hS ⊢
  refine lv_pop hx hb dL_law_628 rfl ?_
  refine lv_aload_n hx hb dL_law_629 rfl (lv_at hl 2 rfl) ?_
  obtain ⟨fv, wd, ar, gv, gw, gr, fO, gla, gfr, gra, grc, gln, gcn, glr, ce, ef, hXX, hMM, hOO, hGG, h00, hNN, hLL, hEE⟩ := hI
  have hFM : ∀ q, aM h adm H.size q → A q := fun q w => hA q (w.elim (fun ⟨k, hk⟩ => hs.2.2.2.1 k q hk) (fun w => Nat.le_trans hS.1 w))
  refine va_calli (va_runV (As := []) (rest := []) ⟨hx, hb, hml, hown, hts⟩ (m_rainE l dC dI H.size h adm cAm hs.2.1 gv gw gr hMM.2.1 hMM.2.2.1 ) (cwV 0 hts (gV kw_8_1 kw_8_2 kw_8_3 kw_1_15 kw_8_4) rfl rfl rfl (by decide +kernel) ⟨Nat.le_of_ble_eq_true rfl, Nat.le_of_ble_eq_true rfl⟩) ⟨fun a U g mk q => ⟨q.1, q.2.1, q.2.2.1, va_K.moved (u := U) (U := U.calling g mk a) (Vm.Alike.refl U.vm) q.2.2.2⟩, va_recv hKM hMM.1 (ci := 12) (q0 := 0) rfl rfl, fun U hU hW => ⟨rfl, by rw [hU], by rw [hU]; exact hMM.1, va_K.moved hW.alike hKM⟩⟩ rfl rfl hl.1 rfl (lv_room (Nat.le_of_ble_eq_true rfl)) dL_law_630 (my_le (by omega) (by omega))) hS (fun q _ w => hFM q w) hFM (fun r_13 u t H1 locs ht hvm hw hB hz1 hk1 hS => ?_)
  obtain ⟨f_14, w_15, a_16⟩ := u
  obtain ⟨c_17, c_18, c_19, c_20, c_21, c_22, c_23⟩ := hw
  have hP1 : va_P (dC, dI) vwCl (wsM h adm cAm f_14 w_15 a_16) H1 := by have h9 := hB.1; rw [ht] at h9; exact h9
  have hnx : True ∧ f_2 0 = f_14 2 := ⟨trivial, Int32.toInt_inj.mp (hnx1.trans (show (f_14 2).toInt = 0 from c_22).symm)⟩
  have hI : inV s dC dI ob ad cA h adm cAm yO kO tA tD (va_up td 5 (f_2 0)) (va_up td 5 (f_14 2)) H1 := inv_m (gv := gv) (gw := gw) (gr := gr) (tM := td) hs hXX hOO hGG h00 hNN hLL hEE hP1 c_17 c_18 (vM_fr hMM.2.2.2.1 c_19 c_20 rfl rfl rfl rfl rfl) (sW_fr hMM.2.2.2.2.1 c_20 rfl rfl) ⟨((c_19 3 rfl).trans hMM.2.2.2.2.2.1), ((c_19 33 rfl).trans hMM.2.2.2.2.2.2.1), ((c_19 34 rfl).trans hMM.2.2.2.2.2.2.2.1), ((c_19 35 rfl).trans hMM.2.2.2.2.2.2.2.2.1), ((c_19 6 rfl).trans hMM.2.2.2.2.2.2.2.2.2.1), rfl⟩ hz1 hk1
  generalize H1 = H at hI hS ⊢
  refine lv_pop hx hb dL_law_633 rfl ?_
  refine lv_goto (tgt := 1014) hx hb dL_law_634 (by decide) ?_
  refine W.widen (k := nc + 9) (n := ns + 371) (by omega) (by omega) ?_
  rw [← hnx.2] at hI
  exact kk _ _ _ _ hI hS (lv_sub hl [0, 1, 2, 3, 4] rfl)
set_option maxHeartbeats 4000000 in
set_option maxRecDepth 100000 in
theorem law_11 {p : Program} {e : Env} {s : State} {m : MethodId} {below : List Frame} {meth : Method} {c : Code} (l : Launch) {b L : Nat} {xs : Nat → Int32} (hL : L ≤ 3584) (hl0 : l.stackTraces = false) (C0 : lw_At p s m meth c b L xs) {A : Nat → Prop} (hAe : A = fun q => s.heap.size ≤ q) {dC : Nat → ClassId} {dI : Nat → Nat → Nat} {ob ad : Nat → Nat} {cA : Nat → ClassId} {h : Nat} {adm : Nat → Nat} {cAm : Nat → ClassId} {yO : Nat} {kO : ClassId} {tA : Nat → Nat} {tD : Nat} {tkK tkV tkL : Nat → Nat} {tkB : Nat → Nat → Int32} {tkT sN : Nat} (hs : iSep s ob ad h adm yO) (hKX : va_K (dC, dI) vwCl (tyX cA) s) (hKM : va_K (dC, dI) vwCl (tyM cAm) s) (hKO : va_K (dC, dI) vwCl [(kO, .long)] s) (hst : iSt s A tA tkK tkV tkL tkB tkT sN tD) (H : Heap) (locs : List Loc) (td : Nat → Int32) (hI : inV s dC dI ob ad cA h adm cAm yO kO tA tD td td H) (hS : va_S A s.heap H locs) (i : Int32) (J : Nat) (hi : i.toInt = (J : Int)) (hJ : J + 7 ≤ L) (nc ns : Nat) (hnc : nc + 9 ≤ 741096) (hns : ns + 371 ≤ 6872816) (ls : Array Slot) (hl : lv_has ls 7 [(0, .ref b), (1, .ref (ob 0)), (2, .ref h), (3, .ref yO), (4, .int i)]) (kk : ∀ (H : Heap) (locs : List Loc) (td : Nat → Int32) (ls : Array Slot), inV s dC dI ob ad cA h adm cAm yO kO tA tD td td H → va_S A s.heap H locs → lv_has ls 7 [(0, .ref b), (1, .ref (ob 0)), (2, .ref h), (3, .ref yO), (4, .int i)] → W p l e room_1 s m #[Value.ref b] below meth c H locs (nc + 9) (ns + 371) (lw_Z below #[Value.ref b] s) (F0 m 1014 ls [])) : W p l e room_1 s m #[Value.ref b] below meth c H locs nc ns (lw_Z below #[Value.ref b] s) (F0 m 637 ls []) := by
  obtain ⟨hx, hb, hr, hml, hown, hts0, hX, hbl, hlocks, hgv⟩ := id C0
  have hb : c.code = cL_law := hb
  have hown : s.vm.findClass RL = some m.cls := hown
  have hts : ∀ w ∈ (.initialized RL :: lw_good : List Cond), w.before #[Value.ref b] s = true := fun w h => (List.mem_cons.mp h).elim (fun q => by rw [q]; exact hts0 _ (lwgT kw_1_0)) (fun q => hts0 w (lwgT q))
  have hA : ∀ q : Nat, s.heap.size ≤ q → A q := fun q h => by rw [hAe]; exact h
  have hbA : ¬ A b := by rw [hAe]; exact Nat.not_le.mpr hbl
  refine lv_aload_n hx hb dL_law_637 rfl (lv_at hl 1 rfl) ?_
  refine lv_aload_n hx hb dL_law_638 rfl (lv_at hl 0 rfl) ?_
  refine lv_iload hx hb dL_law_639 (lv_at hl 4 rfl) ?_
  refine lv_iconst (v := 1) hx hb dL_law_641 (by decide) ?_
  refine lv_iadd hx hb dL_law_642 ?_
  refine lv_topi (fun v_1 ev_1 => ?_)
  refine va_sld hx hb hX hbl hbA hS (my_si (k := 1) hi hJ hL ev_1 (by decide) (by decide) (by decide)) dL_law_643 ?_
  refine lv_topi (fun v_2 ev_2 => ?_)
  obtain ⟨fv, wd, ar, gv, gw, gr, fO, gla, gfr, gra, grc, gln, gcn, glr, ce, ef, hXX, hMM, hOO, hGG, h00, hNN, hLL, hEE⟩ := hI
  have hFX : ∀ q, aX ob ad H.size q → A q := fun q w => hA q (w.elim (fun ⟨k, hk⟩ => hs.2.2.1 k q hk) (fun w => Nat.le_trans hS.1 w))
  refine va_calli (va_runV (As := [.int v_2]) (rest := []) ⟨hx, hb, hml, hown, hts⟩ (x_wet l dC dI H.size ob ad cA hs.1 fv wd ar hXX.2.1 hXX.2.2.1 v_2) (cwV 1 hts (gV kw_3_226 kw_3_227 kw_3_228 kw_1_1 kw_3_229) rfl rfl rfl (by decide +kernel) ⟨Nat.le_of_ble_eq_true rfl, Nat.le_of_ble_eq_true rfl⟩) ⟨fun a U g mk q => ⟨q.1, q.2.1, q.2.2.1, va_K.moved (u := U) (U := U.calling g mk a) (Vm.Alike.refl U.vm) q.2.2.2⟩, va_recv hKX hXX.1 (ci := 11) (q0 := 0) rfl rfl, fun U hU hW => ⟨rfl, by rw [hU], by rw [hU]; exact hXX.1, va_K.moved hW.alike hKX⟩⟩ rfl rfl hl.1 rfl (lv_room (Nat.le_of_ble_eq_true rfl)) dL_law_644 (my_le (by omega) (by omega))) hS (fun q _ w => hFX q w) hFX (fun r_3 u t H1 locs ht hvm hw hB hz1 hk1 hS => ?_)
  obtain ⟨f_4, w_5, a_6⟩ := u
  obtain ⟨c_7, c_8, c_9, c_10, c_11, c_12⟩ := hw
  have hP1 : va_P (dC, dI) vwCl (wsX ob ad cA f_4 w_5 a_6) H1 := by have h9 := hB.1; rw [ht] at h9; exact h9
  have hI : inV s dC dI ob ad cA h adm cAm yO kO tA tD td td H1 := inv_x (ar := ar) (tX := td) hs hMM hOO hGG h00 hNN hLL hEE hP1 c_7 c_8 (my_tO hXX.2.2.2.1 (congrArg (fun z => z.1) c_11)) ⟨((c_9 7 rfl).trans hXX.2.2.2.2.1), ((c_9 4 rfl).trans hXX.2.2.2.2.2.1), ((c_9 11 rfl).trans hXX.2.2.2.2.2.2.1), ((c_9 12 rfl).trans hXX.2.2.2.2.2.2.2.1), ((c_9 9 rfl).trans hXX.2.2.2.2.2.2.2.2.1), ((c_9 0 rfl).trans hXX.2.2.2.2.2.2.2.2.2)⟩ (c_9 30 rfl) (congrArg (fun z => z.2.2) c_11) hz1 hk1
  generalize H1 = H at hI hS ⊢
  refine lv_pop hx hb dL_law_647 rfl ?_
  refine lv_aload_n hx hb dL_law_648 rfl (lv_at hl 2 rfl) ?_
  refine lv_aload_n hx hb dL_law_649 rfl (lv_at hl 0 rfl) ?_
  refine lv_iload hx hb dL_law_650 (lv_at hl 4 rfl) ?_
  refine lv_iconst (v := 1) hx hb dL_law_652 (by decide) ?_
  refine lv_iadd hx hb dL_law_653 ?_
  refine lv_topi (fun v_13 ev_13 => ?_)
  refine va_sld hx hb hX hbl hbA hS (my_si (k := 1) hi hJ hL ev_13 (by decide) (by decide) (by decide)) dL_law_654 ?_
  refine lv_topi (fun v_14 ev_14 => ?_)
  obtain ⟨fv, wd, ar, gv, gw, gr, fO, gla, gfr, gra, grc, gln, gcn, glr, ce, ef, hXX, hMM, hOO, hGG, h00, hNN, hLL, hEE⟩ := hI
  have hFM : ∀ q, aM h adm H.size q → A q := fun q w => hA q (w.elim (fun ⟨k, hk⟩ => hs.2.2.2.1 k q hk) (fun w => Nat.le_trans hS.1 w))
  refine va_calli (va_runV (As := [.int v_14]) (rest := []) ⟨hx, hb, hml, hown, hts⟩ (m_wet l dC dI H.size h adm cAm hs.2.1 gv gw gr hMM.2.1 hMM.2.2.1 v_14) (cwV 1 hts (gV kw_8_9 kw_8_10 kw_8_11 kw_1_15 kw_8_12) rfl rfl rfl (by decide +kernel) ⟨Nat.le_of_ble_eq_true rfl, Nat.le_of_ble_eq_true rfl⟩) ⟨fun a U g mk q => ⟨q.1, q.2.1, q.2.2.1, va_K.moved (u := U) (U := U.calling g mk a) (Vm.Alike.refl U.vm) q.2.2.2⟩, va_recv hKM hMM.1 (ci := 12) (q0 := 0) rfl rfl, fun U hU hW => ⟨rfl, by rw [hU], by rw [hU]; exact hMM.1, va_K.moved hW.alike hKM⟩⟩ rfl rfl hl.1 rfl (lv_room (Nat.le_of_ble_eq_true rfl)) dL_law_655 (my_le (by omega) (by omega))) hS (fun q _ w => hFM q w) hFM (fun r_15 u t H1 locs ht hvm hw hB hz1 hk1 hS => ?_)
  obtain ⟨f_16, w_17, a_18⟩ := u
  obtain ⟨c_19, c_20, c_21, c_22, c_23⟩ := hw
  have hP1 : va_P (dC, dI) vwCl (wsM h adm cAm f_16 w_17 a_18) H1 := by have h9 := hB.1; rw [ht] at h9; exact h9
  have hI : inV s dC dI ob ad cA h adm cAm yO kO tA tD td td H1 := inv_m (gv := gv) (gw := gw) (gr := gr) (tM := td) hs hXX hOO hGG h00 hNN hLL hEE hP1 c_19 c_20 (vM_fr hMM.2.2.2.1 c_21 c_22 rfl rfl rfl rfl rfl) (sW_fr hMM.2.2.2.2.1 c_22 rfl rfl) ⟨((c_21 3 rfl).trans hMM.2.2.2.2.2.1), ((c_21 33 rfl).trans hMM.2.2.2.2.2.2.1), ((c_21 34 rfl).trans hMM.2.2.2.2.2.2.2.1), ((c_21 35 rfl).trans hMM.2.2.2.2.2.2.2.2.1), ((c_21 6 rfl).trans hMM.2.2.2.2.2.2.2.2.2.1), ((c_21 2 rfl).trans hMM.2.2.2.2.2.2.2.2.2.2)⟩ hz1 hk1
  generalize H1 = H at hI hS ⊢
  refine lv_pop hx hb dL_law_658 rfl ?_
  refine lv_goto (tgt := 1014) hx hb dL_law_659 (by decide) ?_
  refine W.widen (k := nc + 9) (n := ns + 371) (by omega) (by omega) ?_
  exact kk _ _ _ _ hI hS (lv_sub hl [0, 1, 2, 3, 4] rfl)
set_option maxHeartbeats 4000000 in
set_option maxRecDepth 100000 in
theorem law_12 {p : Program} {e : Env} {s : State} {m : MethodId} {below : List Frame} {meth : Method} {c : Code} (l : Launch) {b L : Nat} {xs : Nat → Int32} (hL : L ≤ 3584) (hl0 : l.stackTraces = false) (C0 : lw_At p s m meth c b L xs) {A : Nat → Prop} (hAe : A = fun q => s.heap.size ≤ q) {dC : Nat → ClassId} {dI : Nat → Nat → Nat} {ob ad : Nat → Nat} {cA : Nat → ClassId} {h : Nat} {adm : Nat → Nat} {cAm : Nat → ClassId} {yO : Nat} {kO : ClassId} {tA : Nat → Nat} {tD : Nat} {tkK tkV tkL : Nat → Nat} {tkB : Nat → Nat → Int32} {tkT sN : Nat} (hs : iSep s ob ad h adm yO) (hKX : va_K (dC, dI) vwCl (tyX cA) s) (hKM : va_K (dC, dI) vwCl (tyM cAm) s) (hKO : va_K (dC, dI) vwCl [(kO, .long)] s) (hst : iSt s A tA tkK tkV tkL tkB tkT sN tD) (H : Heap) (locs : List Loc) (td : Nat → Int32) (hI : inV s dC dI ob ad cA h adm cAm yO kO tA tD td td H) (hS : va_S A s.heap H locs) (i : Int32) (J : Nat) (hi : i.toInt = (J : Int)) (hJ : J + 7 ≤ L) (nc ns : Nat) (hnc : nc + 9 ≤ 741096) (hns : ns + 371 ≤ 6872816) (ls : Array Slot) (hl : lv_has ls 7 [(0, .ref b), (1, .ref (ob 0)), (2, .ref h), (3, .ref yO), (4, .int i)]) (kk : ∀ (H : Heap) (locs : List Loc) (td : Nat → Int32) (ls : Array Slot), inV s dC dI ob ad cA h adm cAm yO kO tA tD td td H → va_S A s.heap H locs → lv_has ls 7 [(0, .ref b), (1, .ref (ob 0)), (2, .ref h), (3, .ref yO), (4, .int i)] → W p l e room_1 s m #[Value.ref b] below meth c H locs (nc + 9) (ns + 371) (lw_Z below #[Value.ref b] s) (F0 m 1014 ls [])) : W p l e room_1 s m #[Value.ref b] below meth c H locs nc ns (lw_Z below #[Value.ref b] s) (F0 m 662 ls []) := by
  obtain ⟨hx, hb, hr, hml, hown, hts0, hX, hbl, hlocks, hgv⟩ := id C0
  have hb : c.code = cL_law := hb
  have hown : s.vm.findClass RL = some m.cls := hown
  have hts : ∀ w ∈ (.initialized RL :: lw_good : List Cond), w.before #[Value.ref b] s = true := fun w h => (List.mem_cons.mp h).elim (fun q => by rw [q]; exact hts0 _ (lwgT kw_1_0)) (fun q => hts0 w (lwgT q))
  have hA : ∀ q : Nat, s.heap.size ≤ q → A q := fun q h => by rw [hAe]; exact h
  have hbA : ¬ A b := by rw [hAe]; exact Nat.not_le.mpr hbl
  refine lv_aload_n hx hb dL_law_662 rfl (lv_at hl 1 rfl) ?_
  refine lv_aload_n hx hb dL_law_663 rfl (lv_at hl 0 rfl) ?_
  refine lv_iload hx hb dL_law_664 (lv_at hl 4 rfl) ?_
  refine lv_iconst (v := 1) hx hb dL_law_666 (by decide) ?_
  refine lv_iadd hx hb dL_law_667 ?_
  refine lv_topi (fun v_1 ev_1 => ?_)
  refine va_sld hx hb hX hbl hbA hS (my_si (k := 1) hi hJ hL ev_1 (by decide) (by decide) (by decide)) dL_law_668 ?_
  refine lv_topi (fun v_2 ev_2 => ?_)
  obtain ⟨fv, wd, ar, gv, gw, gr, fO, gla, gfr, gra, grc, gln, gcn, glr, ce, ef, hXX, hMM, hOO, hGG, h00, hNN, hLL, hEE⟩ := hI
  have hFX : ∀ q, aX ob ad H.size q → A q := fun q w => hA q (w.elim (fun ⟨k, hk⟩ => hs.2.2.1 k q hk) (fun w => Nat.le_trans hS.1 w))
  refine va_calli (va_runV (As := [.int v_2]) (rest := []) ⟨hx, hb, hml, hown, hts⟩ (x_give l dC dI H.size ob ad cA hs.1 fv wd ar hXX.2.1 hXX.2.2.1 v_2) (cwV 1 hts (gV kw_3_234 kw_3_235 kw_3_236 kw_1_1 kw_3_237) rfl rfl rfl (by decide +kernel) ⟨Nat.le_of_ble_eq_true rfl, Nat.le_of_ble_eq_true rfl⟩) ⟨fun a U g mk q => ⟨q.1, q.2.1, q.2.2.1, va_K.moved (u := U) (U := U.calling g mk a) (Vm.Alike.refl U.vm) q.2.2.2⟩, va_recv hKX hXX.1 (ci := 11) (q0 := 0) rfl rfl, fun U hU hW => ⟨rfl, by rw [hU], by rw [hU]; exact hXX.1, va_K.moved hW.alike hKX⟩⟩ rfl rfl hl.1 rfl (lv_room (Nat.le_of_ble_eq_true rfl)) dL_law_669 (my_le (by omega) (by omega))) hS (fun q _ w => hFX q w) hFX (fun r_3 u t H1 locs ht hvm hw hB hz1 hk1 hS => ?_)
  obtain ⟨f_4, w_5, a_6⟩ := u
  obtain ⟨c_7, c_8, c_9, c_10, c_11, c_12⟩ := hw
  have hP1 : va_P (dC, dI) vwCl (wsX ob ad cA f_4 w_5 a_6) H1 := by have h9 := hB.1; rw [ht] at h9; exact h9
  have hI : inV s dC dI ob ad cA h adm cAm yO kO tA tD td td H1 := inv_x (ar := ar) (tX := td) hs hMM hOO hGG h00 hNN hLL hEE hP1 c_7 c_8 (my_tO hXX.2.2.2.1 (congrArg (fun z => z.1) c_11)) ⟨((c_9 7 rfl).trans hXX.2.2.2.2.1), ((c_9 4 rfl).trans hXX.2.2.2.2.2.1), ((c_9 11 rfl).trans hXX.2.2.2.2.2.2.1), ((c_9 12 rfl).trans hXX.2.2.2.2.2.2.2.1), ((c_9 9 rfl).trans hXX.2.2.2.2.2.2.2.2.1), ((c_9 0 rfl).trans hXX.2.2.2.2.2.2.2.2.2)⟩ (c_9 30 rfl) (congrArg (fun z => z.2.2) c_11) hz1 hk1
  generalize H1 = H at hI hS ⊢
  refine lv_pop hx hb dL_law_672 rfl ?_
  refine lv_aload_n hx hb dL_law_673 rfl (lv_at hl 2 rfl) ?_
  refine lv_aload_n hx hb dL_law_674 rfl (lv_at hl 0 rfl) ?_
  refine lv_iload hx hb dL_law_675 (lv_at hl 4 rfl) ?_
  refine lv_iconst (v := 1) hx hb dL_law_677 (by decide) ?_
  refine lv_iadd hx hb dL_law_678 ?_
  refine lv_topi (fun v_13 ev_13 => ?_)
  refine va_sld hx hb hX hbl hbA hS (my_si (k := 1) hi hJ hL ev_13 (by decide) (by decide) (by decide)) dL_law_679 ?_
  refine lv_topi (fun v_14 ev_14 => ?_)
  obtain ⟨fv, wd, ar, gv, gw, gr, fO, gla, gfr, gra, grc, gln, gcn, glr, ce, ef, hXX, hMM, hOO, hGG, h00, hNN, hLL, hEE⟩ := hI
  have hFM : ∀ q, aM h adm H.size q → A q := fun q w => hA q (w.elim (fun ⟨k, hk⟩ => hs.2.2.2.1 k q hk) (fun w => Nat.le_trans hS.1 w))
  refine va_calli (va_runV (As := [.int v_14]) (rest := []) ⟨hx, hb, hml, hown, hts⟩ (m_give l dC dI H.size h adm cAm hs.2.1 gv gw gr hMM.2.1 hMM.2.2.1 v_14) (cwV 1 hts (gV kw_8_48 kw_8_49 kw_8_50 kw_1_15 kw_8_51) rfl rfl rfl (by decide +kernel) ⟨Nat.le_of_ble_eq_true rfl, Nat.le_of_ble_eq_true rfl⟩) ⟨fun a U g mk q => ⟨q.1, q.2.1, q.2.2.1, va_K.moved (u := U) (U := U.calling g mk a) (Vm.Alike.refl U.vm) q.2.2.2⟩, va_recv hKM hMM.1 (ci := 12) (q0 := 0) rfl rfl, fun U hU hW => ⟨rfl, by rw [hU], by rw [hU]; exact hMM.1, va_K.moved hW.alike hKM⟩⟩ rfl rfl hl.1 rfl (lv_room (Nat.le_of_ble_eq_true rfl)) dL_law_680 (my_le (by omega) (by omega))) hS (fun q _ w => hFM q w) hFM (fun r_15 u t H1 locs ht hvm hw hB hz1 hk1 hS => ?_)
  obtain ⟨f_16, w_17, a_18⟩ := u
  obtain ⟨c_19, c_20, c_21, c_22, c_23⟩ := hw
  have hP1 : va_P (dC, dI) vwCl (wsM h adm cAm f_16 w_17 a_18) H1 := by have h9 := hB.1; rw [ht] at h9; exact h9
  have hI : inV s dC dI ob ad cA h adm cAm yO kO tA tD td td H1 := inv_m (gv := gv) (gw := gw) (gr := gr) (tM := td) hs hXX hOO hGG h00 hNN hLL hEE hP1 c_19 c_20 (vM_fr hMM.2.2.2.1 c_21 c_22 rfl rfl rfl rfl rfl) (sW_fr hMM.2.2.2.2.1 c_22 rfl rfl) ⟨((c_21 3 rfl).trans hMM.2.2.2.2.2.1), ((c_21 33 rfl).trans hMM.2.2.2.2.2.2.1), ((c_21 34 rfl).trans hMM.2.2.2.2.2.2.2.1), ((c_21 35 rfl).trans hMM.2.2.2.2.2.2.2.2.1), ((c_21 6 rfl).trans hMM.2.2.2.2.2.2.2.2.2.1), ((c_21 2 rfl).trans hMM.2.2.2.2.2.2.2.2.2.2)⟩ hz1 hk1
  generalize H1 = H at hI hS ⊢
  refine lv_pop hx hb dL_law_683 rfl ?_
  refine lv_goto (tgt := 1014) hx hb dL_law_684 (by decide) ?_
  refine W.widen (k := nc + 9) (n := ns + 371) (by omega) (by omega) ?_
  exact kk _ _ _ _ hI hS (lv_sub hl [0, 1, 2, 3, 4] rfl)
set_option maxHeartbeats 4000000 in
set_option maxRecDepth 100000 in
theorem law_13 {p : Program} {e : Env} {s : State} {m : MethodId} {below : List Frame} {meth : Method} {c : Code} (l : Launch) {b L : Nat} {xs : Nat → Int32} (hL : L ≤ 3584) (hl0 : l.stackTraces = false) (C0 : lw_At p s m meth c b L xs) {A : Nat → Prop} (hAe : A = fun q => s.heap.size ≤ q) {dC : Nat → ClassId} {dI : Nat → Nat → Nat} {ob ad : Nat → Nat} {cA : Nat → ClassId} {h : Nat} {adm : Nat → Nat} {cAm : Nat → ClassId} {yO : Nat} {kO : ClassId} {tA : Nat → Nat} {tD : Nat} {tkK tkV tkL : Nat → Nat} {tkB : Nat → Nat → Int32} {tkT sN : Nat} (hs : iSep s ob ad h adm yO) (hKX : va_K (dC, dI) vwCl (tyX cA) s) (hKM : va_K (dC, dI) vwCl (tyM cAm) s) (hKO : va_K (dC, dI) vwCl [(kO, .long)] s) (hst : iSt s A tA tkK tkV tkL tkB tkT sN tD) (H : Heap) (locs : List Loc) (td : Nat → Int32) (hI : inV s dC dI ob ad cA h adm cAm yO kO tA tD td td H) (hS : va_S A s.heap H locs) (i : Int32) (J : Nat) (hi : i.toInt = (J : Int)) (hJ : J + 7 ≤ L) (nc ns : Nat) (hnc : nc + 9 ≤ 741096) (hns : ns + 371 ≤ 6872816) (ls : Array Slot) (hl : lv_has ls 7 [(0, .ref b), (1, .ref (ob 0)), (2, .ref h), (3, .ref yO), (4, .int i)]) (kk : ∀ (H : Heap) (locs : List Loc) (td : Nat → Int32) (ls : Array Slot), inV s dC dI ob ad cA h adm cAm yO kO tA tD td td H → va_S A s.heap H locs → lv_has ls 7 [(0, .ref b), (1, .ref (ob 0)), (2, .ref h), (3, .ref yO), (4, .int i)] → W p l e room_1 s m #[Value.ref b] below meth c H locs (nc + 9) (ns + 371) (lw_Z below #[Value.ref b] s) (F0 m 1014 ls [])) : W p l e room_1 s m #[Value.ref b] below meth c H locs nc ns (lw_Z below #[Value.ref b] s) (F0 m 687 ls []) := by
  obtain ⟨hx, hb, hr, hml, hown, hts0, hX, hbl, hlocks, hgv⟩ := id C0
  have hb : c.code = cL_law := hb
  have hown : s.vm.findClass RL = some m.cls := hown
  have hts : ∀ w ∈ (.initialized RL :: lw_good : List Cond), w.before #[Value.ref b] s = true := fun w h => (List.mem_cons.mp h).elim (fun q => by rw [q]; exact hts0 _ (lwgT kw_1_0)) (fun q => hts0 w (lwgT q))
  have hA : ∀ q : Nat, s.heap.size ≤ q → A q := fun q h => by rw [hAe]; exact h
  have hbA : ¬ A b := by rw [hAe]; exact Nat.not_le.mpr hbl
  refine lv_aload_n hx hb dL_law_687 rfl (lv_at hl 1 rfl) ?_
  refine lv_aload_n hx hb dL_law_688 rfl (lv_at hl 0 rfl) ?_
  refine lv_iload hx hb dL_law_689 (lv_at hl 4 rfl) ?_
  refine lv_iconst (v := 1) hx hb dL_law_691 (by decide) ?_
  refine lv_iadd hx hb dL_law_692 ?_
  refine lv_topi (fun v_1 ev_1 => ?_)
  refine va_sld hx hb hX hbl hbA hS (my_si (k := 1) hi hJ hL ev_1 (by decide) (by decide) (by decide)) dL_law_693 ?_
  refine lv_topi (fun v_2 ev_2 => ?_)
  obtain ⟨fv, wd, ar, gv, gw, gr, fO, gla, gfr, gra, grc, gln, gcn, glr, ce, ef, hXX, hMM, hOO, hGG, h00, hNN, hLL, hEE⟩ := hI
  have hFX : ∀ q, aX ob ad H.size q → A q := fun q w => hA q (w.elim (fun ⟨k, hk⟩ => hs.2.2.1 k q hk) (fun w => Nat.le_trans hS.1 w))
  have hsz0 := hS.1
  have hFB : ∀ q, (aX ob ad H.size q ∨ (0 < (fv 30).toInt ∧ q = wd.2.2.2)) → A q := fun q w => w.elim (hFX q) (fun w => hA q (by rw [w.2]; exact (hEE w.1).2.1))
  refine va_calli (va_runV (As := [.int v_2]) (rest := []) ⟨hx, hb, hml, hown, hts⟩ (x_bylaw l dC dI H.size ob ad cA hs.1 fv wd ar hXX.2.1 hXX.2.2.1 tkK tkV tkL tkB tkT tA hXX.2.2.2.1 v_2 tD gla gfr gra grc gln gcn glr ce ef h00 hNN (fun i hi j => ((hLL i hi).2 j).1)) (cwV 1 hts (gV kw_4_1 kw_4_2 kw_4_3 kw_1_1 kw_4_4) rfl rfl rfl (by decide +kernel) ⟨Nat.le_of_ble_eq_true rfl, Nat.le_of_ble_eq_true rfl⟩) ⟨fun a U g mk q => by obtain ⟨q0, ⟨q1, qP, qK⟩, qE, qX, qG, qZ0, qZ1, qZ2, qZ3⟩ := q; exact ⟨q0, ⟨q1, qP, va_K.moved (u := U) (U := U.calling g mk a) (Vm.Alike.refl U.vm) qK⟩, tk_mv (U := U.calling g mk a) rfl (Vm.Alike.refl U.vm) qE, tx_mv (U := U.calling g mk a) rfl (Vm.Alike.refl U.vm) qX, ls_mv (U := U.calling g mk a) rfl (Vm.Alike.refl U.vm) qG, qZ0.moved (u := U) (U := U.calling g mk a) (Vm.Alike.refl U.vm), qZ1.moved (u := U) (U := U.calling g mk a) (Vm.Alike.refl U.vm), va_AO.moved (u := U) (U := U.calling g mk a) (Vm.Alike.refl U.vm) qZ2, va_Nw.same (u := U) (U := U.calling g mk a) rfl rfl qZ3⟩, va_recv hKX hXX.1 (ci := 11) (q0 := 0) rfl rfl, fun U hU hW => ⟨rfl, ⟨by rw [hU], by rw [hU]; exact hXX.1, va_K.moved hW.alike hKX⟩, by unfold tkA; rw [hU]; exact ((va_En.kept hst.1 hS.2.1).narrow hFX).moved hW.alike, tx_from hst.2.1 hst.2.2.1 hst.2.2.2.1 hS hFX hU hW.alike, hGG U hU hW.alike, by rw [hU]; exact ((hst.2.2.2.2.1.kept hS.2.1).narrow hFB).moved hW.alike, by rw [hU]; exact ((hst.2.2.2.2.2.1.kept hS.2.1).narrow hFB).moved hW.alike, va_AO.moved hW.alike hst.2.2.2.2.2.2.1, va_Nw.warmC hW hst.2.2.2.2.2.2.2.1⟩⟩ rfl rfl hl.1 rfl (lv_room (Nat.le_of_ble_eq_true rfl)) dL_law_694 (my_le (by omega) (by omega))) hS (fun q _ w => hFB q w) hFB (fun r_3 u t H1 locs ht hvm hw hB hz1 hk1 hS => ?_)
  obtain ⟨f_4, w_5, a_6⟩ := u
  obtain ⟨c_7, c_8, c_9, c_10, c_11, c_12, c_13⟩ := hw
  have hP1 : va_P (dC, dI) vwCl (wsX ob ad cA f_4 w_5 a_6) H1 := by have h9 := hB.1.1; rw [ht] at h9; exact h9
  have hnx1 : (f_4 0).toInt = 0 := c_12
  have hI : inV s dC dI ob ad cA h adm cAm yO kO tA tD (va_up td 5 (f_4 0)) td H1 := inv_b (gfr := gfr) (grc := grc) (gln := gln) (gcn := gcn) (glr := glr) (ce := ce) (ef := ef) hs hXX hMM hOO hLL hEE hsz0 ht hvm hP1 c_7 c_8 c_11 ⟨((c_9 7 rfl).trans hXX.2.2.2.2.1), ((c_9 4 rfl).trans hXX.2.2.2.2.2.1), ((c_9 11 rfl).trans hXX.2.2.2.2.2.2.1), ((c_9 12 rfl).trans hXX.2.2.2.2.2.2.2.1), ((c_9 9 rfl).trans hXX.2.2.2.2.2.2.2.2.1), rfl⟩ hB.2 hz1 hk1
  generalize H1 = H at hI hS ⊢
  refine lv_pop hx hb dL_law_697 rfl ?_
  refine lv_aload_n hx hb dL_law_698 rfl (lv_at hl 2 rfl) ?_
  refine lv_aload_n hx hb dL_law_699 rfl (lv_at hl 0 rfl) ?_
  refine lv_iload hx hb dL_law_700 (lv_at hl 4 rfl) ?_
  refine lv_iconst (v := 1) hx hb dL_law_702 (by decide) ?_
  refine lv_iadd hx hb dL_law_703 ?_
  refine lv_topi (fun v_14 ev_14 => ?_)
  refine va_sld hx hb hX hbl hbA hS (my_si (k := 1) hi hJ hL ev_14 (by decide) (by decide) (by decide)) dL_law_704 ?_
  refine lv_topi (fun v_15 ev_15 => ?_)
  obtain rfl : v_15 = v_2 := by rw [ev_15, ev_2, ev_14, ev_1]
  obtain ⟨fv, wd, ar, gv, gw, gr, fO, gla, gfr, gra, grc, gln, gcn, glr, ce, ef, hXX, hMM, hOO, hGG, h00, hNN, hLL, hEE⟩ := hI
  have hFM : ∀ q, aM h adm H.size q → A q := fun q w => hA q (w.elim (fun ⟨k, hk⟩ => hs.2.2.2.1 k q hk) (fun w => Nat.le_trans hS.1 w))
  refine va_calli (va_runV (As := [.int v_15]) (rest := []) ⟨hx, hb, hml, hown, hts⟩ (m_bylawE l dC dI H.size h adm cAm hs.2.1 gv gw gr hMM.2.1 hMM.2.2.1 v_15 hMM.2.2.2.1) (cwV 1 hts (gV kw_8_56 kw_8_57 kw_8_58 kw_1_15 kw_8_59) rfl rfl rfl (by decide +kernel) ⟨Nat.le_of_ble_eq_true rfl, Nat.le_of_ble_eq_true rfl⟩) ⟨fun a U g mk q => ⟨q.1, q.2.1, q.2.2.1, va_K.moved (u := U) (U := U.calling g mk a) (Vm.Alike.refl U.vm) q.2.2.2⟩, va_recv hKM hMM.1 (ci := 12) (q0 := 0) rfl rfl, fun U hU hW => ⟨rfl, by rw [hU], by rw [hU]; exact hMM.1, va_K.moved hW.alike hKM⟩⟩ rfl rfl hl.1 rfl (lv_room (Nat.le_of_ble_eq_true rfl)) dL_law_705 (my_le (by omega) (by omega))) hS (fun q _ w => hFM q w) hFM (fun r_16 u t H1 locs ht hvm hw hB hz1 hk1 hS => ?_)
  obtain ⟨f_17, w_18, a_19⟩ := u
  obtain ⟨c_20, c_21, c_22, c_23, c_24, c_25, c_26⟩ := hw
  have hP1 : va_P (dC, dI) vwCl (wsM h adm cAm f_17 w_18 a_19) H1 := by have h9 := hB.1; rw [ht] at h9; exact h9
  have hnx : True ∧ f_4 0 = f_17 2 := ⟨trivial, Int32.toInt_inj.mp (hnx1.trans (show (f_17 2).toInt = 0 from c_24).symm)⟩
  have hI : inV s dC dI ob ad cA h adm cAm yO kO tA tD (va_up td 5 (f_4 0)) (va_up td 5 (f_17 2)) H1 := inv_m (gv := gv) (gw := gw) (gr := gr) (tM := td) hs hXX hOO hGG h00 hNN hLL hEE hP1 c_20 c_21 c_25 (sW_fr hMM.2.2.2.2.1 c_23 rfl rfl) ⟨((c_22 3 rfl).trans hMM.2.2.2.2.2.1), ((c_22 33 rfl).trans hMM.2.2.2.2.2.2.1), ((c_22 34 rfl).trans hMM.2.2.2.2.2.2.2.1), ((c_22 35 rfl).trans hMM.2.2.2.2.2.2.2.2.1), ((c_22 6 rfl).trans hMM.2.2.2.2.2.2.2.2.2.1), rfl⟩ hz1 hk1
  generalize H1 = H at hI hS ⊢
  refine lv_pop hx hb dL_law_708 rfl ?_
  refine lv_goto (tgt := 1014) hx hb dL_law_709 (by decide) ?_
  refine W.widen (k := nc + 9) (n := ns + 371) (by omega) (by omega) ?_
  rw [← hnx.2] at hI
  exact kk _ _ _ _ hI hS (lv_sub hl [0, 1, 2, 3, 4] rfl)
set_option maxHeartbeats 4000000 in
set_option maxRecDepth 100000 in
theorem law_14 {p : Program} {e : Env} {s : State} {m : MethodId} {below : List Frame} {meth : Method} {c : Code} (l : Launch) {b L : Nat} {xs : Nat → Int32} (hL : L ≤ 3584) (hl0 : l.stackTraces = false) (C0 : lw_At p s m meth c b L xs) {A : Nat → Prop} (hAe : A = fun q => s.heap.size ≤ q) {dC : Nat → ClassId} {dI : Nat → Nat → Nat} {ob ad : Nat → Nat} {cA : Nat → ClassId} {h : Nat} {adm : Nat → Nat} {cAm : Nat → ClassId} {yO : Nat} {kO : ClassId} {tA : Nat → Nat} {tD : Nat} {tkK tkV tkL : Nat → Nat} {tkB : Nat → Nat → Int32} {tkT sN : Nat} (hs : iSep s ob ad h adm yO) (hKX : va_K (dC, dI) vwCl (tyX cA) s) (hKM : va_K (dC, dI) vwCl (tyM cAm) s) (hKO : va_K (dC, dI) vwCl [(kO, .long)] s) (hst : iSt s A tA tkK tkV tkL tkB tkT sN tD) (H : Heap) (locs : List Loc) (td : Nat → Int32) (hI : inV s dC dI ob ad cA h adm cAm yO kO tA tD td td H) (hS : va_S A s.heap H locs) (i : Int32) (J : Nat) (hi : i.toInt = (J : Int)) (hJ : J + 7 ≤ L) (nc ns : Nat) (hnc : nc + 9 ≤ 741096) (hns : ns + 371 ≤ 6872816) (ls : Array Slot) (hl : lv_has ls 7 [(0, .ref b), (1, .ref (ob 0)), (2, .ref h), (3, .ref yO), (4, .int i)]) (kk : ∀ (H : Heap) (locs : List Loc) (td : Nat → Int32) (ls : Array Slot), inV s dC dI ob ad cA h adm cAm yO kO tA tD td td H → va_S A s.heap H locs → lv_has ls 7 [(0, .ref b), (1, .ref (ob 0)), (2, .ref h), (3, .ref yO), (4, .int i)] → W p l e room_1 s m #[Value.ref b] below meth c H locs (nc + 9) (ns + 371) (lw_Z below #[Value.ref b] s) (F0 m 1014 ls [])) : W p l e room_1 s m #[Value.ref b] below meth c H locs nc ns (lw_Z below #[Value.ref b] s) (F0 m 712 ls []) := by
  obtain ⟨hx, hb, hr, hml, hown, hts0, hX, hbl, hlocks, hgv⟩ := id C0
  have hb : c.code = cL_law := hb
  have hown : s.vm.findClass RL = some m.cls := hown
  have hts : ∀ w ∈ (.initialized RL :: lw_good : List Cond), w.before #[Value.ref b] s = true := fun w h => (List.mem_cons.mp h).elim (fun q => by rw [q]; exact hts0 _ (lwgT kw_1_0)) (fun q => hts0 w (lwgT q))
  have hA : ∀ q : Nat, s.heap.size ≤ q → A q := fun q h => by rw [hAe]; exact h
  have hbA : ¬ A b := by rw [hAe]; exact Nat.not_le.mpr hbl
  refine lv_aload_n hx hb dL_law_712 rfl (lv_at hl 1 rfl) ?_
  obtain ⟨fv, wd, ar, gv, gw, gr, fO, gla, gfr, gra, grc, gln, gcn, glr, ce, ef, hXX, hMM, hOO, hGG, h00, hNN, hLL, hEE⟩ := hI
  have hFX : ∀ q, aX ob ad H.size q → A q := fun q w => hA q (w.elim (fun ⟨k, hk⟩ => hs.2.2.1 k q hk) (fun w => Nat.le_trans hS.1 w))
  refine va_calli (va_runV (As := []) (rest := []) ⟨hx, hb, hml, hown, hts⟩ (x_fault l dC dI H.size ob ad cA hs.1 fv wd ar hXX.2.1 hXX.2.2.1 ) (cwV 0 hts (gV kw_4_229 kw_4_230 kw_4_231 kw_1_1 kw_4_232) rfl rfl rfl (by decide +kernel) ⟨Nat.le_of_ble_eq_true rfl, Nat.le_of_ble_eq_true rfl⟩) ⟨fun a U g mk q => ⟨q.1, q.2.1, q.2.2.1, va_K.moved (u := U) (U := U.calling g mk a) (Vm.Alike.refl U.vm) q.2.2.2⟩, va_recv hKX hXX.1 (ci := 11) (q0 := 0) rfl rfl, fun U hU hW => ⟨rfl, by rw [hU], by rw [hU]; exact hXX.1, va_K.moved hW.alike hKX⟩⟩ rfl rfl hl.1 rfl (lv_room (Nat.le_of_ble_eq_true rfl)) dL_law_713 (my_le (by omega) (by omega))) hS (fun q _ w => hFX q w) hFX (fun r_1 u t H1 locs ht hvm hw hB hz1 hk1 hS => ?_)
  obtain ⟨f_2, w_3, a_4⟩ := u
  obtain ⟨c_5, c_6, c_7, c_8, c_9, c_10⟩ := hw
  have hP1 : va_P (dC, dI) vwCl (wsX ob ad cA f_2 w_3 a_4) H1 := by have h9 := hB.1; rw [ht] at h9; exact h9
  have hI : inV s dC dI ob ad cA h adm cAm yO kO tA tD td td H1 := inv_x (ar := ar) (tX := td) hs hMM hOO hGG h00 hNN hLL hEE hP1 c_5 c_6 (my_tO hXX.2.2.2.1 (congrArg (fun z => z.1) c_9)) ⟨((c_7 7 rfl).trans hXX.2.2.2.2.1), ((c_7 4 rfl).trans hXX.2.2.2.2.2.1), ((c_7 11 rfl).trans hXX.2.2.2.2.2.2.1), ((c_7 12 rfl).trans hXX.2.2.2.2.2.2.2.1), ((c_7 9 rfl).trans hXX.2.2.2.2.2.2.2.2.1), ((c_7 0 rfl).trans hXX.2.2.2.2.2.2.2.2.2)⟩ (c_7 30 rfl) (congrArg (fun z => z.2.2) c_9) hz1 hk1
  generalize H1 = H at hI hS ⊢
  refine lv_pop hx hb dL_law_716 rfl ?_
  refine lv_aload_n hx hb dL_law_717 rfl (lv_at hl 2 rfl) ?_
  obtain ⟨fv, wd, ar, gv, gw, gr, fO, gla, gfr, gra, grc, gln, gcn, glr, ce, ef, hXX, hMM, hOO, hGG, h00, hNN, hLL, hEE⟩ := hI
  have hFM : ∀ q, aM h adm H.size q → A q := fun q w => hA q (w.elim (fun ⟨k, hk⟩ => hs.2.2.2.1 k q hk) (fun w => Nat.le_trans hS.1 w))
  refine va_calli (va_runV (As := []) (rest := []) ⟨hx, hb, hml, hown, hts⟩ (m_fault l dC dI H.size h adm cAm hs.2.1 gv gw gr hMM.2.1 hMM.2.2.1 ) (cwV 0 hts (gV kw_8_137 kw_8_138 kw_8_139 kw_1_15 kw_8_140) rfl rfl rfl (by decide +kernel) ⟨Nat.le_of_ble_eq_true rfl, Nat.le_of_ble_eq_true rfl⟩) ⟨fun a U g mk q => ⟨q.1, q.2.1, q.2.2.1, va_K.moved (u := U) (U := U.calling g mk a) (Vm.Alike.refl U.vm) q.2.2.2⟩, va_recv hKM hMM.1 (ci := 12) (q0 := 0) rfl rfl, fun U hU hW => ⟨rfl, by rw [hU], by rw [hU]; exact hMM.1, va_K.moved hW.alike hKM⟩⟩ rfl rfl hl.1 rfl (lv_room (Nat.le_of_ble_eq_true rfl)) dL_law_718 (my_le (by omega) (by omega))) hS (fun q _ w => hFM q w) hFM (fun r_11 u t H1 locs ht hvm hw hB hz1 hk1 hS => ?_)
  obtain ⟨f_12, w_13, a_14⟩ := u
  obtain ⟨c_15, c_16, c_17, c_18, c_19⟩ := hw
  have hP1 : va_P (dC, dI) vwCl (wsM h adm cAm f_12 w_13 a_14) H1 := by have h9 := hB.1; rw [ht] at h9; exact h9
  have hI : inV s dC dI ob ad cA h adm cAm yO kO tA tD td td H1 := inv_m (gv := gv) (gw := gw) (gr := gr) (tM := td) hs hXX hOO hGG h00 hNN hLL hEE hP1 c_15 c_16 (vM_fr hMM.2.2.2.1 c_17 c_18 rfl rfl rfl rfl rfl) (sW_fr hMM.2.2.2.2.1 c_18 rfl rfl) ⟨((c_17 3 rfl).trans hMM.2.2.2.2.2.1), ((c_17 33 rfl).trans hMM.2.2.2.2.2.2.1), ((c_17 34 rfl).trans hMM.2.2.2.2.2.2.2.1), ((c_17 35 rfl).trans hMM.2.2.2.2.2.2.2.2.1), ((c_17 6 rfl).trans hMM.2.2.2.2.2.2.2.2.2.1), ((c_17 2 rfl).trans hMM.2.2.2.2.2.2.2.2.2.2)⟩ hz1 hk1
  generalize H1 = H at hI hS ⊢
  refine lv_pop hx hb dL_law_721 rfl ?_
  refine lv_goto (tgt := 1014) hx hb dL_law_722 (by decide) ?_
  refine W.widen (k := nc + 9) (n := ns + 371) (by omega) (by omega) ?_
  exact kk _ _ _ _ hI hS (lv_sub hl [0, 1, 2, 3, 4] rfl)
set_option maxHeartbeats 4000000 in
set_option maxRecDepth 100000 in
theorem law_15 {p : Program} {e : Env} {s : State} {m : MethodId} {below : List Frame} {meth : Method} {c : Code} (l : Launch) {b L : Nat} {xs : Nat → Int32} (hL : L ≤ 3584) (hl0 : l.stackTraces = false) (C0 : lw_At p s m meth c b L xs) {A : Nat → Prop} (hAe : A = fun q => s.heap.size ≤ q) {dC : Nat → ClassId} {dI : Nat → Nat → Nat} {ob ad : Nat → Nat} {cA : Nat → ClassId} {h : Nat} {adm : Nat → Nat} {cAm : Nat → ClassId} {yO : Nat} {kO : ClassId} {tA : Nat → Nat} {tD : Nat} {tkK tkV tkL : Nat → Nat} {tkB : Nat → Nat → Int32} {tkT sN : Nat} (hs : iSep s ob ad h adm yO) (hKX : va_K (dC, dI) vwCl (tyX cA) s) (hKM : va_K (dC, dI) vwCl (tyM cAm) s) (hKO : va_K (dC, dI) vwCl [(kO, .long)] s) (hst : iSt s A tA tkK tkV tkL tkB tkT sN tD) (H : Heap) (locs : List Loc) (td : Nat → Int32) (hI : inV s dC dI ob ad cA h adm cAm yO kO tA tD td td H) (hS : va_S A s.heap H locs) (i : Int32) (J : Nat) (hi : i.toInt = (J : Int)) (hJ : J + 7 ≤ L) (nc ns : Nat) (hnc : nc + 9 ≤ 741096) (hns : ns + 371 ≤ 6872816) (ls : Array Slot) (hl : lv_has ls 7 [(0, .ref b), (1, .ref (ob 0)), (2, .ref h), (3, .ref yO), (4, .int i)]) (kk : ∀ (H : Heap) (locs : List Loc) (td : Nat → Int32) (ls : Array Slot), inV s dC dI ob ad cA h adm cAm yO kO tA tD td td H → va_S A s.heap H locs → lv_has ls 7 [(0, .ref b), (1, .ref (ob 0)), (2, .ref h), (3, .ref yO), (4, .int i)] → W p l e room_1 s m #[Value.ref b] below meth c H locs (nc + 9) (ns + 371) (lw_Z below #[Value.ref b] s) (F0 m 1014 ls [])) : W p l e room_1 s m #[Value.ref b] below meth c H locs nc ns (lw_Z below #[Value.ref b] s) (F0 m 725 ls []) := by
  obtain ⟨hx, hb, hr, hml, hown, hts0, hX, hbl, hlocks, hgv⟩ := id C0
  have hb : c.code = cL_law := hb
  have hown : s.vm.findClass RL = some m.cls := hown
  have hts : ∀ w ∈ (.initialized RL :: lw_good : List Cond), w.before #[Value.ref b] s = true := fun w h => (List.mem_cons.mp h).elim (fun q => by rw [q]; exact hts0 _ (lwgT kw_1_0)) (fun q => hts0 w (lwgT q))
  have hA : ∀ q : Nat, s.heap.size ≤ q → A q := fun q h => by rw [hAe]; exact h
  have hbA : ¬ A b := by rw [hAe]; exact Nat.not_le.mpr hbl
  refine lv_aload_n hx hb dL_law_725 rfl (lv_at hl 1 rfl) ?_
  refine lv_aload_n hx hb dL_law_726 rfl (lv_at hl 0 rfl) ?_
  refine lv_iload hx hb dL_law_727 (lv_at hl 4 rfl) ?_
  refine lv_iconst (v := 1) hx hb dL_law_729 (by decide) ?_
  refine lv_iadd hx hb dL_law_730 ?_
  refine lv_topi (fun v_1 ev_1 => ?_)
  refine va_sld hx hb hX hbl hbA hS (my_si (k := 1) hi hJ hL ev_1 (by decide) (by decide) (by decide)) dL_law_731 ?_
  refine lv_topi (fun v_2 ev_2 => ?_)
  refine lv_aload_n hx hb dL_law_732 rfl (lv_at hl 0 rfl) ?_
  refine lv_iload hx hb dL_law_733 (lv_at hl 4 rfl) ?_
  refine lv_iconst (v := 2) hx hb dL_law_735 (by decide) ?_
  refine lv_iadd hx hb dL_law_736 ?_
  refine lv_topi (fun v_3 ev_3 => ?_)
  refine va_sld hx hb hX hbl hbA hS (my_si (k := 2) hi hJ hL ev_3 (by decide) (by decide) (by decide)) dL_law_737 ?_
  refine lv_topi (fun v_4 ev_4 => ?_)
  refine lv_aload_n hx hb dL_law_738 rfl (lv_at hl 0 rfl) ?_
  refine lv_iload hx hb dL_law_739 (lv_at hl 4 rfl) ?_
  refine lv_iconst (v := 3) hx hb dL_law_741 (by decide) ?_
  refine lv_iadd hx hb dL_law_742 ?_
  refine lv_topi (fun v_5 ev_5 => ?_)
  refine va_sld hx hb hX hbl hbA hS (my_si (k := 3) hi hJ hL ev_5 (by decide) (by decide) (by decide)) dL_law_743 ?_
  refine lv_topi (fun v_6 ev_6 => ?_)
  refine lv_aload_n hx hb dL_law_744 rfl (lv_at hl 0 rfl) ?_
  refine lv_iload hx hb dL_law_745 (lv_at hl 4 rfl) ?_
  refine lv_iconst (v := 4) hx hb dL_law_747 (by decide) ?_
  refine lv_iadd hx hb dL_law_748 ?_
  refine lv_topi (fun v_7 ev_7 => ?_)
  refine va_sld hx hb hX hbl hbA hS (my_si (k := 4) hi hJ hL ev_7 (by decide) (by decide) (by decide)) dL_law_749 ?_
  refine lv_topi (fun v_8 ev_8 => ?_)
  obtain ⟨fv, wd, ar, gv, gw, gr, fO, gla, gfr, gra, grc, gln, gcn, glr, ce, ef, hXX, hMM, hOO, hGG, h00, hNN, hLL, hEE⟩ := hI
  have hFX : ∀ q, aX ob ad H.size q → A q := fun q w => hA q (w.elim (fun ⟨k, hk⟩ => hs.2.2.1 k q hk) (fun w => Nat.le_trans hS.1 w))
  refine va_calli (va_runV (As := [.int v_2, .int v_4, .int v_6, .int v_8]) (rest := []) ⟨hx, hb, hml, hown, hts⟩ (x_told l dC dI H.size ob ad cA hs.1 fv wd ar hXX.2.1 hXX.2.2.1 gla gfr gra grc gln gcn glr ce ef v_2 v_4 v_6 v_8) (cwV 4 hts (gV kw_4_233 kw_4_234 kw_4_235 kw_1_1 kw_4_236) rfl rfl rfl (by decide +kernel) ⟨Nat.le_of_ble_eq_true rfl, Nat.le_of_ble_eq_true rfl⟩) ⟨fun a U g mk q => ⟨q.1, ⟨q.2.1.1, q.2.1.2.1, va_K.moved (u := U) (U := U.calling g mk a) (Vm.Alike.refl U.vm) q.2.1.2.2⟩, ls_mv (U := U.calling g mk a) rfl (Vm.Alike.refl U.vm) q.2.2⟩, va_recv hKX hXX.1 (ci := 11) (q0 := 0) rfl rfl, fun U hU hW => ⟨rfl, ⟨by rw [hU], by rw [hU]; exact hXX.1, va_K.moved hW.alike hKX⟩, hGG U hU hW.alike⟩⟩ rfl rfl hl.1 rfl (lv_room (Nat.le_of_ble_eq_true rfl)) dL_law_750 (my_le (by omega) (by omega))) hS (fun q _ w => hFX q w) hFX (fun r_9 u t H1 locs ht hvm hw hB hz1 hk1 hS => ?_)
  obtain ⟨f_10, w_11, a_12⟩ := u
  obtain ⟨c_13, c_14, c_15, c_16, c_17, c_18⟩ := hw
  have hP1 : va_P (dC, dI) vwCl (wsX ob ad cA f_10 w_11 a_12) H1 := by have h9 := hB.1; rw [ht] at h9; exact h9
  have hI : inV s dC dI ob ad cA h adm cAm yO kO tA tD td td H1 := inv_x (ar := ar) (tX := td) hs hMM hOO hGG h00 hNN hLL hEE hP1 c_13 c_14 (my_tO hXX.2.2.2.1 (congrArg (fun z => z.1) c_17)) ⟨((c_15 7 rfl).trans hXX.2.2.2.2.1), ((c_15 4 rfl).trans hXX.2.2.2.2.2.1), ((c_15 11 rfl).trans hXX.2.2.2.2.2.2.1), ((c_15 12 rfl).trans hXX.2.2.2.2.2.2.2.1), ((c_15 9 rfl).trans hXX.2.2.2.2.2.2.2.2.1), ((c_15 0 rfl).trans hXX.2.2.2.2.2.2.2.2.2)⟩ (c_15 30 rfl) (congrArg (fun z => z.2.2) c_17) hz1 hk1
  generalize H1 = H at hI hS ⊢
  refine lv_pop hx hb dL_law_753 rfl ?_
  refine lv_aload_n hx hb dL_law_754 rfl (lv_at hl 2 rfl) ?_
  refine lv_aload_n hx hb dL_law_755 rfl (lv_at hl 0 rfl) ?_
  refine lv_iload hx hb dL_law_756 (lv_at hl 4 rfl) ?_
  refine lv_iconst (v := 1) hx hb dL_law_758 (by decide) ?_
  refine lv_iadd hx hb dL_law_759 ?_
  refine lv_topi (fun v_19 ev_19 => ?_)
  refine va_sld hx hb hX hbl hbA hS (my_si (k := 1) hi hJ hL ev_19 (by decide) (by decide) (by decide)) dL_law_760 ?_
  refine lv_topi (fun v_20 ev_20 => ?_)
  refine lv_aload_n hx hb dL_law_761 rfl (lv_at hl 0 rfl) ?_
  refine lv_iload hx hb dL_law_762 (lv_at hl 4 rfl) ?_
  refine lv_iconst (v := 2) hx hb dL_law_764 (by decide) ?_
  refine lv_iadd hx hb dL_law_765 ?_
  refine lv_topi (fun v_21 ev_21 => ?_)
  refine va_sld hx hb hX hbl hbA hS (my_si (k := 2) hi hJ hL ev_21 (by decide) (by decide) (by decide)) dL_law_766 ?_
  refine lv_topi (fun v_22 ev_22 => ?_)
  refine lv_aload_n hx hb dL_law_767 rfl (lv_at hl 0 rfl) ?_
  refine lv_iload hx hb dL_law_768 (lv_at hl 4 rfl) ?_
  refine lv_iconst (v := 3) hx hb dL_law_770 (by decide) ?_
  refine lv_iadd hx hb dL_law_771 ?_
  refine lv_topi (fun v_23 ev_23 => ?_)
  refine va_sld hx hb hX hbl hbA hS (my_si (k := 3) hi hJ hL ev_23 (by decide) (by decide) (by decide)) dL_law_772 ?_
  refine lv_topi (fun v_24 ev_24 => ?_)
  refine lv_aload_n hx hb dL_law_773 rfl (lv_at hl 0 rfl) ?_
  refine lv_iload hx hb dL_law_774 (lv_at hl 4 rfl) ?_
  refine lv_iconst (v := 4) hx hb dL_law_776 (by decide) ?_
  refine lv_iadd hx hb dL_law_777 ?_
  refine lv_topi (fun v_25 ev_25 => ?_)
  refine va_sld hx hb hX hbl hbA hS (my_si (k := 4) hi hJ hL ev_25 (by decide) (by decide) (by decide)) dL_law_778 ?_
  refine lv_topi (fun v_26 ev_26 => ?_)
  obtain ⟨fv, wd, ar, gv, gw, gr, fO, gla, gfr, gra, grc, gln, gcn, glr, ce, ef, hXX, hMM, hOO, hGG, h00, hNN, hLL, hEE⟩ := hI
  have hFM : ∀ q, aM h adm H.size q → A q := fun q w => hA q (w.elim (fun ⟨k, hk⟩ => hs.2.2.2.1 k q hk) (fun w => Nat.le_trans hS.1 w))
  refine va_calli (va_runV (As := [.int v_20, .int v_22, .int v_24, .int v_26]) (rest := []) ⟨hx, hb, hml, hown, hts⟩ (m_told l dC dI H.size h adm cAm hs.2.1 gv gw gr hMM.2.1 hMM.2.2.1 v_20 v_22 v_24 v_26 hMM.2.2.2.1) (cwV 4 hts (gV kw_8_141 kw_8_142 kw_8_143 kw_1_15 kw_8_144) rfl rfl rfl (by decide +kernel) ⟨Nat.le_of_ble_eq_true rfl, Nat.le_of_ble_eq_true rfl⟩) ⟨fun a U g mk q => ⟨q.1, q.2.1, q.2.2.1, va_K.moved (u := U) (U := U.calling g mk a) (Vm.Alike.refl U.vm) q.2.2.2⟩, va_recv hKM hMM.1 (ci := 12) (q0 := 0) rfl rfl, fun U hU hW => ⟨rfl, by rw [hU], by rw [hU]; exact hMM.1, va_K.moved hW.alike hKM⟩⟩ rfl rfl hl.1 rfl (lv_room (Nat.le_of_ble_eq_true rfl)) dL_law_779 (my_le (by omega) (by omega))) hS (fun q _ w => hFM q w) hFM (fun r_27 u t H1 locs ht hvm hw hB hz1 hk1 hS => ?_)
  obtain ⟨f_28, w_29, a_30⟩ := u
  obtain ⟨c_31, c_32, c_33, c_34, c_35⟩ := hw
  have hP1 : va_P (dC, dI) vwCl (wsM h adm cAm f_28 w_29 a_30) H1 := by have h9 := hB.1; rw [ht] at h9; exact h9
  have hI : inV s dC dI ob ad cA h adm cAm yO kO tA tD td td H1 := inv_m (gv := gv) (gw := gw) (gr := gr) (tM := td) hs hXX hOO hGG h00 hNN hLL hEE hP1 c_31 c_32 (vM_fr hMM.2.2.2.1 c_33 c_34 rfl rfl rfl rfl rfl) (sW_fr hMM.2.2.2.2.1 c_34 rfl rfl) ⟨((c_33 3 rfl).trans hMM.2.2.2.2.2.1), ((c_33 33 rfl).trans hMM.2.2.2.2.2.2.1), ((c_33 34 rfl).trans hMM.2.2.2.2.2.2.2.1), ((c_33 35 rfl).trans hMM.2.2.2.2.2.2.2.2.1), ((c_33 6 rfl).trans hMM.2.2.2.2.2.2.2.2.2.1), ((c_33 2 rfl).trans hMM.2.2.2.2.2.2.2.2.2.2)⟩ hz1 hk1
  generalize H1 = H at hI hS ⊢
  refine lv_pop hx hb dL_law_782 rfl ?_
  refine lv_goto (tgt := 1014) hx hb dL_law_783 (by decide) ?_
  refine W.widen (k := nc + 9) (n := ns + 371) (by omega) (by omega) ?_
  exact kk _ _ _ _ hI hS (lv_sub hl [0, 1, 2, 3, 4] rfl)
set_option maxHeartbeats 4000000 in
set_option maxRecDepth 100000 in
theorem law_16 {p : Program} {e : Env} {s : State} {m : MethodId} {below : List Frame} {meth : Method} {c : Code} (l : Launch) {b L : Nat} {xs : Nat → Int32} (hL : L ≤ 3584) (hl0 : l.stackTraces = false) (C0 : lw_At p s m meth c b L xs) {A : Nat → Prop} (hAe : A = fun q => s.heap.size ≤ q) {dC : Nat → ClassId} {dI : Nat → Nat → Nat} {ob ad : Nat → Nat} {cA : Nat → ClassId} {h : Nat} {adm : Nat → Nat} {cAm : Nat → ClassId} {yO : Nat} {kO : ClassId} {tA : Nat → Nat} {tD : Nat} {tkK tkV tkL : Nat → Nat} {tkB : Nat → Nat → Int32} {tkT sN : Nat} (hs : iSep s ob ad h adm yO) (hKX : va_K (dC, dI) vwCl (tyX cA) s) (hKM : va_K (dC, dI) vwCl (tyM cAm) s) (hKO : va_K (dC, dI) vwCl [(kO, .long)] s) (hst : iSt s A tA tkK tkV tkL tkB tkT sN tD) (H : Heap) (locs : List Loc) (td : Nat → Int32) (hI : inV s dC dI ob ad cA h adm cAm yO kO tA tD td td H) (hS : va_S A s.heap H locs) (i : Int32) (J : Nat) (hi : i.toInt = (J : Int)) (hJ : J + 7 ≤ L) (nc ns : Nat) (hnc : nc + 9 ≤ 741096) (hns : ns + 371 ≤ 6872816) (ls : Array Slot) (hl : lv_has ls 7 [(0, .ref b), (1, .ref (ob 0)), (2, .ref h), (3, .ref yO), (4, .int i)]) (kk : ∀ (H : Heap) (locs : List Loc) (td : Nat → Int32) (ls : Array Slot), inV s dC dI ob ad cA h adm cAm yO kO tA tD td td H → va_S A s.heap H locs → lv_has ls 7 [(0, .ref b), (1, .ref (ob 0)), (2, .ref h), (3, .ref yO), (4, .int i)] → W p l e room_1 s m #[Value.ref b] below meth c H locs (nc + 9) (ns + 371) (lw_Z below #[Value.ref b] s) (F0 m 1014 ls [])) : W p l e room_1 s m #[Value.ref b] below meth c H locs nc ns (lw_Z below #[Value.ref b] s) (F0 m 786 ls []) := by
  obtain ⟨hx, hb, hr, hml, hown, hts0, hX, hbl, hlocks, hgv⟩ := id C0
  have hb : c.code = cL_law := hb
  have hown : s.vm.findClass RL = some m.cls := hown
  have hts : ∀ w ∈ (.initialized RL :: lw_good : List Cond), w.before #[Value.ref b] s = true := fun w h => (List.mem_cons.mp h).elim (fun q => by rw [q]; exact hts0 _ (lwgT kw_1_0)) (fun q => hts0 w (lwgT q))
  have hA : ∀ q : Nat, s.heap.size ≤ q → A q := fun q h => by rw [hAe]; exact h
  have hbA : ¬ A b := by rw [hAe]; exact Nat.not_le.mpr hbl
  refine lv_aload_n hx hb dL_law_786 rfl (lv_at hl 1 rfl) ?_
  obtain ⟨fv, wd, ar, gv, gw, gr, fO, gla, gfr, gra, grc, gln, gcn, glr, ce, ef, hXX, hMM, hOO, hGG, h00, hNN, hLL, hEE⟩ := hI
  have hFX : ∀ q, aX ob ad H.size q → A q := fun q w => hA q (w.elim (fun ⟨k, hk⟩ => hs.2.2.1 k q hk) (fun w => Nat.le_trans hS.1 w))
  refine va_calli (va_runV (As := []) (rest := []) ⟨hx, hb, hml, hown, hts⟩ (x_why l dC dI H.size ob ad cA hs.1 fv wd ar hXX.2.1 hXX.2.2.1 ) (cwV 0 hts (gV kw_5_41 kw_5_42 kw_5_43 kw_1_1 kw_5_44) rfl rfl rfl (by decide +kernel) ⟨Nat.le_of_ble_eq_true rfl, Nat.le_of_ble_eq_true rfl⟩) ⟨fun a U g mk q => ⟨q.1, q.2.1, q.2.2.1, va_K.moved (u := U) (U := U.calling g mk a) (Vm.Alike.refl U.vm) q.2.2.2⟩, va_recv hKX hXX.1 (ci := 11) (q0 := 0) rfl rfl, fun U hU hW => ⟨rfl, by rw [hU], by rw [hU]; exact hXX.1, va_K.moved hW.alike hKX⟩⟩ rfl rfl hl.1 rfl (lv_room (Nat.le_of_ble_eq_true rfl)) dL_law_787 (my_le (by omega) (by omega))) hS (fun q _ w => hFX q w) hFX (fun r_1 u t H1 locs ht hvm hw hB hz1 hk1 hS => ?_)
  obtain ⟨f_2, w_3, a_4⟩ := u
  obtain ⟨c_5, c_6, c_7, c_8, c_9, c_10⟩ := hw
  have hP1 : va_P (dC, dI) vwCl (wsX ob ad cA f_2 w_3 a_4) H1 := by have h9 := hB.1; rw [ht] at h9; exact h9
  have hI : inV s dC dI ob ad cA h adm cAm yO kO tA tD td td H1 := inv_x (ar := ar) (tX := td) hs hMM hOO hGG h00 hNN hLL hEE hP1 c_5 c_6 (my_tO hXX.2.2.2.1 (congrArg (fun z => z.1) c_9)) ⟨((c_7 7 rfl).trans hXX.2.2.2.2.1), ((c_7 4 rfl).trans hXX.2.2.2.2.2.1), ((c_7 11 rfl).trans hXX.2.2.2.2.2.2.1), ((c_7 12 rfl).trans hXX.2.2.2.2.2.2.2.1), ((c_7 9 rfl).trans hXX.2.2.2.2.2.2.2.2.1), ((c_7 0 rfl).trans hXX.2.2.2.2.2.2.2.2.2)⟩ (c_7 30 rfl) (congrArg (fun z => z.2.2) c_9) hz1 hk1
  generalize H1 = H at hI hS ⊢
  refine lv_pop hx hb dL_law_790 rfl ?_
  refine lv_aload_n hx hb dL_law_791 rfl (lv_at hl 2 rfl) ?_
  obtain ⟨fv, wd, ar, gv, gw, gr, fO, gla, gfr, gra, grc, gln, gcn, glr, ce, ef, hXX, hMM, hOO, hGG, h00, hNN, hLL, hEE⟩ := hI
  have hFM : ∀ q, aM h adm H.size q → A q := fun q w => hA q (w.elim (fun ⟨k, hk⟩ => hs.2.2.2.1 k q hk) (fun w => Nat.le_trans hS.1 w))
  refine va_calli (va_runV (As := []) (rest := []) ⟨hx, hb, hml, hown, hts⟩ (m_why l dC dI H.size h adm cAm hs.2.1 gv gw gr hMM.2.1 hMM.2.2.1 ) (cwV 0 hts (gV kw_8_164 kw_8_165 kw_8_166 kw_1_15 kw_8_167) rfl rfl rfl (by decide +kernel) ⟨Nat.le_of_ble_eq_true rfl, Nat.le_of_ble_eq_true rfl⟩) ⟨fun a U g mk q => ⟨q.1, q.2.1, q.2.2.1, va_K.moved (u := U) (U := U.calling g mk a) (Vm.Alike.refl U.vm) q.2.2.2⟩, va_recv hKM hMM.1 (ci := 12) (q0 := 0) rfl rfl, fun U hU hW => ⟨rfl, by rw [hU], by rw [hU]; exact hMM.1, va_K.moved hW.alike hKM⟩⟩ rfl rfl hl.1 rfl (lv_room (Nat.le_of_ble_eq_true rfl)) dL_law_792 (my_le (by omega) (by omega))) hS (fun q _ w => hFM q w) hFM (fun r_11 u t H1 locs ht hvm hw hB hz1 hk1 hS => ?_)
  obtain ⟨f_12, w_13, a_14⟩ := u
  obtain ⟨c_15, c_16, c_17, c_18, c_19⟩ := hw
  have hP1 : va_P (dC, dI) vwCl (wsM h adm cAm f_12 w_13 a_14) H1 := by have h9 := hB.1; rw [ht] at h9; exact h9
  have hI : inV s dC dI ob ad cA h adm cAm yO kO tA tD td td H1 := inv_m (gv := gv) (gw := gw) (gr := gr) (tM := td) hs hXX hOO hGG h00 hNN hLL hEE hP1 c_15 c_16 (vM_fr hMM.2.2.2.1 c_17 c_18 rfl rfl rfl rfl rfl) (sW_fr hMM.2.2.2.2.1 c_18 rfl rfl) ⟨((c_17 3 rfl).trans hMM.2.2.2.2.2.1), ((c_17 33 rfl).trans hMM.2.2.2.2.2.2.1), ((c_17 34 rfl).trans hMM.2.2.2.2.2.2.2.1), ((c_17 35 rfl).trans hMM.2.2.2.2.2.2.2.2.1), ((c_17 6 rfl).trans hMM.2.2.2.2.2.2.2.2.2.1), ((c_17 2 rfl).trans hMM.2.2.2.2.2.2.2.2.2.2)⟩ hz1 hk1
  generalize H1 = H at hI hS ⊢
  refine lv_pop hx hb dL_law_795 rfl ?_
  refine lv_goto (tgt := 1014) hx hb dL_law_796 (by decide) ?_
  refine W.widen (k := nc + 9) (n := ns + 371) (by omega) (by omega) ?_
  exact kk _ _ _ _ hI hS (lv_sub hl [0, 1, 2, 3, 4] rfl)
set_option maxHeartbeats 4000000 in
set_option maxRecDepth 100000 in
theorem law_17 {p : Program} {e : Env} {s : State} {m : MethodId} {below : List Frame} {meth : Method} {c : Code} (l : Launch) {b L : Nat} {xs : Nat → Int32} (hL : L ≤ 3584) (hl0 : l.stackTraces = false) (C0 : lw_At p s m meth c b L xs) {A : Nat → Prop} (hAe : A = fun q => s.heap.size ≤ q) {dC : Nat → ClassId} {dI : Nat → Nat → Nat} {ob ad : Nat → Nat} {cA : Nat → ClassId} {h : Nat} {adm : Nat → Nat} {cAm : Nat → ClassId} {yO : Nat} {kO : ClassId} {tA : Nat → Nat} {tD : Nat} {tkK tkV tkL : Nat → Nat} {tkB : Nat → Nat → Int32} {tkT sN : Nat} (hs : iSep s ob ad h adm yO) (hKX : va_K (dC, dI) vwCl (tyX cA) s) (hKM : va_K (dC, dI) vwCl (tyM cAm) s) (hKO : va_K (dC, dI) vwCl [(kO, .long)] s) (hst : iSt s A tA tkK tkV tkL tkB tkT sN tD) (H : Heap) (locs : List Loc) (td : Nat → Int32) (hI : inV s dC dI ob ad cA h adm cAm yO kO tA tD td td H) (hS : va_S A s.heap H locs) (i : Int32) (J : Nat) (hi : i.toInt = (J : Int)) (hJ : J + 7 ≤ L) (nc ns : Nat) (hnc : nc + 9 ≤ 741096) (hns : ns + 371 ≤ 6872816) (ls : Array Slot) (hl : lv_has ls 7 [(0, .ref b), (1, .ref (ob 0)), (2, .ref h), (3, .ref yO), (4, .int i)]) (kk : ∀ (H : Heap) (locs : List Loc) (td : Nat → Int32) (ls : Array Slot), inV s dC dI ob ad cA h adm cAm yO kO tA tD td td H → va_S A s.heap H locs → lv_has ls 7 [(0, .ref b), (1, .ref (ob 0)), (2, .ref h), (3, .ref yO), (4, .int i)] → W p l e room_1 s m #[Value.ref b] below meth c H locs (nc + 9) (ns + 371) (lw_Z below #[Value.ref b] s) (F0 m 1014 ls [])) : W p l e room_1 s m #[Value.ref b] below meth c H locs nc ns (lw_Z below #[Value.ref b] s) (F0 m 799 ls []) := by
  obtain ⟨hx, hb, hr, hml, hown, hts0, hX, hbl, hlocks, hgv⟩ := id C0
  have hb : c.code = cL_law := hb
  have hown : s.vm.findClass RL = some m.cls := hown
  have hts : ∀ w ∈ (.initialized RL :: lw_good : List Cond), w.before #[Value.ref b] s = true := fun w h => (List.mem_cons.mp h).elim (fun q => by rw [q]; exact hts0 _ (lwgT kw_1_0)) (fun q => hts0 w (lwgT q))
  have hA : ∀ q : Nat, s.heap.size ≤ q → A q := fun q h => by rw [hAe]; exact h
  have hbA : ¬ A b := by rw [hAe]; exact Nat.not_le.mpr hbl
  refine lv_aload_n hx hb dL_law_799 rfl (lv_at hl 1 rfl) ?_
  obtain ⟨fv, wd, ar, gv, gw, gr, fO, gla, gfr, gra, grc, gln, gcn, glr, ce, ef, hXX, hMM, hOO, hGG, h00, hNN, hLL, hEE⟩ := hI
  have hFX : ∀ q, aX ob ad H.size q → A q := fun q w => hA q (w.elim (fun ⟨k, hk⟩ => hs.2.2.1 k q hk) (fun w => Nat.le_trans hS.1 w))
  refine va_calli (va_runV (As := []) (rest := []) ⟨hx, hb, hml, hown, hts⟩ (x_morning l dC dI H.size ob ad cA hs.1 fv wd ar hXX.2.1 hXX.2.2.1 gla gfr gra grc gln gcn glr ce ef ) (cwV 0 hts (gV kw_5_45 kw_5_46 kw_5_47 kw_1_1 kw_5_48) rfl rfl rfl (by decide +kernel) ⟨Nat.le_of_ble_eq_true rfl, Nat.le_of_ble_eq_true rfl⟩) ⟨fun a U g mk q => ⟨q.1, ⟨q.2.1.1, q.2.1.2.1, va_K.moved (u := U) (U := U.calling g mk a) (Vm.Alike.refl U.vm) q.2.1.2.2⟩, ls_mv (U := U.calling g mk a) rfl (Vm.Alike.refl U.vm) q.2.2⟩, va_recv hKX hXX.1 (ci := 11) (q0 := 0) rfl rfl, fun U hU hW => ⟨rfl, ⟨by rw [hU], by rw [hU]; exact hXX.1, va_K.moved hW.alike hKX⟩, hGG U hU hW.alike⟩⟩ rfl rfl hl.1 rfl (lv_room (Nat.le_of_ble_eq_true rfl)) dL_law_800 (my_le (by omega) (by omega))) hS (fun q _ w => hFX q w) hFX (fun r_1 u t H1 locs ht hvm hw hB hz1 hk1 hS => ?_)
  obtain ⟨f_2, w_3, a_4⟩ := u
  obtain ⟨c_5, c_6, c_7, c_8, c_9, c_10, c_11⟩ := hw
  have hP1 : va_P (dC, dI) vwCl (wsX ob ad cA f_2 w_3 a_4) H1 := by have h9 := hB.1; rw [ht] at h9; exact h9
  have hI : inV s dC dI ob ad cA h adm cAm yO kO tA tD td td H1 := inv_x (ar := ar) (tX := td) hs hMM hOO hGG h00 hNN hLL hEE hP1 c_5 c_6 (my_tO hXX.2.2.2.1 c_10) ⟨((c_7 7 rfl).trans hXX.2.2.2.2.1), ((c_7 4 rfl).trans hXX.2.2.2.2.2.1), ((c_7 11 rfl).trans hXX.2.2.2.2.2.2.1), ((c_7 12 rfl).trans hXX.2.2.2.2.2.2.2.1), ((c_7 9 rfl).trans hXX.2.2.2.2.2.2.2.2.1), ((c_7 0 rfl).trans hXX.2.2.2.2.2.2.2.2.2)⟩ (c_7 30 rfl) c_9 hz1 hk1
  generalize H1 = H at hI hS ⊢
  refine lv_pop hx hb dL_law_803 rfl ?_
  refine lv_aload_n hx hb dL_law_804 rfl (lv_at hl 2 rfl) ?_
  obtain ⟨fv, wd, ar, gv, gw, gr, fO, gla, gfr, gra, grc, gln, gcn, glr, ce, ef, hXX, hMM, hOO, hGG, h00, hNN, hLL, hEE⟩ := hI
  have hFM : ∀ q, aM h adm H.size q → A q := fun q w => hA q (w.elim (fun ⟨k, hk⟩ => hs.2.2.2.1 k q hk) (fun w => Nat.le_trans hS.1 w))
  refine va_calli (va_runV (As := []) (rest := []) ⟨hx, hb, hml, hown, hts⟩ (m_morning l dC dI H.size h adm cAm hs.2.1 gv gw gr hMM.2.1 hMM.2.2.1 hMM.2.2.2.2.1 hMM.2.2.2.1) (cwV 0 hts (gV kw_8_168 kw_8_169 kw_8_170 kw_1_15 kw_8_171) rfl rfl rfl (by decide +kernel) ⟨Nat.le_of_ble_eq_true rfl, Nat.le_of_ble_eq_true rfl⟩) ⟨fun a U g mk q => ⟨q.1, q.2.1, q.2.2.1, va_K.moved (u := U) (U := U.calling g mk a) (Vm.Alike.refl U.vm) q.2.2.2⟩, va_recv hKM hMM.1 (ci := 12) (q0 := 0) rfl rfl, fun U hU hW => ⟨rfl, by rw [hU], by rw [hU]; exact hMM.1, va_K.moved hW.alike hKM⟩⟩ rfl rfl hl.1 rfl (lv_room (Nat.le_of_ble_eq_true rfl)) dL_law_805 (my_le (by omega) (by omega))) hS (fun q _ w => hFM q w) hFM (fun r_12 u t H1 locs ht hvm hw hB hz1 hk1 hS => ?_)
  obtain ⟨f_13, w_14, a_15⟩ := u
  obtain ⟨c_16, c_17, c_18, c_19, c_20, c_21⟩ := hw
  have hP1 : va_P (dC, dI) vwCl (wsM h adm cAm f_13 w_14 a_15) H1 := by have h9 := hB.1; rw [ht] at h9; exact h9
  have hI : inV s dC dI ob ad cA h adm cAm yO kO tA tD td td H1 := inv_m (gv := gv) (gw := gw) (gr := gr) (tM := td) hs hXX hOO hGG h00 hNN hLL hEE hP1 c_16 c_17 (vM_fr hMM.2.2.2.1 c_18 c_19 rfl rfl rfl rfl rfl) c_20 ⟨((c_18 3 rfl).trans hMM.2.2.2.2.2.1), ((c_18 33 rfl).trans hMM.2.2.2.2.2.2.1), ((c_18 34 rfl).trans hMM.2.2.2.2.2.2.2.1), ((c_18 35 rfl).trans hMM.2.2.2.2.2.2.2.2.1), ((c_18 6 rfl).trans hMM.2.2.2.2.2.2.2.2.2.1), ((c_18 2 rfl).trans hMM.2.2.2.2.2.2.2.2.2.2)⟩ hz1 hk1
  generalize H1 = H at hI hS ⊢
  refine lv_pop hx hb dL_law_808 rfl ?_
  refine lv_goto (tgt := 1014) hx hb dL_law_809 (by decide) ?_
  refine W.widen (k := nc + 9) (n := ns + 371) (by omega) (by omega) ?_
  exact kk _ _ _ _ hI hS (lv_sub hl [0, 1, 2, 3, 4] rfl)
set_option maxHeartbeats 4000000 in
set_option maxRecDepth 100000 in
theorem law_18 {p : Program} {e : Env} {s : State} {m : MethodId} {below : List Frame} {meth : Method} {c : Code} (l : Launch) {b L : Nat} {xs : Nat → Int32} (hL : L ≤ 3584) (hl0 : l.stackTraces = false) (C0 : lw_At p s m meth c b L xs) {A : Nat → Prop} (hAe : A = fun q => s.heap.size ≤ q) {dC : Nat → ClassId} {dI : Nat → Nat → Nat} {ob ad : Nat → Nat} {cA : Nat → ClassId} {h : Nat} {adm : Nat → Nat} {cAm : Nat → ClassId} {yO : Nat} {kO : ClassId} {tA : Nat → Nat} {tD : Nat} {tkK tkV tkL : Nat → Nat} {tkB : Nat → Nat → Int32} {tkT sN : Nat} (hs : iSep s ob ad h adm yO) (hKX : va_K (dC, dI) vwCl (tyX cA) s) (hKM : va_K (dC, dI) vwCl (tyM cAm) s) (hKO : va_K (dC, dI) vwCl [(kO, .long)] s) (hst : iSt s A tA tkK tkV tkL tkB tkT sN tD) (H : Heap) (locs : List Loc) (td : Nat → Int32) (hI : inV s dC dI ob ad cA h adm cAm yO kO tA tD td td H) (hS : va_S A s.heap H locs) (i : Int32) (J : Nat) (hi : i.toInt = (J : Int)) (hJ : J + 7 ≤ L) (nc ns : Nat) (hnc : nc + 9 ≤ 741096) (hns : ns + 371 ≤ 6872816) (ls : Array Slot) (hl : lv_has ls 7 [(0, .ref b), (1, .ref (ob 0)), (2, .ref h), (3, .ref yO), (4, .int i)]) (kk : ∀ (H : Heap) (locs : List Loc) (td : Nat → Int32) (ls : Array Slot), inV s dC dI ob ad cA h adm cAm yO kO tA tD td td H → va_S A s.heap H locs → lv_has ls 7 [(0, .ref b), (1, .ref (ob 0)), (2, .ref h), (3, .ref yO), (4, .int i)] → W p l e room_1 s m #[Value.ref b] below meth c H locs (nc + 9) (ns + 371) (lw_Z below #[Value.ref b] s) (F0 m 1014 ls [])) : W p l e room_1 s m #[Value.ref b] below meth c H locs nc ns (lw_Z below #[Value.ref b] s) (F0 m 812 ls []) := by
  obtain ⟨hx, hb, hr, hml, hown, hts0, hX, hbl, hlocks, hgv⟩ := id C0
  have hb : c.code = cL_law := hb
  have hown : s.vm.findClass RL = some m.cls := hown
  have hts : ∀ w ∈ (.initialized RL :: lw_good : List Cond), w.before #[Value.ref b] s = true := fun w h => (List.mem_cons.mp h).elim (fun q => by rw [q]; exact hts0 _ (lwgT kw_1_0)) (fun q => hts0 w (lwgT q))
  have hA : ∀ q : Nat, s.heap.size ≤ q → A q := fun q h => by rw [hAe]; exact h
  have hbA : ¬ A b := by rw [hAe]; exact Nat.not_le.mpr hbl
  refine lv_aload_n hx hb dL_law_812 rfl (lv_at hl 1 rfl) ?_
  refine lv_aload_n hx hb dL_law_813 rfl (lv_at hl 0 rfl) ?_
  refine lv_iload hx hb dL_law_814 (lv_at hl 4 rfl) ?_
  refine lv_iconst (v := 1) hx hb dL_law_816 (by decide) ?_
  refine lv_iadd hx hb dL_law_817 ?_
  refine lv_topi (fun v_1 ev_1 => ?_)
  refine va_sld hx hb hX hbl hbA hS (my_si (k := 1) hi hJ hL ev_1 (by decide) (by decide) (by decide)) dL_law_818 ?_
  refine lv_topi (fun v_2 ev_2 => ?_)
  refine lv_aload_n hx hb dL_law_819 rfl (lv_at hl 0 rfl) ?_
  refine lv_iload hx hb dL_law_820 (lv_at hl 4 rfl) ?_
  refine lv_iconst (v := 2) hx hb dL_law_822 (by decide) ?_
  refine lv_iadd hx hb dL_law_823 ?_
  refine lv_topi (fun v_3 ev_3 => ?_)
  refine va_sld hx hb hX hbl hbA hS (my_si (k := 2) hi hJ hL ev_3 (by decide) (by decide) (by decide)) dL_law_824 ?_
  refine lv_topi (fun v_4 ev_4 => ?_)
  refine lv_aload_n hx hb dL_law_825 rfl (lv_at hl 3 rfl) ?_
  obtain ⟨fv, wd, ar, gv, gw, gr, fO, gla, gfr, gra, grc, gln, gcn, glr, ce, ef, hXX, hMM, hOO, hGG, h00, hNN, hLL, hEE⟩ := hI
  have hFX : ∀ q, aX ob ad H.size q → A q := fun q w => hA q (w.elim (fun ⟨k, hk⟩ => hs.2.2.1 k q hk) (fun w => Nat.le_trans hS.1 w))
  have hFO : ∀ q, (aX ob ad H.size q ∨ q = yO) → A q := fun q w => w.elim (hFX q) (fun w => hA q (by rw [w]; exact hs.2.2.2.2.2.2.2))
  have hyO : ¬ aX ob ad H.size yO := fun w => w.elim (fun ⟨k, hk⟩ => hs.2.2.2.2.2.1 k hk) (fun w => absurd (ls_lt hOO) (Nat.not_lt.mpr w))
  refine va_calli (vx_runSW (hh := [(0, 10, 13, 13)]) (As := [.ref (ob 0), .int v_2, .int v_4, .ref yO]) (rest := []) ⟨hx, hb, hml, hown, hts⟩ (l_of l dC dI H.size ob ad cA hs.1 fv wd ar hXX.2.1 hXX.2.2.1 sN v_2 v_4 yO kO fO hyO hl0) (vx_cwSW (hh := [(0, 10, 13, 13)]) 4 hts (gS kw_6_64 kw_6_65 kw_1_0 kw_of) rfl rfl rfl (by decide +kernel) ⟨Nat.le_of_ble_eq_true rfl, Nat.le_of_ble_eq_true rfl⟩) ⟨fun a U g mk q => by obtain ⟨q0, ⟨q1, qP, qK⟩, qO, qL, qZ0, qZ1, qZ2, qZ3, qZ4, qZ5, qZ6⟩ := q; exact ⟨q0, ⟨q1, qP, va_K.moved (u := U) (U := U.calling g mk a) (Vm.Alike.refl U.vm) qK⟩, qO, va_K.moved (u := U) (U := U.calling g mk a) (Vm.Alike.refl U.vm) qL, vx_Zq.moved (u := U) (U := U.calling g mk a) (Vm.Alike.refl U.vm) qZ0, vx_Zq.moved (u := U) (U := U.calling g mk a) (Vm.Alike.refl U.vm) qZ1, vk_R.same (u := U) (U := U.calling g mk a) rfl qZ2, va_Nw.same (u := U) (U := U.calling g mk a) rfl rfl qZ3, va_Nw.same (u := U) (U := U.calling g mk a) rfl rfl qZ4, va_Nw.same (u := U) (U := U.calling g mk a) rfl rfl qZ5, va_Nw.same (u := U) (U := U.calling g mk a) rfl rfl qZ6⟩, fun U hU hW => ⟨rfl, ⟨by rw [hU], by rw [hU]; exact hXX.1, va_K.moved hW.alike hKX⟩, by rw [hU]; exact hOO, va_K.moved hW.alike hKO, by rw [hU]; exact ((hst.2.2.2.2.2.2.2.2.1.kept hS.2.1).narrow hFO).moved hW.alike, by rw [hU]; exact ((hst.2.2.2.2.2.2.2.2.2.1.kept hS.2.1).narrow hFO).moved hW.alike, vk_R.warm hW hst.2.2.2.2.2.2.2.2.2.2.1, va_Nw.warmC hW hst.2.2.2.2.2.2.2.2.2.2.2.1, va_Nw.warmD hW hst.2.2.2.2.2.2.2.2.2.2.2.2.1, va_Nw.warmD hW hst.2.2.2.2.2.2.2.2.2.2.2.2.2.1, va_Nw.warmD hW hst.2.2.2.2.2.2.2.2.2.2.2.2.2.2⟩⟩ rfl rfl hl.1 rfl (lv_room (Nat.le_of_ble_eq_true rfl)) dL_law_826 (my_le (by omega) (by omega))) hS (fun q _ w => hFO q w) hFO (fun r_5 u t H1 locs ht hvm hw hB hz1 hk1 hS => ?_)
  obtain ⟨f_6, w_7, a_8⟩ := u
  obtain ⟨c1, c2, c3, c4, c5⟩ := hw
  obtain ⟨hB1, f9, hB2, hB3⟩ := hB
  rw [ht] at hB2
  have hP1 : va_P (dC, dI) vwCl (wsX ob ad cA f_6 w_7 a_8) H1 := by have h9 := hB1.1; rw [ht] at h9; exact h9
  have hI : inV s dC dI ob ad cA h adm cAm yO kO tA tD td td H1 := inv_o (ar := ar) (fO := fO) (tX := td) hs hMM hGG h00 hNN hLL hEE hP1 c1 c2 (my_tO hXX.2.2.2.1 (congrArg (fun z => z.1) c5)) ⟨((c3 7 rfl).trans hXX.2.2.2.2.1), ((c3 4 rfl).trans hXX.2.2.2.2.2.1), ((c3 11 rfl).trans hXX.2.2.2.2.2.2.1), ((c3 12 rfl).trans hXX.2.2.2.2.2.2.2.1), ((c3 9 rfl).trans hXX.2.2.2.2.2.2.2.2.1), ((c3 0 rfl).trans hXX.2.2.2.2.2.2.2.2.2)⟩ (c3 30 rfl) (congrArg (fun z => z.2.2) c5) hB2 hz1 hk1
  generalize H1 = H at hI hS ⊢
  refine lv_istore (lv' := [(5, .int r_5), (0, .ref b), (1, .ref (ob 0)), (2, .ref h), (3, .ref yO), (4, .int i)]) hx hb dL_law_829 hl (by decide) rfl (fun ls hl => ?_)
  refine lv_aload_n hx hb dL_law_831 rfl (lv_at hl 3 rfl) ?_
  refine lv_aload_n hx hb dL_law_832 rfl (lv_at hl 1 rfl) ?_
  refine lv_iload hx hb dL_law_833 (lv_at hl 5 rfl) ?_
  refine lv_iconst (v := 1) hx hb dL_law_835 (by decide) ?_
  refine lv_iadd hx hb dL_law_836 ?_
  refine lv_topi (fun v_9 ev_9 => ?_)
  refine va_sld hx hb hX hbl hbA hS (my_si (k := 1) hi hJ hL ev_9 (by decide) (by decide) (by decide)) dL_law_837 ?_
  refine lv_topi (fun v_10 ev_10 => ?_)
  refine lv_aload_n hx hb dL_law_838 rfl (lv_at hl 1 rfl) ?_
  refine lv_iload hx hb dL_law_839 (lv_at hl 5 rfl) ?_
  refine lv_iconst (v := 2) hx hb dL_law_841 (by decide) ?_
  refine lv_iadd hx hb dL_law_842 ?_
  refine lv_topi (fun v_11 ev_11 => ?_)
  refine va_sld hx hb hX hbl hbA hS (my_si (k := 2) hi hJ hL ev_11 (by decide) (by decide) (by decide)) dL_law_843 ?_
  refine lv_topi (fun v_12 ev_12 => ?_)
  obtain ⟨fv, wd, ar, gv, gw, gr, fO, gla, gfr, gra, grc, gln, gcn, glr, ce, ef, hXX, hMM, hOO, hGG, h00, hNN, hLL, hEE⟩ := hI
  have hFM : ∀ q, aM h adm H.size q → A q := fun q w => hA q (w.elim (fun ⟨k, hk⟩ => hs.2.2.2.1 k q hk) (fun w => Nat.le_trans hS.1 w))
  refine va_calli (va_runV (As := [.int v_10, .int v_12]) (rest := []) ⟨hx, hb, hml, hown, hts⟩ (m_of l dC dI H.size h adm cAm hs.2.1 gv gw gr hMM.2.1 hMM.2.2.1 v_10 v_12) (cwV 2 hts (gV kw_9_4 kw_9_5 kw_9_6 kw_1_15 kw_9_7) rfl rfl rfl (by decide +kernel) ⟨Nat.le_of_ble_eq_true rfl, Nat.le_of_ble_eq_true rfl⟩) ⟨fun a U g mk q => ⟨q.1, q.2.1, q.2.2.1, va_K.moved (u := U) (U := U.calling g mk a) (Vm.Alike.refl U.vm) q.2.2.2⟩, va_recv hKM hMM.1 (ci := 12) (q0 := 0) rfl rfl, fun U hU hW => ⟨rfl, by rw [hU], by rw [hU]; exact hMM.1, va_K.moved hW.alike hKM⟩⟩ rfl rfl hl.1 rfl (lv_room (Nat.le_of_ble_eq_true rfl)) dL_law_844 (my_le (by omega) (by omega))) hS (fun q _ w => hFM q w) hFM (fun r_13 u t H1 locs ht hvm hw hB hz1 hk1 hS => ?_)
  obtain ⟨f_14, w_15, a_16⟩ := u
  obtain ⟨c_17, c_18, c_19, c_20, c_21⟩ := hw
  have hP1 : va_P (dC, dI) vwCl (wsM h adm cAm f_14 w_15 a_16) H1 := by have h9 := hB.1; rw [ht] at h9; exact h9
  have hI : inV s dC dI ob ad cA h adm cAm yO kO tA tD td td H1 := inv_m (gv := gv) (gw := gw) (gr := gr) (tM := td) hs hXX hOO hGG h00 hNN hLL hEE hP1 c_17 c_18 (vM_fr hMM.2.2.2.1 c_19 c_20 rfl rfl rfl rfl rfl) (sW_fr hMM.2.2.2.2.1 c_20 rfl rfl) ⟨((c_19 3 rfl).trans hMM.2.2.2.2.2.1), ((c_19 33 rfl).trans hMM.2.2.2.2.2.2.1), ((c_19 34 rfl).trans hMM.2.2.2.2.2.2.2.1), ((c_19 35 rfl).trans hMM.2.2.2.2.2.2.2.2.1), ((c_19 6 rfl).trans hMM.2.2.2.2.2.2.2.2.2.1), ((c_19 2 rfl).trans hMM.2.2.2.2.2.2.2.2.2.2)⟩ hz1 hk1
  generalize H1 = H at hI hS ⊢
  refine lv_istore (lv' := [(6, .int r_13), (5, .int r_5), (0, .ref b), (1, .ref (ob 0)), (2, .ref h), (3, .ref yO), (4, .int i)]) hx hb dL_law_847 hl (by decide) rfl (fun ls hl => ?_)
  refine lv_goto (tgt := 1014) hx hb dL_law_849 (by decide) ?_
  refine W.widen (k := nc + 9) (n := ns + 371) (by omega) (by omega) ?_
  exact kk _ _ _ _ hI hS (lv_sub hl [2, 3, 4, 5, 6] rfl)
set_option maxHeartbeats 4000000 in
set_option maxRecDepth 100000 in
theorem law_19 {p : Program} {e : Env} {s : State} {m : MethodId} {below : List Frame} {meth : Method} {c : Code} (l : Launch) {b L : Nat} {xs : Nat → Int32} (hL : L ≤ 3584) (hl0 : l.stackTraces = false) (C0 : lw_At p s m meth c b L xs) {A : Nat → Prop} (hAe : A = fun q => s.heap.size ≤ q) {dC : Nat → ClassId} {dI : Nat → Nat → Nat} {ob ad : Nat → Nat} {cA : Nat → ClassId} {h : Nat} {adm : Nat → Nat} {cAm : Nat → ClassId} {yO : Nat} {kO : ClassId} {tA : Nat → Nat} {tD : Nat} {tkK tkV tkL : Nat → Nat} {tkB : Nat → Nat → Int32} {tkT sN : Nat} (hs : iSep s ob ad h adm yO) (hKX : va_K (dC, dI) vwCl (tyX cA) s) (hKM : va_K (dC, dI) vwCl (tyM cAm) s) (hKO : va_K (dC, dI) vwCl [(kO, .long)] s) (hst : iSt s A tA tkK tkV tkL tkB tkT sN tD) (H : Heap) (locs : List Loc) (td : Nat → Int32) (hI : inV s dC dI ob ad cA h adm cAm yO kO tA tD td td H) (hS : va_S A s.heap H locs) (i : Int32) (J : Nat) (hi : i.toInt = (J : Int)) (hJ : J + 7 ≤ L) (nc ns : Nat) (hnc : nc + 9 ≤ 741096) (hns : ns + 371 ≤ 6872816) (ls : Array Slot) (hl : lv_has ls 7 [(0, .ref b), (1, .ref (ob 0)), (2, .ref h), (3, .ref yO), (4, .int i)]) (kk : ∀ (H : Heap) (locs : List Loc) (td : Nat → Int32) (ls : Array Slot), inV s dC dI ob ad cA h adm cAm yO kO tA tD td td H → va_S A s.heap H locs → lv_has ls 7 [(0, .ref b), (1, .ref (ob 0)), (2, .ref h), (3, .ref yO), (4, .int i)] → W p l e room_1 s m #[Value.ref b] below meth c H locs (nc + 9) (ns + 371) (lw_Z below #[Value.ref b] s) (F0 m 1014 ls [])) : W p l e room_1 s m #[Value.ref b] below meth c H locs nc ns (lw_Z below #[Value.ref b] s) (F0 m 852 ls []) := by
  obtain ⟨hx, hb, hr, hml, hown, hts0, hX, hbl, hlocks, hgv⟩ := id C0
  have hb : c.code = cL_law := hb
  have hown : s.vm.findClass RL = some m.cls := hown
  have hts : ∀ w ∈ (.initialized RL :: lw_good : List Cond), w.before #[Value.ref b] s = true := fun w h => (List.mem_cons.mp h).elim (fun q => by rw [q]; exact hts0 _ (lwgT kw_1_0)) (fun q => hts0 w (lwgT q))
  have hA : ∀ q : Nat, s.heap.size ≤ q → A q := fun q h => by rw [hAe]; exact h
  have hbA : ¬ A b := by rw [hAe]; exact Nat.not_le.mpr hbl
  refine lv_aload_n hx hb dL_law_852 rfl (lv_at hl 1 rfl) ?_
  refine lv_aload_n hx hb dL_law_853 rfl (lv_at hl 0 rfl) ?_
  refine lv_iload hx hb dL_law_854 (lv_at hl 4 rfl) ?_
  refine lv_iconst (v := 1) hx hb dL_law_856 (by decide) ?_
  refine lv_iadd hx hb dL_law_857 ?_
  refine lv_topi (fun v_1 ev_1 => ?_)
  refine va_sld hx hb hX hbl hbA hS (my_si (k := 1) hi hJ hL ev_1 (by decide) (by decide) (by decide)) dL_law_858 ?_
  refine lv_topi (fun v_2 ev_2 => ?_)
  obtain ⟨fv, wd, ar, gv, gw, gr, fO, gla, gfr, gra, grc, gln, gcn, glr, ce, ef, hXX, hMM, hOO, hGG, h00, hNN, hLL, hEE⟩ := hI
  have hFX : ∀ q, aX ob ad H.size q → A q := fun q w => hA q (w.elim (fun ⟨k, hk⟩ => hs.2.2.1 k q hk) (fun w => Nat.le_trans hS.1 w))
  refine va_calli (va_runV (As := [.int v_2]) (rest := []) ⟨hx, hb, hml, hown, hts⟩ (x_rode l dC dI H.size ob ad cA hs.1 fv wd ar hXX.2.1 hXX.2.2.1 v_2) (cwV 1 hts (gV kw_5_221 kw_5_222 kw_5_223 kw_1_1 kw_5_224) rfl rfl rfl (by decide +kernel) ⟨Nat.le_of_ble_eq_true rfl, Nat.le_of_ble_eq_true rfl⟩) ⟨fun a U g mk q => ⟨q.1, q.2.1, q.2.2.1, va_K.moved (u := U) (U := U.calling g mk a) (Vm.Alike.refl U.vm) q.2.2.2⟩, va_recv hKX hXX.1 (ci := 11) (q0 := 0) rfl rfl, fun U hU hW => ⟨rfl, by rw [hU], by rw [hU]; exact hXX.1, va_K.moved hW.alike hKX⟩⟩ rfl rfl hl.1 rfl (lv_room (Nat.le_of_ble_eq_true rfl)) dL_law_859 (my_le (by omega) (by omega))) hS (fun q _ w => hFX q w) hFX (fun r_3 u t H1 locs ht hvm hw hB hz1 hk1 hS => ?_)
  obtain ⟨f_4, w_5, a_6⟩ := u
  obtain ⟨c_7, c_8, c_9, c_10, c_11, c_12⟩ := hw
  have hP1 : va_P (dC, dI) vwCl (wsX ob ad cA f_4 w_5 a_6) H1 := by have h9 := hB.1; rw [ht] at h9; exact h9
  have hI : inV s dC dI ob ad cA h adm cAm yO kO tA tD td td H1 := inv_x (ar := ar) (tX := td) hs hMM hOO hGG h00 hNN hLL hEE hP1 c_7 c_8 (my_tO hXX.2.2.2.1 (congrArg (fun z => z.1) c_11)) ⟨((c_9 7 rfl).trans hXX.2.2.2.2.1), ((c_9 4 rfl).trans hXX.2.2.2.2.2.1), ((c_9 11 rfl).trans hXX.2.2.2.2.2.2.1), ((c_9 12 rfl).trans hXX.2.2.2.2.2.2.2.1), ((c_9 9 rfl).trans hXX.2.2.2.2.2.2.2.2.1), ((c_9 0 rfl).trans hXX.2.2.2.2.2.2.2.2.2)⟩ (c_9 30 rfl) (congrArg (fun z => z.2.2) c_11) hz1 hk1
  generalize H1 = H at hI hS ⊢
  refine lv_pop hx hb dL_law_862 rfl ?_
  refine lv_aload_n hx hb dL_law_863 rfl (lv_at hl 2 rfl) ?_
  refine lv_aload_n hx hb dL_law_864 rfl (lv_at hl 0 rfl) ?_
  refine lv_iload hx hb dL_law_865 (lv_at hl 4 rfl) ?_
  refine lv_iconst (v := 1) hx hb dL_law_867 (by decide) ?_
  refine lv_iadd hx hb dL_law_868 ?_
  refine lv_topi (fun v_13 ev_13 => ?_)
  refine va_sld hx hb hX hbl hbA hS (my_si (k := 1) hi hJ hL ev_13 (by decide) (by decide) (by decide)) dL_law_869 ?_
  refine lv_topi (fun v_14 ev_14 => ?_)
  obtain ⟨fv, wd, ar, gv, gw, gr, fO, gla, gfr, gra, grc, gln, gcn, glr, ce, ef, hXX, hMM, hOO, hGG, h00, hNN, hLL, hEE⟩ := hI
  have hFM : ∀ q, aM h adm H.size q → A q := fun q w => hA q (w.elim (fun ⟨k, hk⟩ => hs.2.2.2.1 k q hk) (fun w => Nat.le_trans hS.1 w))
  refine va_calli (va_runV (As := [.int v_14]) (rest := []) ⟨hx, hb, hml, hown, hts⟩ (m_rode l dC dI H.size h adm cAm hs.2.1 gv gw gr hMM.2.1 hMM.2.2.1 v_14) (cwV 1 hts (gV kw_9_12 kw_9_13 kw_9_14 kw_1_15 kw_9_15) rfl rfl rfl (by decide +kernel) ⟨Nat.le_of_ble_eq_true rfl, Nat.le_of_ble_eq_true rfl⟩) ⟨fun a U g mk q => ⟨q.1, q.2.1, q.2.2.1, va_K.moved (u := U) (U := U.calling g mk a) (Vm.Alike.refl U.vm) q.2.2.2⟩, va_recv hKM hMM.1 (ci := 12) (q0 := 0) rfl rfl, fun U hU hW => ⟨rfl, by rw [hU], by rw [hU]; exact hMM.1, va_K.moved hW.alike hKM⟩⟩ rfl rfl hl.1 rfl (lv_room (Nat.le_of_ble_eq_true rfl)) dL_law_870 (my_le (by omega) (by omega))) hS (fun q _ w => hFM q w) hFM (fun r_15 u t H1 locs ht hvm hw hB hz1 hk1 hS => ?_)
  obtain ⟨f_16, w_17, a_18⟩ := u
  obtain ⟨c_19, c_20, c_21, c_22, c_23⟩ := hw
  have hP1 : va_P (dC, dI) vwCl (wsM h adm cAm f_16 w_17 a_18) H1 := by have h9 := hB.1; rw [ht] at h9; exact h9
  have hI : inV s dC dI ob ad cA h adm cAm yO kO tA tD td td H1 := inv_m (gv := gv) (gw := gw) (gr := gr) (tM := td) hs hXX hOO hGG h00 hNN hLL hEE hP1 c_19 c_20 (vM_fr hMM.2.2.2.1 c_21 c_22 rfl rfl rfl rfl rfl) (sW_fr hMM.2.2.2.2.1 c_22 rfl rfl) ⟨((c_21 3 rfl).trans hMM.2.2.2.2.2.1), ((c_21 33 rfl).trans hMM.2.2.2.2.2.2.1), ((c_21 34 rfl).trans hMM.2.2.2.2.2.2.2.1), ((c_21 35 rfl).trans hMM.2.2.2.2.2.2.2.2.1), ((c_21 6 rfl).trans hMM.2.2.2.2.2.2.2.2.2.1), ((c_21 2 rfl).trans hMM.2.2.2.2.2.2.2.2.2.2)⟩ hz1 hk1
  generalize H1 = H at hI hS ⊢
  refine lv_pop hx hb dL_law_873 rfl ?_
  refine lv_goto (tgt := 1014) hx hb dL_law_874 (by decide) ?_
  refine W.widen (k := nc + 9) (n := ns + 371) (by omega) (by omega) ?_
  exact kk _ _ _ _ hI hS (lv_sub hl [0, 1, 2, 3, 4] rfl)
set_option maxHeartbeats 4000000 in
set_option maxRecDepth 100000 in
theorem law_20 {p : Program} {e : Env} {s : State} {m : MethodId} {below : List Frame} {meth : Method} {c : Code} (l : Launch) {b L : Nat} {xs : Nat → Int32} (hL : L ≤ 3584) (hl0 : l.stackTraces = false) (C0 : lw_At p s m meth c b L xs) {A : Nat → Prop} (hAe : A = fun q => s.heap.size ≤ q) {dC : Nat → ClassId} {dI : Nat → Nat → Nat} {ob ad : Nat → Nat} {cA : Nat → ClassId} {h : Nat} {adm : Nat → Nat} {cAm : Nat → ClassId} {yO : Nat} {kO : ClassId} {tA : Nat → Nat} {tD : Nat} {tkK tkV tkL : Nat → Nat} {tkB : Nat → Nat → Int32} {tkT sN : Nat} (hs : iSep s ob ad h adm yO) (hKX : va_K (dC, dI) vwCl (tyX cA) s) (hKM : va_K (dC, dI) vwCl (tyM cAm) s) (hKO : va_K (dC, dI) vwCl [(kO, .long)] s) (hst : iSt s A tA tkK tkV tkL tkB tkT sN tD) (H : Heap) (locs : List Loc) (td : Nat → Int32) (hI : inV s dC dI ob ad cA h adm cAm yO kO tA tD td td H) (hS : va_S A s.heap H locs) (i : Int32) (J : Nat) (hi : i.toInt = (J : Int)) (hJ : J + 7 ≤ L) (nc ns : Nat) (hnc : nc + 9 ≤ 741096) (hns : ns + 371 ≤ 6872816) (ls : Array Slot) (hl : lv_has ls 7 [(0, .ref b), (1, .ref (ob 0)), (2, .ref h), (3, .ref yO), (4, .int i)]) (kk : ∀ (H : Heap) (locs : List Loc) (td : Nat → Int32) (ls : Array Slot), inV s dC dI ob ad cA h adm cAm yO kO tA tD td td H → va_S A s.heap H locs → lv_has ls 7 [(0, .ref b), (1, .ref (ob 0)), (2, .ref h), (3, .ref yO), (4, .int i)] → W p l e room_1 s m #[Value.ref b] below meth c H locs (nc + 9) (ns + 371) (lw_Z below #[Value.ref b] s) (F0 m 1014 ls [])) : W p l e room_1 s m #[Value.ref b] below meth c H locs nc ns (lw_Z below #[Value.ref b] s) (F0 m 877 ls []) := by
  obtain ⟨hx, hb, hr, hml, hown, hts0, hX, hbl, hlocks, hgv⟩ := id C0
  have hb : c.code = cL_law := hb
  have hown : s.vm.findClass RL = some m.cls := hown
  have hts : ∀ w ∈ (.initialized RL :: lw_good : List Cond), w.before #[Value.ref b] s = true := fun w h => (List.mem_cons.mp h).elim (fun q => by rw [q]; exact hts0 _ (lwgT kw_1_0)) (fun q => hts0 w (lwgT q))
  have hA : ∀ q : Nat, s.heap.size ≤ q → A q := fun q h => by rw [hAe]; exact h
  have hbA : ¬ A b := by rw [hAe]; exact Nat.not_le.mpr hbl
  refine lv_aload_n hx hb dL_law_877 rfl (lv_at hl 1 rfl) ?_
  refine lv_aload_n hx hb dL_law_878 rfl (lv_at hl 0 rfl) ?_
  refine lv_iload hx hb dL_law_879 (lv_at hl 4 rfl) ?_
  refine lv_iconst (v := 1) hx hb dL_law_881 (by decide) ?_
  refine lv_iadd hx hb dL_law_882 ?_
  refine lv_topi (fun v_1 ev_1 => ?_)
  refine va_sld hx hb hX hbl hbA hS (my_si (k := 1) hi hJ hL ev_1 (by decide) (by decide) (by decide)) dL_law_883 ?_
  refine lv_topi (fun v_2 ev_2 => ?_)
  refine lv_aload_n hx hb dL_law_884 rfl (lv_at hl 0 rfl) ?_
  refine lv_iload hx hb dL_law_885 (lv_at hl 4 rfl) ?_
  refine lv_iconst (v := 2) hx hb dL_law_887 (by decide) ?_
  refine lv_iadd hx hb dL_law_888 ?_
  refine lv_topi (fun v_3 ev_3 => ?_)
  refine va_sld hx hb hX hbl hbA hS (my_si (k := 2) hi hJ hL ev_3 (by decide) (by decide) (by decide)) dL_law_889 ?_
  refine lv_topi (fun v_4 ev_4 => ?_)
  obtain ⟨fv, wd, ar, gv, gw, gr, fO, gla, gfr, gra, grc, gln, gcn, glr, ce, ef, hXX, hMM, hOO, hGG, h00, hNN, hLL, hEE⟩ := hI
  have hFX : ∀ q, aX ob ad H.size q → A q := fun q w => hA q (w.elim (fun ⟨k, hk⟩ => hs.2.2.1 k q hk) (fun w => Nat.le_trans hS.1 w))
  refine va_calli (va_runV (As := [.int v_2, .int v_4]) (rest := []) ⟨hx, hb, hml, hown, hts⟩ (x_wheeled l dC dI H.size ob ad cA hs.1 fv wd ar hXX.2.1 hXX.2.2.1 v_2 v_4) (cwV 2 hts (gV kw_5_225 kw_5_226 kw_5_227 kw_1_1 kw_5_228) rfl rfl rfl (by decide +kernel) ⟨Nat.le_of_ble_eq_true rfl, Nat.le_of_ble_eq_true rfl⟩) ⟨fun a U g mk q => ⟨q.1, q.2.1, q.2.2.1, va_K.moved (u := U) (U := U.calling g mk a) (Vm.Alike.refl U.vm) q.2.2.2⟩, va_recv hKX hXX.1 (ci := 11) (q0 := 0) rfl rfl, fun U hU hW => ⟨rfl, by rw [hU], by rw [hU]; exact hXX.1, va_K.moved hW.alike hKX⟩⟩ rfl rfl hl.1 rfl (lv_room (Nat.le_of_ble_eq_true rfl)) dL_law_890 (my_le (by omega) (by omega))) hS (fun q _ w => hFX q w) hFX (fun r_5 u t H1 locs ht hvm hw hB hz1 hk1 hS => ?_)
  obtain ⟨f_6, w_7, a_8⟩ := u
  obtain ⟨c_9, c_10, c_11, c_12, c_13, c_14⟩ := hw
  have hP1 : va_P (dC, dI) vwCl (wsX ob ad cA f_6 w_7 a_8) H1 := by have h9 := hB.1; rw [ht] at h9; exact h9
  have hI : inV s dC dI ob ad cA h adm cAm yO kO tA tD td td H1 := inv_x (ar := ar) (tX := td) hs hMM hOO hGG h00 hNN hLL hEE hP1 c_9 c_10 (my_tO hXX.2.2.2.1 (congrArg (fun z => z.1) c_13)) ⟨((c_11 7 rfl).trans hXX.2.2.2.2.1), ((c_11 4 rfl).trans hXX.2.2.2.2.2.1), ((c_11 11 rfl).trans hXX.2.2.2.2.2.2.1), ((c_11 12 rfl).trans hXX.2.2.2.2.2.2.2.1), ((c_11 9 rfl).trans hXX.2.2.2.2.2.2.2.2.1), ((c_11 0 rfl).trans hXX.2.2.2.2.2.2.2.2.2)⟩ (c_11 30 rfl) (congrArg (fun z => z.2.2) c_13) hz1 hk1
  generalize H1 = H at hI hS ⊢
  refine lv_pop hx hb dL_law_893 rfl ?_
  refine lv_aload_n hx hb dL_law_894 rfl (lv_at hl 2 rfl) ?_
  refine lv_aload_n hx hb dL_law_895 rfl (lv_at hl 0 rfl) ?_
  refine lv_iload hx hb dL_law_896 (lv_at hl 4 rfl) ?_
  refine lv_iconst (v := 1) hx hb dL_law_898 (by decide) ?_
  refine lv_iadd hx hb dL_law_899 ?_
  refine lv_topi (fun v_15 ev_15 => ?_)
  refine va_sld hx hb hX hbl hbA hS (my_si (k := 1) hi hJ hL ev_15 (by decide) (by decide) (by decide)) dL_law_900 ?_
  refine lv_topi (fun v_16 ev_16 => ?_)
  refine lv_aload_n hx hb dL_law_901 rfl (lv_at hl 0 rfl) ?_
  refine lv_iload hx hb dL_law_902 (lv_at hl 4 rfl) ?_
  refine lv_iconst (v := 2) hx hb dL_law_904 (by decide) ?_
  refine lv_iadd hx hb dL_law_905 ?_
  refine lv_topi (fun v_17 ev_17 => ?_)
  refine va_sld hx hb hX hbl hbA hS (my_si (k := 2) hi hJ hL ev_17 (by decide) (by decide) (by decide)) dL_law_906 ?_
  refine lv_topi (fun v_18 ev_18 => ?_)
  obtain ⟨fv, wd, ar, gv, gw, gr, fO, gla, gfr, gra, grc, gln, gcn, glr, ce, ef, hXX, hMM, hOO, hGG, h00, hNN, hLL, hEE⟩ := hI
  have hFM : ∀ q, aM h adm H.size q → A q := fun q w => hA q (w.elim (fun ⟨k, hk⟩ => hs.2.2.2.1 k q hk) (fun w => Nat.le_trans hS.1 w))
  refine va_calli (va_runV (As := [.int v_16, .int v_18]) (rest := []) ⟨hx, hb, hml, hown, hts⟩ (m_wheeled l dC dI H.size h adm cAm hs.2.1 gv gw gr hMM.2.1 hMM.2.2.1 v_16 v_18) (cwV 2 hts (gV kw_9_16 kw_9_17 kw_9_18 kw_1_15 kw_9_19) rfl rfl rfl (by decide +kernel) ⟨Nat.le_of_ble_eq_true rfl, Nat.le_of_ble_eq_true rfl⟩) ⟨fun a U g mk q => ⟨q.1, q.2.1, q.2.2.1, va_K.moved (u := U) (U := U.calling g mk a) (Vm.Alike.refl U.vm) q.2.2.2⟩, va_recv hKM hMM.1 (ci := 12) (q0 := 0) rfl rfl, fun U hU hW => ⟨rfl, by rw [hU], by rw [hU]; exact hMM.1, va_K.moved hW.alike hKM⟩⟩ rfl rfl hl.1 rfl (lv_room (Nat.le_of_ble_eq_true rfl)) dL_law_907 (my_le (by omega) (by omega))) hS (fun q _ w => hFM q w) hFM (fun r_19 u t H1 locs ht hvm hw hB hz1 hk1 hS => ?_)
  obtain ⟨f_20, w_21, a_22⟩ := u
  obtain ⟨c_23, c_24, c_25, c_26, c_27⟩ := hw
  have hP1 : va_P (dC, dI) vwCl (wsM h adm cAm f_20 w_21 a_22) H1 := by have h9 := hB.1; rw [ht] at h9; exact h9
  have hI : inV s dC dI ob ad cA h adm cAm yO kO tA tD td td H1 := inv_m (gv := gv) (gw := gw) (gr := gr) (tM := td) hs hXX hOO hGG h00 hNN hLL hEE hP1 c_23 c_24 (vM_fr hMM.2.2.2.1 c_25 c_26 rfl rfl rfl rfl rfl) (sW_fr hMM.2.2.2.2.1 c_26 rfl rfl) ⟨((c_25 3 rfl).trans hMM.2.2.2.2.2.1), ((c_25 33 rfl).trans hMM.2.2.2.2.2.2.1), ((c_25 34 rfl).trans hMM.2.2.2.2.2.2.2.1), ((c_25 35 rfl).trans hMM.2.2.2.2.2.2.2.2.1), ((c_25 6 rfl).trans hMM.2.2.2.2.2.2.2.2.2.1), ((c_25 2 rfl).trans hMM.2.2.2.2.2.2.2.2.2.2)⟩ hz1 hk1
  generalize H1 = H at hI hS ⊢
  refine lv_pop hx hb dL_law_910 rfl ?_
  refine lv_goto (tgt := 1014) hx hb dL_law_911 (by decide) ?_
  refine W.widen (k := nc + 9) (n := ns + 371) (by omega) (by omega) ?_
  exact kk _ _ _ _ hI hS (lv_sub hl [0, 1, 2, 3, 4] rfl)
set_option maxHeartbeats 4000000 in
set_option maxRecDepth 100000 in
theorem law_21 {p : Program} {e : Env} {s : State} {m : MethodId} {below : List Frame} {meth : Method} {c : Code} (l : Launch) {b L : Nat} {xs : Nat → Int32} (hL : L ≤ 3584) (hl0 : l.stackTraces = false) (C0 : lw_At p s m meth c b L xs) {A : Nat → Prop} (hAe : A = fun q => s.heap.size ≤ q) {dC : Nat → ClassId} {dI : Nat → Nat → Nat} {ob ad : Nat → Nat} {cA : Nat → ClassId} {h : Nat} {adm : Nat → Nat} {cAm : Nat → ClassId} {yO : Nat} {kO : ClassId} {tA : Nat → Nat} {tD : Nat} {tkK tkV tkL : Nat → Nat} {tkB : Nat → Nat → Int32} {tkT sN : Nat} (hs : iSep s ob ad h adm yO) (hKX : va_K (dC, dI) vwCl (tyX cA) s) (hKM : va_K (dC, dI) vwCl (tyM cAm) s) (hKO : va_K (dC, dI) vwCl [(kO, .long)] s) (hst : iSt s A tA tkK tkV tkL tkB tkT sN tD) (H : Heap) (locs : List Loc) (td : Nat → Int32) (hI : inV s dC dI ob ad cA h adm cAm yO kO tA tD td td H) (hS : va_S A s.heap H locs) (i : Int32) (J : Nat) (hi : i.toInt = (J : Int)) (hJ : J + 7 ≤ L) (nc ns : Nat) (hnc : nc + 9 ≤ 741096) (hns : ns + 371 ≤ 6872816) (ls : Array Slot) (hl : lv_has ls 7 [(0, .ref b), (1, .ref (ob 0)), (2, .ref h), (3, .ref yO), (4, .int i)]) (kk : ∀ (H : Heap) (locs : List Loc) (td : Nat → Int32) (ls : Array Slot), inV s dC dI ob ad cA h adm cAm yO kO tA tD td td H → va_S A s.heap H locs → lv_has ls 7 [(0, .ref b), (1, .ref (ob 0)), (2, .ref h), (3, .ref yO), (4, .int i)] → W p l e room_1 s m #[Value.ref b] below meth c H locs (nc + 9) (ns + 371) (lw_Z below #[Value.ref b] s) (F0 m 1014 ls [])) : W p l e room_1 s m #[Value.ref b] below meth c H locs nc ns (lw_Z below #[Value.ref b] s) (F0 m 914 ls []) := by
  obtain ⟨hx, hb, hr, hml, hown, hts0, hX, hbl, hlocks, hgv⟩ := id C0
  have hb : c.code = cL_law := hb
  have hown : s.vm.findClass RL = some m.cls := hown
  have hts : ∀ w ∈ (.initialized RL :: lw_good : List Cond), w.before #[Value.ref b] s = true := fun w h => (List.mem_cons.mp h).elim (fun q => by rw [q]; exact hts0 _ (lwgT kw_1_0)) (fun q => hts0 w (lwgT q))
  have hA : ∀ q : Nat, s.heap.size ≤ q → A q := fun q h => by rw [hAe]; exact h
  have hbA : ¬ A b := by rw [hAe]; exact Nat.not_le.mpr hbl
  refine lv_aload_n hx hb dL_law_914 rfl (lv_at hl 1 rfl) ?_
  refine lv_aload_n hx hb dL_law_915 rfl (lv_at hl 0 rfl) ?_
  refine lv_iload hx hb dL_law_916 (lv_at hl 4 rfl) ?_
  refine lv_iconst (v := 1) hx hb dL_law_918 (by decide) ?_
  refine lv_iadd hx hb dL_law_919 ?_
  refine lv_topi (fun v_1 ev_1 => ?_)
  refine va_sld hx hb hX hbl hbA hS (my_si (k := 1) hi hJ hL ev_1 (by decide) (by decide) (by decide)) dL_law_920 ?_
  refine lv_topi (fun v_2 ev_2 => ?_)
  obtain ⟨fv, wd, ar, gv, gw, gr, fO, gla, gfr, gra, grc, gln, gcn, glr, ce, ef, hXX, hMM, hOO, hGG, h00, hNN, hLL, hEE⟩ := hI
  have hFX : ∀ q, aX ob ad H.size q → A q := fun q w => hA q (w.elim (fun ⟨k, hk⟩ => hs.2.2.1 k q hk) (fun w => Nat.le_trans hS.1 w))
  refine va_calli (va_runV (As := [.int v_2]) (rest := []) ⟨hx, hb, hml, hown, hts⟩ (x_tried l dC dI H.size ob ad cA hs.1 fv wd ar hXX.2.1 hXX.2.2.1 gla gfr gra grc gln gcn glr ce ef v_2) (cwV 1 hts (gV kw_5_233 kw_5_234 kw_5_235 kw_1_1 kw_5_236) rfl rfl rfl (by decide +kernel) ⟨Nat.le_of_ble_eq_true rfl, Nat.le_of_ble_eq_true rfl⟩) ⟨fun a U g mk q => ⟨q.1, ⟨q.2.1.1, q.2.1.2.1, va_K.moved (u := U) (U := U.calling g mk a) (Vm.Alike.refl U.vm) q.2.1.2.2⟩, ls_mv (U := U.calling g mk a) rfl (Vm.Alike.refl U.vm) q.2.2⟩, va_recv hKX hXX.1 (ci := 11) (q0 := 0) rfl rfl, fun U hU hW => ⟨rfl, ⟨by rw [hU], by rw [hU]; exact hXX.1, va_K.moved hW.alike hKX⟩, hGG U hU hW.alike⟩⟩ rfl rfl hl.1 rfl (lv_room (Nat.le_of_ble_eq_true rfl)) dL_law_921 (my_le (by omega) (by omega))) hS (fun q _ w => hFX q w) hFX (fun r_3 u t H1 locs ht hvm hw hB hz1 hk1 hS => ?_)
  obtain ⟨f_4, w_5, a_6⟩ := u
  obtain ⟨c_7, c_8, c_9, c_10, c_11, c_12, c_13⟩ := hw
  have hP1 : va_P (dC, dI) vwCl (wsX ob ad cA f_4 w_5 a_6) H1 := by have h9 := hB.1; rw [ht] at h9; exact h9
  have hI : inV s dC dI ob ad cA h adm cAm yO kO tA tD td td H1 := inv_x (ar := ar) (tX := td) hs hMM hOO hGG h00 hNN hLL hEE hP1 c_7 c_8 (my_tO hXX.2.2.2.1 c_12) ⟨((c_9 7 rfl).trans hXX.2.2.2.2.1), ((c_9 4 rfl).trans hXX.2.2.2.2.2.1), ((c_9 11 rfl).trans hXX.2.2.2.2.2.2.1), ((c_9 12 rfl).trans hXX.2.2.2.2.2.2.2.1), ((c_9 9 rfl).trans hXX.2.2.2.2.2.2.2.2.1), ((c_9 0 rfl).trans hXX.2.2.2.2.2.2.2.2.2)⟩ (c_9 30 rfl) c_11 hz1 hk1
  generalize H1 = H at hI hS ⊢
  refine lv_pop hx hb dL_law_924 rfl ?_
  refine lv_aload_n hx hb dL_law_925 rfl (lv_at hl 2 rfl) ?_
  refine lv_aload_n hx hb dL_law_926 rfl (lv_at hl 0 rfl) ?_
  refine lv_iload hx hb dL_law_927 (lv_at hl 4 rfl) ?_
  refine lv_iconst (v := 1) hx hb dL_law_929 (by decide) ?_
  refine lv_iadd hx hb dL_law_930 ?_
  refine lv_topi (fun v_14 ev_14 => ?_)
  refine va_sld hx hb hX hbl hbA hS (my_si (k := 1) hi hJ hL ev_14 (by decide) (by decide) (by decide)) dL_law_931 ?_
  refine lv_topi (fun v_15 ev_15 => ?_)
  obtain ⟨fv, wd, ar, gv, gw, gr, fO, gla, gfr, gra, grc, gln, gcn, glr, ce, ef, hXX, hMM, hOO, hGG, h00, hNN, hLL, hEE⟩ := hI
  have hFM : ∀ q, aM h adm H.size q → A q := fun q w => hA q (w.elim (fun ⟨k, hk⟩ => hs.2.2.2.1 k q hk) (fun w => Nat.le_trans hS.1 w))
  refine va_calli (va_runV (As := [.int v_15]) (rest := []) ⟨hx, hb, hml, hown, hts⟩ (m_tried l dC dI H.size h adm cAm hs.2.1 gv gw gr hMM.2.1 hMM.2.2.1 v_15 hMM.2.2.2.2.1 hMM.2.2.2.1) (cwV 1 hts (gV kw_8_232 kw_8_233 kw_8_234 kw_1_15 kw_8_235) rfl rfl rfl (by decide +kernel) ⟨Nat.le_of_ble_eq_true rfl, Nat.le_of_ble_eq_true rfl⟩) ⟨fun a U g mk q => ⟨q.1, q.2.1, q.2.2.1, va_K.moved (u := U) (U := U.calling g mk a) (Vm.Alike.refl U.vm) q.2.2.2⟩, va_recv hKM hMM.1 (ci := 12) (q0 := 0) rfl rfl, fun U hU hW => ⟨rfl, by rw [hU], by rw [hU]; exact hMM.1, va_K.moved hW.alike hKM⟩⟩ rfl rfl hl.1 rfl (lv_room (Nat.le_of_ble_eq_true rfl)) dL_law_932 (my_le (by omega) (by omega))) hS (fun q _ w => hFM q w) hFM (fun r_16 u t H1 locs ht hvm hw hB hz1 hk1 hS => ?_)
  obtain ⟨f_17, w_18, a_19⟩ := u
  obtain ⟨c_20, c_21, c_22, c_23, c_24, c_25⟩ := hw
  have hP1 : va_P (dC, dI) vwCl (wsM h adm cAm f_17 w_18 a_19) H1 := by have h9 := hB.1; rw [ht] at h9; exact h9
  have hI : inV s dC dI ob ad cA h adm cAm yO kO tA tD td td H1 := inv_m (gv := gv) (gw := gw) (gr := gr) (tM := td) hs hXX hOO hGG h00 hNN hLL hEE hP1 c_20 c_21 (vM_fr hMM.2.2.2.1 c_22 c_23 rfl rfl rfl rfl rfl) c_24 ⟨((c_22 3 rfl).trans hMM.2.2.2.2.2.1), ((c_22 33 rfl).trans hMM.2.2.2.2.2.2.1), ((c_22 34 rfl).trans hMM.2.2.2.2.2.2.2.1), ((c_22 35 rfl).trans hMM.2.2.2.2.2.2.2.2.1), ((c_22 6 rfl).trans hMM.2.2.2.2.2.2.2.2.2.1), ((c_22 2 rfl).trans hMM.2.2.2.2.2.2.2.2.2.2)⟩ hz1 hk1
  generalize H1 = H at hI hS ⊢
  refine lv_pop hx hb dL_law_935 rfl ?_
  refine lv_goto (tgt := 1014) hx hb dL_law_936 (by decide) ?_
  refine W.widen (k := nc + 9) (n := ns + 371) (by omega) (by omega) ?_
  exact kk _ _ _ _ hI hS (lv_sub hl [0, 1, 2, 3, 4] rfl)
set_option maxHeartbeats 4000000 in
set_option maxRecDepth 100000 in
theorem law_22 {p : Program} {e : Env} {s : State} {m : MethodId} {below : List Frame} {meth : Method} {c : Code} (l : Launch) {b L : Nat} {xs : Nat → Int32} (hL : L ≤ 3584) (hl0 : l.stackTraces = false) (C0 : lw_At p s m meth c b L xs) {A : Nat → Prop} (hAe : A = fun q => s.heap.size ≤ q) {dC : Nat → ClassId} {dI : Nat → Nat → Nat} {ob ad : Nat → Nat} {cA : Nat → ClassId} {h : Nat} {adm : Nat → Nat} {cAm : Nat → ClassId} {yO : Nat} {kO : ClassId} {tA : Nat → Nat} {tD : Nat} {tkK tkV tkL : Nat → Nat} {tkB : Nat → Nat → Int32} {tkT sN : Nat} (hs : iSep s ob ad h adm yO) (hKX : va_K (dC, dI) vwCl (tyX cA) s) (hKM : va_K (dC, dI) vwCl (tyM cAm) s) (hKO : va_K (dC, dI) vwCl [(kO, .long)] s) (hst : iSt s A tA tkK tkV tkL tkB tkT sN tD) (H : Heap) (locs : List Loc) (td : Nat → Int32) (hI : inV s dC dI ob ad cA h adm cAm yO kO tA tD td td H) (hS : va_S A s.heap H locs) (i : Int32) (J : Nat) (hi : i.toInt = (J : Int)) (hJ : J + 7 ≤ L) (nc ns : Nat) (hnc : nc + 9 ≤ 741096) (hns : ns + 371 ≤ 6872816) (ls : Array Slot) (hl : lv_has ls 7 [(0, .ref b), (1, .ref (ob 0)), (2, .ref h), (3, .ref yO), (4, .int i)]) (kk : ∀ (H : Heap) (locs : List Loc) (td : Nat → Int32) (ls : Array Slot), inV s dC dI ob ad cA h adm cAm yO kO tA tD td td H → va_S A s.heap H locs → lv_has ls 7 [(0, .ref b), (1, .ref (ob 0)), (2, .ref h), (3, .ref yO), (4, .int i)] → W p l e room_1 s m #[Value.ref b] below meth c H locs (nc + 9) (ns + 371) (lw_Z below #[Value.ref b] s) (F0 m 1014 ls [])) : W p l e room_1 s m #[Value.ref b] below meth c H locs nc ns (lw_Z below #[Value.ref b] s) (F0 m 939 ls []) := by
  obtain ⟨hx, hb, hr, hml, hown, hts0, hX, hbl, hlocks, hgv⟩ := id C0
  have hb : c.code = cL_law := hb
  have hown : s.vm.findClass RL = some m.cls := hown
  have hts : ∀ w ∈ (.initialized RL :: lw_good : List Cond), w.before #[Value.ref b] s = true := fun w h => (List.mem_cons.mp h).elim (fun q => by rw [q]; exact hts0 _ (lwgT kw_1_0)) (fun q => hts0 w (lwgT q))
  have hA : ∀ q : Nat, s.heap.size ≤ q → A q := fun q h => by rw [hAe]; exact h
  have hbA : ¬ A b := by rw [hAe]; exact Nat.not_le.mpr hbl
  refine lv_aload_n hx hb dL_law_939 rfl (lv_at hl 1 rfl) ?_
  refine lv_aload_n hx hb dL_law_940 rfl (lv_at hl 0 rfl) ?_
  refine lv_iload hx hb dL_law_941 (lv_at hl 4 rfl) ?_
  refine lv_iconst (v := 1) hx hb dL_law_943 (by decide) ?_
  refine lv_iadd hx hb dL_law_944 ?_
  refine lv_topi (fun v_1 ev_1 => ?_)
  refine va_sld hx hb hX hbl hbA hS (my_si (k := 1) hi hJ hL ev_1 (by decide) (by decide) (by decide)) dL_law_945 ?_
  refine lv_topi (fun v_2 ev_2 => ?_)
  obtain ⟨fv, wd, ar, gv, gw, gr, fO, gla, gfr, gra, grc, gln, gcn, glr, ce, ef, hXX, hMM, hOO, hGG, h00, hNN, hLL, hEE⟩ := hI
  have hFX : ∀ q, aX ob ad H.size q → A q := fun q w => hA q (w.elim (fun ⟨k, hk⟩ => hs.2.2.1 k q hk) (fun w => Nat.le_trans hS.1 w))
  refine va_calli (va_runV (As := [.int v_2]) (rest := []) ⟨hx, hb, hml, hown, hts⟩ (x_seatedE l dC dI H.size ob ad cA hs.1 fv wd ar hXX.2.1 hXX.2.2.1 v_2) (cwV 1 hts (gV kw_5_237 kw_5_238 kw_5_239 kw_1_1 kw_6_0) rfl rfl rfl (by decide +kernel) ⟨Nat.le_of_ble_eq_true rfl, Nat.le_of_ble_eq_true rfl⟩) ⟨fun a U g mk q => ⟨q.1, q.2.1, q.2.2.1, va_K.moved (u := U) (U := U.calling g mk a) (Vm.Alike.refl U.vm) q.2.2.2⟩, va_recv hKX hXX.1 (ci := 11) (q0 := 0) rfl rfl, fun U hU hW => ⟨rfl, by rw [hU], by rw [hU]; exact hXX.1, va_K.moved hW.alike hKX⟩⟩ rfl rfl hl.1 rfl (lv_room (Nat.le_of_ble_eq_true rfl)) dL_law_946 (my_le (by omega) (by omega))) hS (fun q _ w => hFX q w) hFX (fun r_3 u t H1 locs ht hvm hw hB hz1 hk1 hS => ?_)
  obtain ⟨f_4, w_5, a_6⟩ := u
  obtain ⟨c_7, c_8, c_9, c_10, c_11, c_12, c_13⟩ := hw
  have hP1 : va_P (dC, dI) vwCl (wsX ob ad cA f_4 w_5 a_6) H1 := by have h9 := hB.1; rw [ht] at h9; exact h9
  have hnx1 : (f_4 0).toInt = 0 := c_12
  have hI : inV s dC dI ob ad cA h adm cAm yO kO tA tD (va_up td 5 (f_4 0)) td H1 := inv_x (ar := ar) (tX := td) hs hMM hOO hGG h00 hNN hLL hEE hP1 c_7 c_8 (my_tO hXX.2.2.2.1 (congrArg (fun z => z.1) c_11)) ⟨((c_9 7 rfl).trans hXX.2.2.2.2.1), ((c_9 4 rfl).trans hXX.2.2.2.2.2.1), ((c_9 11 rfl).trans hXX.2.2.2.2.2.2.1), ((c_9 12 rfl).trans hXX.2.2.2.2.2.2.2.1), ((c_9 9 rfl).trans hXX.2.2.2.2.2.2.2.2.1), rfl⟩ (c_9 30 rfl) (congrArg (fun z => z.2.2) c_11) hz1 hk1
  generalize H1 = H at hI hS ⊢
  refine lv_pop hx hb dL_law_949 rfl ?_
  refine lv_aload_n hx hb dL_law_950 rfl (lv_at hl 2 rfl) ?_
  refine lv_aload_n hx hb dL_law_951 rfl (lv_at hl 0 rfl) ?_
  refine lv_iload hx hb dL_law_952 (lv_at hl 4 rfl) ?_
  refine lv_iconst (v := 1) hx hb dL_law_954 (by decide) ?_
  refine lv_iadd hx hb dL_law_955 ?_
  refine lv_topi (fun v_14 ev_14 => ?_)
  refine va_sld hx hb hX hbl hbA hS (my_si (k := 1) hi hJ hL ev_14 (by decide) (by decide) (by decide)) dL_law_956 ?_
  refine lv_topi (fun v_15 ev_15 => ?_)
  obtain rfl : v_15 = v_2 := by rw [ev_15, ev_2, ev_14, ev_1]
  obtain ⟨fv, wd, ar, gv, gw, gr, fO, gla, gfr, gra, grc, gln, gcn, glr, ce, ef, hXX, hMM, hOO, hGG, h00, hNN, hLL, hEE⟩ := hI
  have hFM : ∀ q, aM h adm H.size q → A q := fun q w => hA q (w.elim (fun ⟨k, hk⟩ => hs.2.2.2.1 k q hk) (fun w => Nat.le_trans hS.1 w))
  refine va_calli (va_runV (As := [.int v_15]) (rest := []) ⟨hx, hb, hml, hown, hts⟩ (m_seatedE l dC dI H.size h adm cAm hs.2.1 gv gw gr hMM.2.1 hMM.2.2.1 v_15) (cwV 1 hts (gV kw_9_20 kw_9_21 kw_9_22 kw_1_15 kw_9_23) rfl rfl rfl (by decide +kernel) ⟨Nat.le_of_ble_eq_true rfl, Nat.le_of_ble_eq_true rfl⟩) ⟨fun a U g mk q => ⟨q.1, q.2.1, q.2.2.1, va_K.moved (u := U) (U := U.calling g mk a) (Vm.Alike.refl U.vm) q.2.2.2⟩, va_recv hKM hMM.1 (ci := 12) (q0 := 0) rfl rfl, fun U hU hW => ⟨rfl, by rw [hU], by rw [hU]; exact hMM.1, va_K.moved hW.alike hKM⟩⟩ rfl rfl hl.1 rfl (lv_room (Nat.le_of_ble_eq_true rfl)) dL_law_957 (my_le (by omega) (by omega))) hS (fun q _ w => hFM q w) hFM (fun r_16 u t H1 locs ht hvm hw hB hz1 hk1 hS => ?_)
  obtain ⟨f_17, w_18, a_19⟩ := u
  obtain ⟨c_20, c_21, c_22, c_23, c_24, c_25⟩ := hw
  have hP1 : va_P (dC, dI) vwCl (wsM h adm cAm f_17 w_18 a_19) H1 := by have h9 := hB.1; rw [ht] at h9; exact h9
  have hnx : True ∧ f_4 0 = f_17 2 := ⟨trivial, Int32.toInt_inj.mp (hnx1.trans (show (f_17 2).toInt = 0 from c_24).symm)⟩
  have hI : inV s dC dI ob ad cA h adm cAm yO kO tA tD (va_up td 5 (f_4 0)) (va_up td 5 (f_17 2)) H1 := inv_m (gv := gv) (gw := gw) (gr := gr) (tM := td) hs hXX hOO hGG h00 hNN hLL hEE hP1 c_20 c_21 (vM_fr hMM.2.2.2.1 c_22 c_23 rfl rfl rfl rfl rfl) (sW_fr hMM.2.2.2.2.1 c_23 rfl rfl) ⟨((c_22 3 rfl).trans hMM.2.2.2.2.2.1), ((c_22 33 rfl).trans hMM.2.2.2.2.2.2.1), ((c_22 34 rfl).trans hMM.2.2.2.2.2.2.2.1), ((c_22 35 rfl).trans hMM.2.2.2.2.2.2.2.2.1), ((c_22 6 rfl).trans hMM.2.2.2.2.2.2.2.2.2.1), rfl⟩ hz1 hk1
  generalize H1 = H at hI hS ⊢
  refine lv_pop hx hb dL_law_960 rfl ?_
  refine lv_goto (tgt := 1014) hx hb dL_law_961 (by decide) ?_
  refine W.widen (k := nc + 9) (n := ns + 371) (by omega) (by omega) ?_
  rw [← hnx.2] at hI
  exact kk _ _ _ _ hI hS (lv_sub hl [0, 1, 2, 3, 4] rfl)
set_option maxHeartbeats 4000000 in
set_option maxRecDepth 100000 in
theorem law_23 {p : Program} {e : Env} {s : State} {m : MethodId} {below : List Frame} {meth : Method} {c : Code} (l : Launch) {b L : Nat} {xs : Nat → Int32} (hL : L ≤ 3584) (hl0 : l.stackTraces = false) (C0 : lw_At p s m meth c b L xs) {A : Nat → Prop} (hAe : A = fun q => s.heap.size ≤ q) {dC : Nat → ClassId} {dI : Nat → Nat → Nat} {ob ad : Nat → Nat} {cA : Nat → ClassId} {h : Nat} {adm : Nat → Nat} {cAm : Nat → ClassId} {yO : Nat} {kO : ClassId} {tA : Nat → Nat} {tD : Nat} {tkK tkV tkL : Nat → Nat} {tkB : Nat → Nat → Int32} {tkT sN : Nat} (hs : iSep s ob ad h adm yO) (hKX : va_K (dC, dI) vwCl (tyX cA) s) (hKM : va_K (dC, dI) vwCl (tyM cAm) s) (hKO : va_K (dC, dI) vwCl [(kO, .long)] s) (hst : iSt s A tA tkK tkV tkL tkB tkT sN tD) (H : Heap) (locs : List Loc) (td : Nat → Int32) (hI : inV s dC dI ob ad cA h adm cAm yO kO tA tD td td H) (hS : va_S A s.heap H locs) (i : Int32) (J : Nat) (hi : i.toInt = (J : Int)) (hJ : J + 7 ≤ L) (nc ns : Nat) (hnc : nc + 9 ≤ 741096) (hns : ns + 371 ≤ 6872816) (ls : Array Slot) (hl : lv_has ls 7 [(0, .ref b), (1, .ref (ob 0)), (2, .ref h), (3, .ref yO), (4, .int i)]) (kk : ∀ (H : Heap) (locs : List Loc) (td : Nat → Int32) (ls : Array Slot), inV s dC dI ob ad cA h adm cAm yO kO tA tD td td H → va_S A s.heap H locs → lv_has ls 7 [(0, .ref b), (1, .ref (ob 0)), (2, .ref h), (3, .ref yO), (4, .int i)] → W p l e room_1 s m #[Value.ref b] below meth c H locs (nc + 9) (ns + 371) (lw_Z below #[Value.ref b] s) (F0 m 1014 ls [])) : W p l e room_1 s m #[Value.ref b] below meth c H locs nc ns (lw_Z below #[Value.ref b] s) (F0 m 964 ls []) := by
  obtain ⟨hx, hb, hr, hml, hown, hts0, hX, hbl, hlocks, hgv⟩ := id C0
  have hb : c.code = cL_law := hb
  have hown : s.vm.findClass RL = some m.cls := hown
  have hts : ∀ w ∈ (.initialized RL :: lw_good : List Cond), w.before #[Value.ref b] s = true := fun w h => (List.mem_cons.mp h).elim (fun q => by rw [q]; exact hts0 _ (lwgT kw_1_0)) (fun q => hts0 w (lwgT q))
  have hA : ∀ q : Nat, s.heap.size ≤ q → A q := fun q h => by rw [hAe]; exact h
  have hbA : ¬ A b := by rw [hAe]; exact Nat.not_le.mpr hbl
  refine lv_aload_n hx hb dL_law_964 rfl (lv_at hl 1 rfl) ?_
  refine lv_aload_n hx hb dL_law_965 rfl (lv_at hl 0 rfl) ?_
  refine lv_iload hx hb dL_law_966 (lv_at hl 4 rfl) ?_
  refine lv_iconst (v := 1) hx hb dL_law_968 (by decide) ?_
  refine lv_iadd hx hb dL_law_969 ?_
  refine lv_topi (fun v_1 ev_1 => ?_)
  refine va_sld hx hb hX hbl hbA hS (my_si (k := 1) hi hJ hL ev_1 (by decide) (by decide) (by decide)) dL_law_970 ?_
  refine lv_topi (fun v_2 ev_2 => ?_)
  obtain ⟨fv, wd, ar, gv, gw, gr, fO, gla, gfr, gra, grc, gln, gcn, glr, ce, ef, hXX, hMM, hOO, hGG, h00, hNN, hLL, hEE⟩ := hI
  have hFX : ∀ q, aX ob ad H.size q → A q := fun q w => hA q (w.elim (fun ⟨k, hk⟩ => hs.2.2.1 k q hk) (fun w => Nat.le_trans hS.1 w))
  refine va_calli (va_runV (As := [.int v_2]) (rest := []) ⟨hx, hb, hml, hown, hts⟩ (x_seatedAt l dC dI H.size ob ad cA hs.1 fv wd ar hXX.2.1 hXX.2.2.1 v_2) (cwV 1 hts (gV kw_6_56 kw_6_57 kw_6_58 kw_1_1 kw_6_59) rfl rfl rfl (by decide +kernel) ⟨Nat.le_of_ble_eq_true rfl, Nat.le_of_ble_eq_true rfl⟩) ⟨fun a U g mk q => ⟨q.1, q.2.1, q.2.2.1, va_K.moved (u := U) (U := U.calling g mk a) (Vm.Alike.refl U.vm) q.2.2.2⟩, va_recv hKX hXX.1 (ci := 11) (q0 := 0) rfl rfl, fun U hU hW => ⟨rfl, by rw [hU], by rw [hU]; exact hXX.1, va_K.moved hW.alike hKX⟩⟩ rfl rfl hl.1 rfl (lv_room (Nat.le_of_ble_eq_true rfl)) dL_law_971 (my_le (by omega) (by omega))) hS (fun q _ w => hFX q w) hFX (fun r_3 u t H1 locs ht hvm hw hB hz1 hk1 hS => ?_)
  obtain ⟨f_4, w_5, a_6⟩ := u
  obtain ⟨c_7, c_8, c_9, c_10, c_11, c_12⟩ := hw
  have hP1 : va_P (dC, dI) vwCl (wsX ob ad cA f_4 w_5 a_6) H1 := by have h9 := hB.1; rw [ht] at h9; exact h9
  have hI : inV s dC dI ob ad cA h adm cAm yO kO tA tD td td H1 := inv_x (ar := ar) (tX := td) hs hMM hOO hGG h00 hNN hLL hEE hP1 c_7 c_8 (my_tO hXX.2.2.2.1 (congrArg (fun z => z.1) c_11)) ⟨((c_9 7 rfl).trans hXX.2.2.2.2.1), ((c_9 4 rfl).trans hXX.2.2.2.2.2.1), ((c_9 11 rfl).trans hXX.2.2.2.2.2.2.1), ((c_9 12 rfl).trans hXX.2.2.2.2.2.2.2.1), ((c_9 9 rfl).trans hXX.2.2.2.2.2.2.2.2.1), ((c_9 0 rfl).trans hXX.2.2.2.2.2.2.2.2.2)⟩ (c_9 30 rfl) (congrArg (fun z => z.2.2) c_11) hz1 hk1
  generalize H1 = H at hI hS ⊢
  refine lv_pop hx hb dL_law_974 rfl ?_
  refine lv_aload_n hx hb dL_law_975 rfl (lv_at hl 2 rfl) ?_
  refine lv_aload_n hx hb dL_law_976 rfl (lv_at hl 0 rfl) ?_
  refine lv_iload hx hb dL_law_977 (lv_at hl 4 rfl) ?_
  refine lv_iconst (v := 1) hx hb dL_law_979 (by decide) ?_
  refine lv_iadd hx hb dL_law_980 ?_
  refine lv_topi (fun v_13 ev_13 => ?_)
  refine va_sld hx hb hX hbl hbA hS (my_si (k := 1) hi hJ hL ev_13 (by decide) (by decide) (by decide)) dL_law_981 ?_
  refine lv_topi (fun v_14 ev_14 => ?_)
  obtain ⟨fv, wd, ar, gv, gw, gr, fO, gla, gfr, gra, grc, gln, gcn, glr, ce, ef, hXX, hMM, hOO, hGG, h00, hNN, hLL, hEE⟩ := hI
  have hFM : ∀ q, aM h adm H.size q → A q := fun q w => hA q (w.elim (fun ⟨k, hk⟩ => hs.2.2.2.1 k q hk) (fun w => Nat.le_trans hS.1 w))
  refine va_calli (va_runV (As := [.int v_14]) (rest := []) ⟨hx, hb, hml, hown, hts⟩ (m_seatedAt l dC dI H.size h adm cAm hs.2.1 gv gw gr hMM.2.1 hMM.2.2.1 v_14) (cwV 1 hts (gV kw_9_28 kw_9_29 kw_9_30 kw_1_15 kw_9_31) rfl rfl rfl (by decide +kernel) ⟨Nat.le_of_ble_eq_true rfl, Nat.le_of_ble_eq_true rfl⟩) ⟨fun a U g mk q => ⟨q.1, q.2.1, q.2.2.1, va_K.moved (u := U) (U := U.calling g mk a) (Vm.Alike.refl U.vm) q.2.2.2⟩, va_recv hKM hMM.1 (ci := 12) (q0 := 0) rfl rfl, fun U hU hW => ⟨rfl, by rw [hU], by rw [hU]; exact hMM.1, va_K.moved hW.alike hKM⟩⟩ rfl rfl hl.1 rfl (lv_room (Nat.le_of_ble_eq_true rfl)) dL_law_982 (my_le (by omega) (by omega))) hS (fun q _ w => hFM q w) hFM (fun r_15 u t H1 locs ht hvm hw hB hz1 hk1 hS => ?_)
  obtain ⟨f_16, w_17, a_18⟩ := u
  obtain ⟨c_19, c_20, c_21, c_22, c_23⟩ := hw
  have hP1 : va_P (dC, dI) vwCl (wsM h adm cAm f_16 w_17 a_18) H1 := by have h9 := hB.1; rw [ht] at h9; exact h9
  have hI : inV s dC dI ob ad cA h adm cAm yO kO tA tD td td H1 := inv_m (gv := gv) (gw := gw) (gr := gr) (tM := td) hs hXX hOO hGG h00 hNN hLL hEE hP1 c_19 c_20 (vM_fr hMM.2.2.2.1 c_21 c_22 rfl rfl rfl rfl rfl) (sW_fr hMM.2.2.2.2.1 c_22 rfl rfl) ⟨((c_21 3 rfl).trans hMM.2.2.2.2.2.1), ((c_21 33 rfl).trans hMM.2.2.2.2.2.2.1), ((c_21 34 rfl).trans hMM.2.2.2.2.2.2.2.1), ((c_21 35 rfl).trans hMM.2.2.2.2.2.2.2.2.1), ((c_21 6 rfl).trans hMM.2.2.2.2.2.2.2.2.2.1), ((c_21 2 rfl).trans hMM.2.2.2.2.2.2.2.2.2.2)⟩ hz1 hk1
  generalize H1 = H at hI hS ⊢
  refine lv_pop hx hb dL_law_985 rfl ?_
  refine lv_goto (tgt := 1014) hx hb dL_law_986 (by decide) ?_
  refine W.widen (k := nc + 9) (n := ns + 371) (by omega) (by omega) ?_
  exact kk _ _ _ _ hI hS (lv_sub hl [0, 1, 2, 3, 4] rfl)
set_option maxHeartbeats 4000000 in
set_option maxRecDepth 100000 in
theorem law_24 {p : Program} {e : Env} {s : State} {m : MethodId} {below : List Frame} {meth : Method} {c : Code} (l : Launch) {b L : Nat} {xs : Nat → Int32} (hL : L ≤ 3584) (hl0 : l.stackTraces = false) (C0 : lw_At p s m meth c b L xs) {A : Nat → Prop} (hAe : A = fun q => s.heap.size ≤ q) {dC : Nat → ClassId} {dI : Nat → Nat → Nat} {ob ad : Nat → Nat} {cA : Nat → ClassId} {h : Nat} {adm : Nat → Nat} {cAm : Nat → ClassId} {yO : Nat} {kO : ClassId} {tA : Nat → Nat} {tD : Nat} {tkK tkV tkL : Nat → Nat} {tkB : Nat → Nat → Int32} {tkT sN : Nat} (hs : iSep s ob ad h adm yO) (hKX : va_K (dC, dI) vwCl (tyX cA) s) (hKM : va_K (dC, dI) vwCl (tyM cAm) s) (hKO : va_K (dC, dI) vwCl [(kO, .long)] s) (hst : iSt s A tA tkK tkV tkL tkB tkT sN tD) (H : Heap) (locs : List Loc) (td : Nat → Int32) (hI : inV s dC dI ob ad cA h adm cAm yO kO tA tD td td H) (hS : va_S A s.heap H locs) (i : Int32) (J : Nat) (hi : i.toInt = (J : Int)) (hJ : J + 7 ≤ L) (nc ns : Nat) (hnc : nc + 9 ≤ 741096) (hns : ns + 371 ≤ 6872816) (ls : Array Slot) (hl : lv_has ls 7 [(0, .ref b), (1, .ref (ob 0)), (2, .ref h), (3, .ref yO), (4, .int i)]) (kk : ∀ (H : Heap) (locs : List Loc) (td : Nat → Int32) (ls : Array Slot), inV s dC dI ob ad cA h adm cAm yO kO tA tD td td H → va_S A s.heap H locs → lv_has ls 7 [(0, .ref b), (1, .ref (ob 0)), (2, .ref h), (3, .ref yO), (4, .int i)] → W p l e room_1 s m #[Value.ref b] below meth c H locs (nc + 9) (ns + 371) (lw_Z below #[Value.ref b] s) (F0 m 1014 ls [])) : W p l e room_1 s m #[Value.ref b] below meth c H locs nc ns (lw_Z below #[Value.ref b] s) (F0 m 989 ls []) := by
  obtain ⟨hx, hb, hr, hml, hown, hts0, hX, hbl, hlocks, hgv⟩ := id C0
  have hb : c.code = cL_law := hb
  have hown : s.vm.findClass RL = some m.cls := hown
  have hts : ∀ w ∈ (.initialized RL :: lw_good : List Cond), w.before #[Value.ref b] s = true := fun w h => (List.mem_cons.mp h).elim (fun q => by rw [q]; exact hts0 _ (lwgT kw_1_0)) (fun q => hts0 w (lwgT q))
  have hA : ∀ q : Nat, s.heap.size ≤ q → A q := fun q h => by rw [hAe]; exact h
  have hbA : ¬ A b := by rw [hAe]; exact Nat.not_le.mpr hbl
  refine lv_aload_n hx hb dL_law_989 rfl (lv_at hl 1 rfl) ?_
  refine lv_aload_n hx hb dL_law_990 rfl (lv_at hl 0 rfl) ?_
  refine lv_iload hx hb dL_law_991 (lv_at hl 4 rfl) ?_
  refine lv_iconst (v := 1) hx hb dL_law_993 (by decide) ?_
  refine lv_iadd hx hb dL_law_994 ?_
  refine lv_topi (fun v_1 ev_1 => ?_)
  refine va_sld hx hb hX hbl hbA hS (my_si (k := 1) hi hJ hL ev_1 (by decide) (by decide) (by decide)) dL_law_995 ?_
  refine lv_topi (fun v_2 ev_2 => ?_)
  obtain ⟨fv, wd, ar, gv, gw, gr, fO, gla, gfr, gra, grc, gln, gcn, glr, ce, ef, hXX, hMM, hOO, hGG, h00, hNN, hLL, hEE⟩ := hI
  have hFX : ∀ q, aX ob ad H.size q → A q := fun q w => hA q (w.elim (fun ⟨k, hk⟩ => hs.2.2.1 k q hk) (fun w => Nat.le_trans hS.1 w))
  refine va_calli (va_runV (As := [.int v_2]) (rest := []) ⟨hx, hb, hml, hown, hts⟩ (x_count l dC dI H.size ob ad cA hs.1 fv wd ar hXX.2.1 hXX.2.2.1 v_2) (cwV 1 hts (gV kw_6_60 kw_6_61 kw_6_62 kw_1_1 kw_6_63) rfl rfl rfl (by decide +kernel) ⟨Nat.le_of_ble_eq_true rfl, Nat.le_of_ble_eq_true rfl⟩) ⟨fun a U g mk q => ⟨q.1, q.2.1, q.2.2.1, va_K.moved (u := U) (U := U.calling g mk a) (Vm.Alike.refl U.vm) q.2.2.2⟩, va_recv hKX hXX.1 (ci := 11) (q0 := 0) rfl rfl, fun U hU hW => ⟨rfl, by rw [hU], by rw [hU]; exact hXX.1, va_K.moved hW.alike hKX⟩⟩ rfl rfl hl.1 rfl (lv_room (Nat.le_of_ble_eq_true rfl)) dL_law_996 (my_le (by omega) (by omega))) hS (fun q _ w => hFX q w) hFX (fun r_3 u t H1 locs ht hvm hw hB hz1 hk1 hS => ?_)
  obtain ⟨f_4, w_5, a_6⟩ := u
  obtain ⟨c_7, c_8, c_9, c_10, c_11, c_12⟩ := hw
  have hP1 : va_P (dC, dI) vwCl (wsX ob ad cA f_4 w_5 a_6) H1 := by have h9 := hB.1; rw [ht] at h9; exact h9
  have hI : inV s dC dI ob ad cA h adm cAm yO kO tA tD td td H1 := inv_x (ar := ar) (tX := td) hs hMM hOO hGG h00 hNN hLL hEE hP1 c_7 c_8 (my_tO hXX.2.2.2.1 (congrArg (fun z => z.1) c_11)) ⟨((c_9 7 rfl).trans hXX.2.2.2.2.1), ((c_9 4 rfl).trans hXX.2.2.2.2.2.1), ((c_9 11 rfl).trans hXX.2.2.2.2.2.2.1), ((c_9 12 rfl).trans hXX.2.2.2.2.2.2.2.1), ((c_9 9 rfl).trans hXX.2.2.2.2.2.2.2.2.1), ((c_9 0 rfl).trans hXX.2.2.2.2.2.2.2.2.2)⟩ (c_9 30 rfl) (congrArg (fun z => z.2.2) c_11) hz1 hk1
  generalize H1 = H at hI hS ⊢
  refine lv_pop hx hb dL_law_999 rfl ?_
  refine lv_aload_n hx hb dL_law_1000 rfl (lv_at hl 2 rfl) ?_
  refine lv_aload_n hx hb dL_law_1001 rfl (lv_at hl 0 rfl) ?_
  refine lv_iload hx hb dL_law_1002 (lv_at hl 4 rfl) ?_
  refine lv_iconst (v := 1) hx hb dL_law_1004 (by decide) ?_
  refine lv_iadd hx hb dL_law_1005 ?_
  refine lv_topi (fun v_13 ev_13 => ?_)
  refine va_sld hx hb hX hbl hbA hS (my_si (k := 1) hi hJ hL ev_13 (by decide) (by decide) (by decide)) dL_law_1006 ?_
  refine lv_topi (fun v_14 ev_14 => ?_)
  obtain ⟨fv, wd, ar, gv, gw, gr, fO, gla, gfr, gra, grc, gln, gcn, glr, ce, ef, hXX, hMM, hOO, hGG, h00, hNN, hLL, hEE⟩ := hI
  have hFM : ∀ q, aM h adm H.size q → A q := fun q w => hA q (w.elim (fun ⟨k, hk⟩ => hs.2.2.2.1 k q hk) (fun w => Nat.le_trans hS.1 w))
  refine va_calli (va_runV (As := [.int v_14]) (rest := []) ⟨hx, hb, hml, hown, hts⟩ (m_count l dC dI H.size h adm cAm hs.2.1 gv gw gr hMM.2.1 hMM.2.2.1 v_14) (cwV 1 hts (gV kw_9_32 kw_9_33 kw_9_34 kw_1_15 kw_9_35) rfl rfl rfl (by decide +kernel) ⟨Nat.le_of_ble_eq_true rfl, Nat.le_of_ble_eq_true rfl⟩) ⟨fun a U g mk q => ⟨q.1, q.2.1, q.2.2.1, va_K.moved (u := U) (U := U.calling g mk a) (Vm.Alike.refl U.vm) q.2.2.2⟩, va_recv hKM hMM.1 (ci := 12) (q0 := 0) rfl rfl, fun U hU hW => ⟨rfl, by rw [hU], by rw [hU]; exact hMM.1, va_K.moved hW.alike hKM⟩⟩ rfl rfl hl.1 rfl (lv_room (Nat.le_of_ble_eq_true rfl)) dL_law_1007 (my_le (by omega) (by omega))) hS (fun q _ w => hFM q w) hFM (fun r_15 u t H1 locs ht hvm hw hB hz1 hk1 hS => ?_)
  obtain ⟨f_16, w_17, a_18⟩ := u
  obtain ⟨c_19, c_20, c_21, c_22, c_23⟩ := hw
  have hP1 : va_P (dC, dI) vwCl (wsM h adm cAm f_16 w_17 a_18) H1 := by have h9 := hB.1; rw [ht] at h9; exact h9
  have hI : inV s dC dI ob ad cA h adm cAm yO kO tA tD td td H1 := inv_m (gv := gv) (gw := gw) (gr := gr) (tM := td) hs hXX hOO hGG h00 hNN hLL hEE hP1 c_19 c_20 (vM_fr hMM.2.2.2.1 c_21 c_22 rfl rfl rfl rfl rfl) (sW_fr hMM.2.2.2.2.1 c_22 rfl rfl) ⟨((c_21 3 rfl).trans hMM.2.2.2.2.2.1), ((c_21 33 rfl).trans hMM.2.2.2.2.2.2.1), ((c_21 34 rfl).trans hMM.2.2.2.2.2.2.2.1), ((c_21 35 rfl).trans hMM.2.2.2.2.2.2.2.2.1), ((c_21 6 rfl).trans hMM.2.2.2.2.2.2.2.2.2.1), ((c_21 2 rfl).trans hMM.2.2.2.2.2.2.2.2.2.2)⟩ hz1 hk1
  generalize H1 = H at hI hS ⊢
  refine lv_pop hx hb dL_law_1010 rfl ?_
  refine lv_goto (tgt := 1014) hx hb dL_law_1011 (by decide) ?_
  refine W.widen (k := nc + 9) (n := ns + 371) (by omega) (by omega) ?_
  exact kk _ _ _ _ hI hS (lv_sub hl [0, 1, 2, 3, 4] rfl)
