/-! the law, call by call: 0 to 7 -/
section LL
variable {ω ω' : xO} {κ : xK} {l : Launch} {b L : Nat} {xs : Nat → Int32} {ki vi : Nat → Nat} {kss : Nat → Option Nat} {i K : Int} {C N : xMem}
theorem dL_232 : decode code 232 = .ok (.aload_n 1, 1) := by decide +kernel
theorem dL_233 : decode code 233 = .ok (.aload_n 0, 1) := by decide +kernel
theorem dL_234 : decode code 234 = .ok (.iload_n 3, 1) := by decide +kernel
theorem dL_235 : decode code 235 = .ok (.iconst 1, 1) := by decide +kernel
theorem dL_236 : decode code 236 = .ok (.iadd, 1) := by decide +kernel
theorem dL_237 : decode code 237 = .ok (.iaload, 1) := by decide +kernel
theorem dL_238 : decode code 238 = .ok (.aload_n 0, 1) := by decide +kernel
theorem dL_239 : decode code 239 = .ok (.iload_n 3, 1) := by decide +kernel
theorem dL_240 : decode code 240 = .ok (.iconst 2, 1) := by decide +kernel
theorem dL_241 : decode code 241 = .ok (.iadd, 1) := by decide +kernel
theorem dL_242 : decode code 242 = .ok (.iaload, 1) := by decide +kernel
theorem dL_243 : decode code 243 = .ok (.aload_n 0, 1) := by decide +kernel
theorem dL_244 : decode code 244 = .ok (.iload_n 3, 1) := by decide +kernel
theorem dL_245 : decode code 245 = .ok (.iconst 3, 1) := by decide +kernel
theorem dL_246 : decode code 246 = .ok (.iadd, 1) := by decide +kernel
theorem dL_247 : decode code 247 = .ok (.iaload, 1) := by decide +kernel
theorem dL_248 : decode code 248 = .ok (.invokevirtual 13, 3) := by decide +kernel
theorem dL_251 : decode code 251 = .ok (.aload_n 2, 1) := by decide +kernel
theorem dL_252 : decode code 252 = .ok (.aload_n 0, 1) := by decide +kernel
theorem dL_253 : decode code 253 = .ok (.iload_n 3, 1) := by decide +kernel
theorem dL_254 : decode code 254 = .ok (.iconst 1, 1) := by decide +kernel
theorem dL_255 : decode code 255 = .ok (.iadd, 1) := by decide +kernel
theorem dL_256 : decode code 256 = .ok (.iaload, 1) := by decide +kernel
theorem dL_257 : decode code 257 = .ok (.aload_n 0, 1) := by decide +kernel
theorem dL_258 : decode code 258 = .ok (.iload_n 3, 1) := by decide +kernel
theorem dL_259 : decode code 259 = .ok (.iconst 2, 1) := by decide +kernel
theorem dL_260 : decode code 260 = .ok (.iadd, 1) := by decide +kernel
theorem dL_261 : decode code 261 = .ok (.iaload, 1) := by decide +kernel
theorem dL_262 : decode code 262 = .ok (.aload_n 0, 1) := by decide +kernel
theorem dL_263 : decode code 263 = .ok (.iload_n 3, 1) := by decide +kernel
theorem dL_264 : decode code 264 = .ok (.iconst 3, 1) := by decide +kernel
theorem dL_265 : decode code 265 = .ok (.iadd, 1) := by decide +kernel
theorem dL_266 : decode code 266 = .ok (.iaload, 1) := by decide +kernel
theorem dL_267 : decode code 267 = .ok (.invokevirtual 17, 3) := by decide +kernel
theorem dL_270 : decode code 270 = .ok (.if_icmp .eq 1181, 3) := by decide +kernel
set_option maxHeartbeats 800000 in
set_option maxRecDepth 100000 in
theorem L_0 (h : LOk ω ω' κ l b L xs ki vi kss) (hi : 0 ≤ i ∧ i + 6 ≤ (L : Int)) (hk : kI K) (hW : Wo K C N) (hF : Fc N) (kk : ∀ C' N', Wo (K + 100) C' N' → Fc N' → LW ω ω' κ b i 1451 [] C' N') : LW ω ω' κ b i 232 [] C N := by
  refine l_xr fun hx _ => ?_
  have hI := hW.inv
  have hs := h.2.1.2.2.2.2.1
  have hm := h.2.2.1.2.2.2.2.1
  refine l_a1 h dL_232 ?_
  refine l_arg h hi 1 (by decide) dL_233 dL_234 dL_235 dL_236 dL_237 ?_
  refine l_arg h hi 2 (by decide) dL_238 dL_239 dL_240 dL_241 dL_242 ?_
  refine l_arg h hi 3 (by decide) dL_243 dL_244 dL_245 dL_246 dL_247 ?_
  refine l_C (As := [.int (iI (az xs i 1)), .int (iI (az xs i 2)), .int (iI (az xs i 3))]) (rest := []) h dL_248 m_ml_L_13 m_im_X6_way m_se_X6_way rfl (by decide) rfl rfl rfl (c_X6_way hs hI.1 (az_R _ _ _) (az_R _ _ _) (az_R _ _ _)) ?_
  refine l_a2 h dL_251 ?_
  refine l_arg h hi 1 (by decide) dL_252 dL_253 dL_254 dL_255 dL_256 ?_
  refine l_arg h hi 2 (by decide) dL_257 dL_258 dL_259 dL_260 dL_261 ?_
  refine l_arg h hi 3 (by decide) dL_262 dL_263 dL_264 dL_265 dL_266 ?_
  refine l_N (As := [.int (iI (az xs i 1)), .int (iI (az xs i 2)), .int (iI (az xs i 3))]) (rest := [_]) h dL_267 m_ml_L_17 m_im_X7_way m_se_X7_way rfl (by decide) rfl rfl rfl (c_X7_way hm (az_R _ _ _) (az_R _ _ _) (az_R _ _ _)) ?_
  have w := w_way (a := az xs i 1) (c := az xs i 2) (v := az xs i 3) hW hk
  exact l_eq h dL_270 rfl w.1 (kk _ _ w.2 (F_way hF))
theorem dL_275 : decode code 275 = .ok (.aload_n 1, 1) := by decide +kernel
theorem dL_276 : decode code 276 = .ok (.aload_n 0, 1) := by decide +kernel
theorem dL_277 : decode code 277 = .ok (.iload_n 3, 1) := by decide +kernel
theorem dL_278 : decode code 278 = .ok (.iconst 1, 1) := by decide +kernel
theorem dL_279 : decode code 279 = .ok (.iadd, 1) := by decide +kernel
theorem dL_280 : decode code 280 = .ok (.iaload, 1) := by decide +kernel
theorem dL_281 : decode code 281 = .ok (.aload_n 0, 1) := by decide +kernel
theorem dL_282 : decode code 282 = .ok (.iload_n 3, 1) := by decide +kernel
theorem dL_283 : decode code 283 = .ok (.iconst 2, 1) := by decide +kernel
theorem dL_284 : decode code 284 = .ok (.iadd, 1) := by decide +kernel
theorem dL_285 : decode code 285 = .ok (.iaload, 1) := by decide +kernel
theorem dL_286 : decode code 286 = .ok (.invokevirtual 18, 3) := by decide +kernel
theorem dL_289 : decode code 289 = .ok (.aload_n 2, 1) := by decide +kernel
theorem dL_290 : decode code 290 = .ok (.aload_n 0, 1) := by decide +kernel
theorem dL_291 : decode code 291 = .ok (.iload_n 3, 1) := by decide +kernel
theorem dL_292 : decode code 292 = .ok (.iconst 1, 1) := by decide +kernel
theorem dL_293 : decode code 293 = .ok (.iadd, 1) := by decide +kernel
theorem dL_294 : decode code 294 = .ok (.iaload, 1) := by decide +kernel
theorem dL_295 : decode code 295 = .ok (.aload_n 0, 1) := by decide +kernel
theorem dL_296 : decode code 296 = .ok (.iload_n 3, 1) := by decide +kernel
theorem dL_297 : decode code 297 = .ok (.iconst 2, 1) := by decide +kernel
theorem dL_298 : decode code 298 = .ok (.iadd, 1) := by decide +kernel
theorem dL_299 : decode code 299 = .ok (.iaload, 1) := by decide +kernel
theorem dL_300 : decode code 300 = .ok (.invokevirtual 22, 3) := by decide +kernel
theorem dL_303 : decode code 303 = .ok (.if_icmp .eq 1148, 3) := by decide +kernel
set_option maxHeartbeats 800000 in
set_option maxRecDepth 100000 in
theorem L_1 (h : LOk ω ω' κ l b L xs ki vi kss) (hi : 0 ≤ i ∧ i + 6 ≤ (L : Int)) (hk : kI K) (hW : Wo K C N) (hF : Fc N) (kk : ∀ C' N', Wo (K + 100) C' N' → Fc N' → LW ω ω' κ b i 1451 [] C' N') : LW ω ω' κ b i 275 [] C N := by
  refine l_xr fun hx _ => ?_
  have hI := hW.inv
  have hs := h.2.1.2.2.2.2.1
  have hm := h.2.2.1.2.2.2.2.1
  refine l_a1 h dL_275 ?_
  refine l_arg h hi 1 (by decide) dL_276 dL_277 dL_278 dL_279 dL_280 ?_
  refine l_arg h hi 2 (by decide) dL_281 dL_282 dL_283 dL_284 dL_285 ?_
  refine l_C (As := [.int (iI (az xs i 1)), .int (iI (az xs i 2))]) (rest := []) h dL_286 m_ml_L_18 m_im_X6_far m_se_X6_far rfl (by decide) rfl rfl rfl (c_X6_far hs hI.1 (az_R _ _ _) (az_R _ _ _)) ?_
  refine l_a2 h dL_289 ?_
  refine l_arg h hi 1 (by decide) dL_290 dL_291 dL_292 dL_293 dL_294 ?_
  refine l_arg h hi 2 (by decide) dL_295 dL_296 dL_297 dL_298 dL_299 ?_
  refine l_Nq (As := [.int (iI (az xs i 1)), .int (iI (az xs i 2))]) (rest := [_]) h dL_300 m_ml_L_22 m_im_X7_far m_se_X7_far rfl (by decide) rfl rfl rfl (c_X7_far hm hI.2 hF (az_R _ _ _) (az_R _ _ _)) (fun ρ N1 hp => ?_)
  obtain ⟨z, rfl, rfl, hq⟩ := hp
  have w := w_far (a := az xs i 1) (c := az xs i 2) hW hk
  exact l_eq h dL_303 rfl w.1 (kk _ _ (w.2.qe hq.q) hq.q.2)
theorem dL_308 : decode code 308 = .ok (.aload_n 1, 1) := by decide +kernel
theorem dL_309 : decode code 309 = .ok (.aload_n 0, 1) := by decide +kernel
theorem dL_310 : decode code 310 = .ok (.iload_n 3, 1) := by decide +kernel
theorem dL_311 : decode code 311 = .ok (.iconst 1, 1) := by decide +kernel
theorem dL_312 : decode code 312 = .ok (.iadd, 1) := by decide +kernel
theorem dL_313 : decode code 313 = .ok (.iaload, 1) := by decide +kernel
theorem dL_314 : decode code 314 = .ok (.aload_n 0, 1) := by decide +kernel
theorem dL_315 : decode code 315 = .ok (.iload_n 3, 1) := by decide +kernel
theorem dL_316 : decode code 316 = .ok (.iconst 2, 1) := by decide +kernel
theorem dL_317 : decode code 317 = .ok (.iadd, 1) := by decide +kernel
theorem dL_318 : decode code 318 = .ok (.iaload, 1) := by decide +kernel
theorem dL_319 : decode code 319 = .ok (.invokevirtual 23, 3) := by decide +kernel
theorem dL_322 : decode code 322 = .ok (.aload_n 2, 1) := by decide +kernel
theorem dL_323 : decode code 323 = .ok (.aload_n 0, 1) := by decide +kernel
theorem dL_324 : decode code 324 = .ok (.iload_n 3, 1) := by decide +kernel
theorem dL_325 : decode code 325 = .ok (.iconst 1, 1) := by decide +kernel
theorem dL_326 : decode code 326 = .ok (.iadd, 1) := by decide +kernel
theorem dL_327 : decode code 327 = .ok (.iaload, 1) := by decide +kernel
theorem dL_328 : decode code 328 = .ok (.aload_n 0, 1) := by decide +kernel
theorem dL_329 : decode code 329 = .ok (.iload_n 3, 1) := by decide +kernel
theorem dL_330 : decode code 330 = .ok (.iconst 2, 1) := by decide +kernel
theorem dL_331 : decode code 331 = .ok (.iadd, 1) := by decide +kernel
theorem dL_332 : decode code 332 = .ok (.iaload, 1) := by decide +kernel
theorem dL_333 : decode code 333 = .ok (.invokevirtual 26, 3) := by decide +kernel
theorem dL_336 : decode code 336 = .ok (.if_icmp .eq 1115, 3) := by decide +kernel
set_option maxHeartbeats 800000 in
set_option maxRecDepth 100000 in
theorem L_2 (h : LOk ω ω' κ l b L xs ki vi kss) (hi : 0 ≤ i ∧ i + 6 ≤ (L : Int)) (hk : kI K) (hW : Wo K C N) (hF : Fc N) (kk : ∀ C' N', Wo (K + 100) C' N' → Fc N' → LW ω ω' κ b i 1451 [] C' N') : LW ω ω' κ b i 308 [] C N := by
  refine l_xr fun hx _ => ?_
  have hI := hW.inv
  have hs := h.2.1.2.2.2.2.1
  have hm := h.2.2.1.2.2.2.2.1
  refine l_a1 h dL_308 ?_
  refine l_arg h hi 1 (by decide) dL_309 dL_310 dL_311 dL_312 dL_313 ?_
  refine l_arg h hi 2 (by decide) dL_314 dL_315 dL_316 dL_317 dL_318 ?_
  refine l_C (As := [.int (iI (az xs i 1)), .int (iI (az xs i 2))]) (rest := []) h dL_319 m_ml_L_23 m_im_X6_person m_se_X6_person rfl (by decide) rfl rfl rfl (c_X6_person hs hI.1 (az_R _ _ _) (az_R _ _ _)) ?_
  refine l_a2 h dL_322 ?_
  refine l_arg h hi 1 (by decide) dL_323 dL_324 dL_325 dL_326 dL_327 ?_
  refine l_arg h hi 2 (by decide) dL_328 dL_329 dL_330 dL_331 dL_332 ?_
  refine l_N (As := [.int (iI (az xs i 1)), .int (iI (az xs i 2))]) (rest := [_]) h dL_333 m_ml_L_26 m_im_X7_person m_se_X7_person rfl (by decide) rfl rfl rfl (c_X7_person hm hI.2 (az_R _ _ _) (az_R _ _ _)) ?_
  have w := w_person (k := az xs i 1) (a := az xs i 2) hW hk
  exact l_eq h dL_336 rfl w.1 (kk _ _ w.2 (F_person hI.2 hF))
theorem dL_341 : decode code 341 = .ok (.aload_n 1, 1) := by decide +kernel
theorem dL_342 : decode code 342 = .ok (.aload_n 0, 1) := by decide +kernel
theorem dL_343 : decode code 343 = .ok (.iload_n 3, 1) := by decide +kernel
theorem dL_344 : decode code 344 = .ok (.iconst 1, 1) := by decide +kernel
theorem dL_345 : decode code 345 = .ok (.iadd, 1) := by decide +kernel
theorem dL_346 : decode code 346 = .ok (.iaload, 1) := by decide +kernel
theorem dL_347 : decode code 347 = .ok (.aload_n 0, 1) := by decide +kernel
theorem dL_348 : decode code 348 = .ok (.iload_n 3, 1) := by decide +kernel
theorem dL_349 : decode code 349 = .ok (.iconst 2, 1) := by decide +kernel
theorem dL_350 : decode code 350 = .ok (.iadd, 1) := by decide +kernel
theorem dL_351 : decode code 351 = .ok (.iaload, 1) := by decide +kernel
theorem dL_352 : decode code 352 = .ok (.invokevirtual 27, 3) := by decide +kernel
theorem dL_355 : decode code 355 = .ok (.aload_n 2, 1) := by decide +kernel
theorem dL_356 : decode code 356 = .ok (.aload_n 0, 1) := by decide +kernel
theorem dL_357 : decode code 357 = .ok (.iload_n 3, 1) := by decide +kernel
theorem dL_358 : decode code 358 = .ok (.iconst 1, 1) := by decide +kernel
theorem dL_359 : decode code 359 = .ok (.iadd, 1) := by decide +kernel
theorem dL_360 : decode code 360 = .ok (.iaload, 1) := by decide +kernel
theorem dL_361 : decode code 361 = .ok (.aload_n 0, 1) := by decide +kernel
theorem dL_362 : decode code 362 = .ok (.iload_n 3, 1) := by decide +kernel
theorem dL_363 : decode code 363 = .ok (.iconst 2, 1) := by decide +kernel
theorem dL_364 : decode code 364 = .ok (.iadd, 1) := by decide +kernel
theorem dL_365 : decode code 365 = .ok (.iaload, 1) := by decide +kernel
theorem dL_366 : decode code 366 = .ok (.invokevirtual 30, 3) := by decide +kernel
theorem dL_369 : decode code 369 = .ok (.if_icmp .eq 1082, 3) := by decide +kernel
set_option maxHeartbeats 800000 in
set_option maxRecDepth 100000 in
theorem L_3 (h : LOk ω ω' κ l b L xs ki vi kss) (hi : 0 ≤ i ∧ i + 6 ≤ (L : Int)) (hk : kI K) (hW : Wo K C N) (hF : Fc N) (kk : ∀ C' N', Wo (K + 100) C' N' → Fc N' → LW ω ω' κ b i 1451 [] C' N') : LW ω ω' κ b i 341 [] C N := by
  refine l_xr fun hx _ => ?_
  have hI := hW.inv
  have hs := h.2.1.2.2.2.2.1
  have hm := h.2.2.1.2.2.2.2.1
  refine l_a1 h dL_341 ?_
  refine l_arg h hi 1 (by decide) dL_342 dL_343 dL_344 dL_345 dL_346 ?_
  refine l_arg h hi 2 (by decide) dL_347 dL_348 dL_349 dL_350 dL_351 ?_
  refine l_C (As := [.int (iI (az xs i 1)), .int (iI (az xs i 2))]) (rest := []) h dL_352 m_ml_L_27 m_im_X6_of m_se_X6_of rfl (by decide) rfl rfl rfl (c_X6_of hs hI.1 (az_R _ _ _) (az_R _ _ _)) ?_
  refine l_a2 h dL_355 ?_
  refine l_arg h hi 1 (by decide) dL_356 dL_357 dL_358 dL_359 dL_360 ?_
  refine l_arg h hi 2 (by decide) dL_361 dL_362 dL_363 dL_364 dL_365 ?_
  refine l_N (As := [.int (iI (az xs i 1)), .int (iI (az xs i 2))]) (rest := [_]) h dL_366 m_ml_L_30 m_im_X7_of m_se_X7_of rfl (by decide) rfl rfl rfl (c_X7_of hm hI.2 (az_R _ _ _) (az_R _ _ _)) ?_
  have w := w_of (p := az xs i 1) (w := az xs i 2) hW hk
  exact l_eq h dL_369 rfl w.1 (kk _ _ w.2 (F_of hF))
theorem dL_374 : decode code 374 = .ok (.aload_n 1, 1) := by decide +kernel
theorem dL_375 : decode code 375 = .ok (.aload_n 0, 1) := by decide +kernel
theorem dL_376 : decode code 376 = .ok (.iload_n 3, 1) := by decide +kernel
theorem dL_377 : decode code 377 = .ok (.iconst 1, 1) := by decide +kernel
theorem dL_378 : decode code 378 = .ok (.iadd, 1) := by decide +kernel
theorem dL_379 : decode code 379 = .ok (.iaload, 1) := by decide +kernel
theorem dL_380 : decode code 380 = .ok (.aload_n 0, 1) := by decide +kernel
theorem dL_381 : decode code 381 = .ok (.iload_n 3, 1) := by decide +kernel
theorem dL_382 : decode code 382 = .ok (.iconst 2, 1) := by decide +kernel
theorem dL_383 : decode code 383 = .ok (.iadd, 1) := by decide +kernel
theorem dL_384 : decode code 384 = .ok (.iaload, 1) := by decide +kernel
theorem dL_385 : decode code 385 = .ok (.aload_n 0, 1) := by decide +kernel
theorem dL_386 : decode code 386 = .ok (.iload_n 3, 1) := by decide +kernel
theorem dL_387 : decode code 387 = .ok (.iconst 3, 1) := by decide +kernel
theorem dL_388 : decode code 388 = .ok (.iadd, 1) := by decide +kernel
theorem dL_389 : decode code 389 = .ok (.iaload, 1) := by decide +kernel
theorem dL_390 : decode code 390 = .ok (.invokevirtual 31, 3) := by decide +kernel
theorem dL_393 : decode code 393 = .ok (.aload_n 2, 1) := by decide +kernel
theorem dL_394 : decode code 394 = .ok (.aload_n 0, 1) := by decide +kernel
theorem dL_395 : decode code 395 = .ok (.iload_n 3, 1) := by decide +kernel
theorem dL_396 : decode code 396 = .ok (.iconst 1, 1) := by decide +kernel
theorem dL_397 : decode code 397 = .ok (.iadd, 1) := by decide +kernel
theorem dL_398 : decode code 398 = .ok (.iaload, 1) := by decide +kernel
theorem dL_399 : decode code 399 = .ok (.aload_n 0, 1) := by decide +kernel
theorem dL_400 : decode code 400 = .ok (.iload_n 3, 1) := by decide +kernel
theorem dL_401 : decode code 401 = .ok (.iconst 2, 1) := by decide +kernel
theorem dL_402 : decode code 402 = .ok (.iadd, 1) := by decide +kernel
theorem dL_403 : decode code 403 = .ok (.iaload, 1) := by decide +kernel
theorem dL_404 : decode code 404 = .ok (.aload_n 0, 1) := by decide +kernel
theorem dL_405 : decode code 405 = .ok (.iload_n 3, 1) := by decide +kernel
theorem dL_406 : decode code 406 = .ok (.iconst 3, 1) := by decide +kernel
theorem dL_407 : decode code 407 = .ok (.iadd, 1) := by decide +kernel
theorem dL_408 : decode code 408 = .ok (.iaload, 1) := by decide +kernel
theorem dL_409 : decode code 409 = .ok (.invokevirtual 34, 3) := by decide +kernel
theorem dL_412 : decode code 412 = .ok (.if_icmp .eq 1039, 3) := by decide +kernel
set_option maxHeartbeats 800000 in
set_option maxRecDepth 100000 in
theorem L_4 (h : LOk ω ω' κ l b L xs ki vi kss) (hi : 0 ≤ i ∧ i + 6 ≤ (L : Int)) (hk : kI K) (hW : Wo K C N) (hF : Fc N) (kk : ∀ C' N', Wo (K + 100) C' N' → Fc N' → LW ω ω' κ b i 1451 [] C' N') : LW ω ω' κ b i 374 [] C N := by
  refine l_xr fun hx _ => ?_
  have hI := hW.inv
  have hs := h.2.1.2.2.2.2.1
  have hm := h.2.2.1.2.2.2.2.1
  refine l_a1 h dL_374 ?_
  refine l_arg h hi 1 (by decide) dL_375 dL_376 dL_377 dL_378 dL_379 ?_
  refine l_arg h hi 2 (by decide) dL_380 dL_381 dL_382 dL_383 dL_384 ?_
  refine l_arg h hi 3 (by decide) dL_385 dL_386 dL_387 dL_388 dL_389 ?_
  refine l_C (As := [.int (iI (az xs i 1)), .int (iI (az xs i 2)), .int (iI (az xs i 3))]) (rest := []) h dL_390 m_ml_L_31 m_im_X6_change m_se_X6_change rfl (by decide) rfl rfl rfl (c_X6_change hs hI.1 (az_R _ _ _) (az_R _ _ _) (az_R _ _ _)) ?_
  refine l_a2 h dL_393 ?_
  refine l_arg h hi 1 (by decide) dL_394 dL_395 dL_396 dL_397 dL_398 ?_
  refine l_arg h hi 2 (by decide) dL_399 dL_400 dL_401 dL_402 dL_403 ?_
  refine l_arg h hi 3 (by decide) dL_404 dL_405 dL_406 dL_407 dL_408 ?_
  refine l_Nq (As := [.int (iI (az xs i 1)), .int (iI (az xs i 2)), .int (iI (az xs i 3))]) (rest := [_]) h dL_409 m_ml_L_34 m_im_X7_change m_se_X7_change rfl (by decide) rfl rfl rfl (c_X7_change hm hI.2 hF (az_R _ _ _) (az_R _ _ _) (az_R _ _ _)) (fun ρ N1 hp => ?_)
  obtain ⟨z, rfl, rfl, hq⟩ := hp
  have w := w_change (p := az xs i 1) (w := az xs i 2) (v := az xs i 3) hW hk
  exact l_eq h dL_412 rfl w.1 (kk _ _ (w.2.qe hq.q) hq.q.2)
theorem dL_417 : decode code 417 = .ok (.aload_n 1, 1) := by decide +kernel
theorem dL_418 : decode code 418 = .ok (.aload_n 0, 1) := by decide +kernel
theorem dL_419 : decode code 419 = .ok (.iload_n 3, 1) := by decide +kernel
theorem dL_420 : decode code 420 = .ok (.iconst 1, 1) := by decide +kernel
theorem dL_421 : decode code 421 = .ok (.iadd, 1) := by decide +kernel
theorem dL_422 : decode code 422 = .ok (.iaload, 1) := by decide +kernel
theorem dL_423 : decode code 423 = .ok (.aload_n 0, 1) := by decide +kernel
theorem dL_424 : decode code 424 = .ok (.iload_n 3, 1) := by decide +kernel
theorem dL_425 : decode code 425 = .ok (.iconst 2, 1) := by decide +kernel
theorem dL_426 : decode code 426 = .ok (.iadd, 1) := by decide +kernel
theorem dL_427 : decode code 427 = .ok (.iaload, 1) := by decide +kernel
theorem dL_428 : decode code 428 = .ok (.aload_n 0, 1) := by decide +kernel
theorem dL_429 : decode code 429 = .ok (.iload_n 3, 1) := by decide +kernel
theorem dL_430 : decode code 430 = .ok (.iconst 3, 1) := by decide +kernel
theorem dL_431 : decode code 431 = .ok (.iadd, 1) := by decide +kernel
theorem dL_432 : decode code 432 = .ok (.iaload, 1) := by decide +kernel
theorem dL_433 : decode code 433 = .ok (.invokevirtual 35, 3) := by decide +kernel
theorem dL_436 : decode code 436 = .ok (.aload_n 2, 1) := by decide +kernel
theorem dL_437 : decode code 437 = .ok (.aload_n 0, 1) := by decide +kernel
theorem dL_438 : decode code 438 = .ok (.iload_n 3, 1) := by decide +kernel
theorem dL_439 : decode code 439 = .ok (.iconst 1, 1) := by decide +kernel
theorem dL_440 : decode code 440 = .ok (.iadd, 1) := by decide +kernel
theorem dL_441 : decode code 441 = .ok (.iaload, 1) := by decide +kernel
theorem dL_442 : decode code 442 = .ok (.aload_n 0, 1) := by decide +kernel
theorem dL_443 : decode code 443 = .ok (.iload_n 3, 1) := by decide +kernel
theorem dL_444 : decode code 444 = .ok (.iconst 2, 1) := by decide +kernel
theorem dL_445 : decode code 445 = .ok (.iadd, 1) := by decide +kernel
theorem dL_446 : decode code 446 = .ok (.iaload, 1) := by decide +kernel
theorem dL_447 : decode code 447 = .ok (.aload_n 0, 1) := by decide +kernel
theorem dL_448 : decode code 448 = .ok (.iload_n 3, 1) := by decide +kernel
theorem dL_449 : decode code 449 = .ok (.iconst 3, 1) := by decide +kernel
theorem dL_450 : decode code 450 = .ok (.iadd, 1) := by decide +kernel
theorem dL_451 : decode code 451 = .ok (.iaload, 1) := by decide +kernel
theorem dL_452 : decode code 452 = .ok (.invokevirtual 38, 3) := by decide +kernel
theorem dL_455 : decode code 455 = .ok (.if_icmp .eq 996, 3) := by decide +kernel
set_option maxHeartbeats 800000 in
set_option maxRecDepth 100000 in
theorem L_5 (h : LOk ω ω' κ l b L xs ki vi kss) (hi : 0 ≤ i ∧ i + 6 ≤ (L : Int)) (hk : kI K) (hW : Wo K C N) (hF : Fc N) (kk : ∀ C' N', Wo (K + 100) C' N' → Fc N' → LW ω ω' κ b i 1451 [] C' N') : LW ω ω' κ b i 417 [] C N := by
  refine l_xr fun hx _ => ?_
  have hI := hW.inv
  have hs := h.2.1.2.2.2.2.1
  have hm := h.2.2.1.2.2.2.2.1
  refine l_a1 h dL_417 ?_
  refine l_arg h hi 1 (by decide) dL_418 dL_419 dL_420 dL_421 dL_422 ?_
  refine l_arg h hi 2 (by decide) dL_423 dL_424 dL_425 dL_426 dL_427 ?_
  refine l_arg h hi 3 (by decide) dL_428 dL_429 dL_430 dL_431 dL_432 ?_
  refine l_C (As := [.int (iI (az xs i 1)), .int (iI (az xs i 2)), .int (iI (az xs i 3))]) (rest := []) h dL_433 m_ml_L_35 m_im_X6_tie m_se_X6_tie rfl (by decide) rfl rfl rfl (c_X6_tie hs hI.1 (az_R _ _ _) (az_R _ _ _) (az_R _ _ _) (fun a c _ d => PeInv_joi hW.1.1.1 a c d)) ?_
  refine l_a2 h dL_436 ?_
  refine l_arg h hi 1 (by decide) dL_437 dL_438 dL_439 dL_440 dL_441 ?_
  refine l_arg h hi 2 (by decide) dL_442 dL_443 dL_444 dL_445 dL_446 ?_
  refine l_arg h hi 3 (by decide) dL_447 dL_448 dL_449 dL_450 dL_451 ?_
  refine l_Nq (As := [.int (iI (az xs i 1)), .int (iI (az xs i 2)), .int (iI (az xs i 3))]) (rest := [_]) h dL_452 m_ml_L_38 m_im_X7_tie m_se_X7_tie rfl (by decide) rfl rfl rfl (c_X7_tie hm hI.2 hF (az_R _ _ _) (az_R _ _ _) (az_R _ _ _)) (fun ρ N1 hp => ?_)
  obtain ⟨z, rfl, rfl, hq⟩ := hp
  have w := w_tie (p := az xs i 1) (s := az xs i 2) (n := az xs i 3) hW hk
  exact l_eq h dL_455 rfl w.1 (kk _ _ (w.2.qe hq.q) hq.q.2)
theorem dL_460 : decode code 460 = .ok (.aload_n 1, 1) := by decide +kernel
theorem dL_461 : decode code 461 = .ok (.aload_n 0, 1) := by decide +kernel
theorem dL_462 : decode code 462 = .ok (.iload_n 3, 1) := by decide +kernel
theorem dL_463 : decode code 463 = .ok (.iconst 1, 1) := by decide +kernel
theorem dL_464 : decode code 464 = .ok (.iadd, 1) := by decide +kernel
theorem dL_465 : decode code 465 = .ok (.iaload, 1) := by decide +kernel
theorem dL_466 : decode code 466 = .ok (.invokevirtual 39, 3) := by decide +kernel
theorem dL_469 : decode code 469 = .ok (.aload_n 2, 1) := by decide +kernel
theorem dL_470 : decode code 470 = .ok (.aload_n 0, 1) := by decide +kernel
theorem dL_471 : decode code 471 = .ok (.iload_n 3, 1) := by decide +kernel
theorem dL_472 : decode code 472 = .ok (.iconst 1, 1) := by decide +kernel
theorem dL_473 : decode code 473 = .ok (.iadd, 1) := by decide +kernel
theorem dL_474 : decode code 474 = .ok (.iaload, 1) := by decide +kernel
theorem dL_475 : decode code 475 = .ok (.invokevirtual 43, 3) := by decide +kernel
theorem dL_478 : decode code 478 = .ok (.if_icmp .eq 973, 3) := by decide +kernel
set_option maxHeartbeats 800000 in
set_option maxRecDepth 100000 in
theorem L_6 (h : LOk ω ω' κ l b L xs ki vi kss) (hi : 0 ≤ i ∧ i + 6 ≤ (L : Int)) (hk : kI K) (hW : Wo K C N) (hF : Fc N) (kk : ∀ C' N', Wo (K + 100) C' N' → Fc N' → LW ω ω' κ b i 1451 [] C' N') : LW ω ω' κ b i 460 [] C N := by
  refine l_xr fun hx _ => ?_
  have hI := hW.inv
  have hs := h.2.1.2.2.2.2.1
  have hm := h.2.2.1.2.2.2.2.1
  refine l_a1 h dL_460 ?_
  refine l_arg h hi 1 (by decide) dL_461 dL_462 dL_463 dL_464 dL_465 ?_
  refine l_C (As := [.int (iI (az xs i 1))]) (rest := []) h dL_466 m_ml_L_39 m_im_X6_cut m_se_X6_cut rfl (by decide) rfl rfl rfl (c_X6_cut hs hI.1 (az_R _ _ _)) ?_
  refine l_a2 h dL_469 ?_
  refine l_arg h hi 1 (by decide) dL_470 dL_471 dL_472 dL_473 dL_474 ?_
  refine l_N (As := [.int (iI (az xs i 1))]) (rest := [_]) h dL_475 m_ml_L_43 m_im_X7_cut m_se_X7_cut rfl (by decide) rfl rfl rfl (c_X7_cut hm hI.2 (az_R _ _ _)) ?_
  have w := w_cut (p := az xs i 1) hW hk
  exact l_eq h dL_478 rfl w.1 (kk _ _ w.2 (F_cut hF))
theorem dL_483 : decode code 483 = .ok (.aload_n 1, 1) := by decide +kernel
theorem dL_484 : decode code 484 = .ok (.aload_n 0, 1) := by decide +kernel
theorem dL_485 : decode code 485 = .ok (.iload_n 3, 1) := by decide +kernel
theorem dL_486 : decode code 486 = .ok (.iconst 1, 1) := by decide +kernel
theorem dL_487 : decode code 487 = .ok (.iadd, 1) := by decide +kernel
theorem dL_488 : decode code 488 = .ok (.iaload, 1) := by decide +kernel
theorem dL_489 : decode code 489 = .ok (.invokevirtual 44, 3) := by decide +kernel
theorem dL_492 : decode code 492 = .ok (.aload_n 2, 1) := by decide +kernel
theorem dL_493 : decode code 493 = .ok (.aload_n 0, 1) := by decide +kernel
theorem dL_494 : decode code 494 = .ok (.iload_n 3, 1) := by decide +kernel
theorem dL_495 : decode code 495 = .ok (.iconst 1, 1) := by decide +kernel
theorem dL_496 : decode code 496 = .ok (.iadd, 1) := by decide +kernel
theorem dL_497 : decode code 497 = .ok (.iaload, 1) := by decide +kernel
theorem dL_498 : decode code 498 = .ok (.invokevirtual 47, 3) := by decide +kernel
theorem dL_501 : decode code 501 = .ok (.if_icmp .eq 950, 3) := by decide +kernel
set_option maxHeartbeats 800000 in
set_option maxRecDepth 100000 in
theorem L_7 (h : LOk ω ω' κ l b L xs ki vi kss) (hi : 0 ≤ i ∧ i + 6 ≤ (L : Int)) (hk : kI K) (hW : Wo K C N) (hF : Fc N) (kk : ∀ C' N', Wo (K + 100) C' N' → Fc N' → LW ω ω' κ b i 1451 [] C' N') : LW ω ω' κ b i 483 [] C N := by
  refine l_xr fun hx _ => ?_
  have hI := hW.inv
  have hs := h.2.1.2.2.2.2.1
  have hm := h.2.2.1.2.2.2.2.1
  refine l_a1 h dL_483 ?_
  refine l_arg h hi 1 (by decide) dL_484 dL_485 dL_486 dL_487 dL_488 ?_
  refine l_C (As := [.int (iI (az xs i 1))]) (rest := []) h dL_489 m_ml_L_44 m_im_X6_rope m_se_X6_rope rfl (by decide) rfl rfl rfl (c_X6_rope hs hI.1 (az_R _ _ _)) ?_
  refine l_a2 h dL_492 ?_
  refine l_arg h hi 1 (by decide) dL_493 dL_494 dL_495 dL_496 dL_497 ?_
  refine l_N (As := [.int (iI (az xs i 1))]) (rest := [_]) h dL_498 m_ml_L_47 m_im_X7_rope m_se_X7_rope rfl (by decide) rfl rfl rfl (c_X7_rope hm hI.2 (az_R _ _ _)) ?_
  have w := w_rope (p := az xs i 1) hW hk
  exact l_eq h dL_501 rfl w.1 (kk _ _ w.2 (F_rope hF))
end LL
