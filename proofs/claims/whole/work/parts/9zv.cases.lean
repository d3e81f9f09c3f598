section
variable {p : Program} {l : Launch} {e : Env} {s : State} {m : MethodId} {below : List Frame} {meth : Method} {c : Code} {b L : Nat} {xs : Nat → Int32} {h0 : Nat} {D : va_G} {cy : Nat → ClassId} {tt : Nat → Nat} {cells slots : Nat} {Q : State → Prop} {k : Nat} {ls : Array Slot} {M : Me}
set_option maxRecDepth 20000 in
theorem lw_c0 (X : Lx p s m c b L xs h0 D cy tt cells slots) (hl : Ll ls b h0 k) (hk : k + 6 ≤ L) (hI : Inv M) (kk : ∀ M2, Inv M2 → Kc room_1 p l e s m #[Value.ref b] below meth c h0 D cy cells slots Q 1534 ls [] M2) : Kc room_1 p l e s m #[Value.ref b] below meth c h0 D cy cells slots Q 220 ls [] M := by
  obtain ⟨⟨nc, nt, np, nw, tm, o, u, hC⟩, hB⟩ := hI
  obtain ⟨r, M1, M2, f1, f2, hI2⟩ := act_call (ac_chamber hC (xs (k + 1)) (xs (k + 2))) hB
  refine kc_w (pc2 := 221) (fun _ _ => lv_aload_n X.1.1.1 X.1.1.2.1 dL_law_220 rfl (lv_at hl 2 rfl)) ?_
  refine k_arg (q := 1) X hl hk (by decide) (by decide) dL_law_221 dL_law_222 dL_law_223 dL_law_224 dL_law_225 (rfl : 221 + 5 = 226) ?_
  refine k_arg (q := 2) X hl hk (by decide) (by decide) dL_law_226 dL_law_227 dL_law_228 dL_law_229 dL_law_230 (rfl : 226 + 5 = 231) ?_
  refine kc_i (w := [.int (xs (k + 1)), .int (xs (k + 2))]) (st := []) X.1 hl.1 kX7 IX7_chamber hX7_chamber kl_13 ⟨Nat.le_of_ble_eq_true rfl, Nat.le_of_ble_eq_true rfl⟩ k0 f1 rfl rfl (Nat.le_of_ble_eq_true rfl) dL_law_231 (rfl : 231 + 3 = 234) ?_
  refine kc_w (pc2 := 235) (fun _ _ => lv_aload_n X.1.1.1 X.1.1.2.1 dL_law_234 rfl (lv_at hl 1 rfl)) ?_
  refine k_arg (q := 1) X hl hk (by decide) (by decide) dL_law_235 dL_law_236 dL_law_237 dL_law_238 dL_law_239 (rfl : 235 + 5 = 240) ?_
  refine k_arg (q := 2) X hl hk (by decide) (by decide) dL_law_240 dL_law_241 dL_law_242 dL_law_243 dL_law_244 (rfl : 240 + 5 = 245) ?_
  refine kc_i (w := [.int (xs (k + 1)), .int (xs (k + 2))]) (st := [.int r]) X.1 hl.1 kX8 IX8_chamber hX8_chamber kl_17 ⟨Nat.le_of_ble_eq_true rfl, Nat.le_of_ble_eq_true rfl⟩ k492 f2 rfl rfl (Nat.le_of_ble_eq_true rfl) dL_law_245 (rfl : 245 + 3 = 248) ?_
  exact kc_w (pc2 := 1534) (fun _ _ kk => lv_icmp_eq (tgt := 1534) X.1.1.1 X.1.1.2.1 dL_law_248 (by decide) (fun _ => kk) (fun z => absurd rfl z)) (kk M2 hI2)
set_option maxRecDepth 20000 in
theorem lw_c1 (X : Lx p s m c b L xs h0 D cy tt cells slots) (hl : Ll ls b h0 k) (hk : k + 6 ≤ L) (hI : Inv M) (kk : ∀ M2, Inv M2 → Kc room_1 p l e s m #[Value.ref b] below meth c h0 D cy cells slots Q 1534 ls [] M2) : Kc room_1 p l e s m #[Value.ref b] below meth c h0 D cy cells slots Q 253 ls [] M := by
  obtain ⟨⟨nc, nt, np, nw, tm, o, u, hC⟩, hB⟩ := hI
  obtain ⟨r, M1, M2, f1, f2, hI2⟩ := act_call (ac_tube hC (xs (k + 1)) (xs (k + 2)) (xs (k + 3)) (xs (k + 4)) (xs (k + 5))) hB
  refine kc_w (pc2 := 254) (fun _ _ => lv_aload_n X.1.1.1 X.1.1.2.1 dL_law_253 rfl (lv_at hl 2 rfl)) ?_
  refine k_arg (q := 1) X hl hk (by decide) (by decide) dL_law_254 dL_law_255 dL_law_256 dL_law_257 dL_law_258 (rfl : 254 + 5 = 259) ?_
  refine k_arg (q := 2) X hl hk (by decide) (by decide) dL_law_259 dL_law_260 dL_law_261 dL_law_262 dL_law_263 (rfl : 259 + 5 = 264) ?_
  refine k_arg (q := 3) X hl hk (by decide) (by decide) dL_law_264 dL_law_265 dL_law_266 dL_law_267 dL_law_268 (rfl : 264 + 5 = 269) ?_
  refine k_arg (q := 4) X hl hk (by decide) (by decide) dL_law_269 dL_law_270 dL_law_271 dL_law_272 dL_law_273 (rfl : 269 + 5 = 274) ?_
  refine k_arg (q := 5) X hl hk (by decide) (by decide) dL_law_274 dL_law_275 dL_law_276 dL_law_277 dL_law_278 (rfl : 274 + 5 = 279) ?_
  refine kc_i (w := [.int (xs (k + 1)), .int (xs (k + 2)), .int (xs (k + 3)), .int (xs (k + 4)), .int (xs (k + 5))]) (st := []) X.1 hl.1 kX7 IX7_tube hX7_tube kl_18 ⟨Nat.le_of_ble_eq_true rfl, Nat.le_of_ble_eq_true rfl⟩ k0 f1 rfl rfl (Nat.le_of_ble_eq_true rfl) dL_law_279 (rfl : 279 + 3 = 282) ?_
  refine kc_w (pc2 := 283) (fun _ _ => lv_aload_n X.1.1.1 X.1.1.2.1 dL_law_282 rfl (lv_at hl 1 rfl)) ?_
  refine k_arg (q := 1) X hl hk (by decide) (by decide) dL_law_283 dL_law_284 dL_law_285 dL_law_286 dL_law_287 (rfl : 283 + 5 = 288) ?_
  refine k_arg (q := 2) X hl hk (by decide) (by decide) dL_law_288 dL_law_289 dL_law_290 dL_law_291 dL_law_292 (rfl : 288 + 5 = 293) ?_
  refine k_arg (q := 3) X hl hk (by decide) (by decide) dL_law_293 dL_law_294 dL_law_295 dL_law_296 dL_law_297 (rfl : 293 + 5 = 298) ?_
  refine k_arg (q := 4) X hl hk (by decide) (by decide) dL_law_298 dL_law_299 dL_law_300 dL_law_301 dL_law_302 (rfl : 298 + 5 = 303) ?_
  refine k_arg (q := 5) X hl hk (by decide) (by decide) dL_law_303 dL_law_304 dL_law_305 dL_law_306 dL_law_307 (rfl : 303 + 5 = 308) ?_
  refine kc_i (w := [.int (xs (k + 1)), .int (xs (k + 2)), .int (xs (k + 3)), .int (xs (k + 4)), .int (xs (k + 5))]) (st := [.int r]) X.1 hl.1 kX8 IX8_tube hX8_tube kl_22 ⟨Nat.le_of_ble_eq_true rfl, Nat.le_of_ble_eq_true rfl⟩ k492 f2 rfl rfl (Nat.le_of_ble_eq_true rfl) dL_law_308 (rfl : 308 + 3 = 311) ?_
  exact kc_w (pc2 := 1534) (fun _ _ kk => lv_icmp_eq (tgt := 1534) X.1.1.1 X.1.1.2.1 dL_law_311 (by decide) (fun _ => kk) (fun z => absurd rfl z)) (kk M2 hI2)
set_option maxRecDepth 20000 in
theorem lw_c2 (X : Lx p s m c b L xs h0 D cy tt cells slots) (hl : Ll ls b h0 k) (hk : k + 6 ≤ L) (hI : Inv M) (kk : ∀ M2, Inv M2 → Kc room_1 p l e s m #[Value.ref b] below meth c h0 D cy cells slots Q 1534 ls [] M2) : Kc room_1 p l e s m #[Value.ref b] below meth c h0 D cy cells slots Q 316 ls [] M := by
  obtain ⟨⟨nc, nt, np, nw, tm, o, u, hC⟩, hB⟩ := hI
  obtain ⟨r, M1, M2, f1, f2, hI2⟩ := act_call (ac_pump hC (xs (k + 1)) (xs (k + 2))) hB
  refine kc_w (pc2 := 317) (fun _ _ => lv_aload_n X.1.1.1 X.1.1.2.1 dL_law_316 rfl (lv_at hl 2 rfl)) ?_
  refine k_arg (q := 1) X hl hk (by decide) (by decide) dL_law_317 dL_law_318 dL_law_319 dL_law_320 dL_law_321 (rfl : 317 + 5 = 322) ?_
  refine k_arg (q := 2) X hl hk (by decide) (by decide) dL_law_322 dL_law_323 dL_law_324 dL_law_325 dL_law_326 (rfl : 322 + 5 = 327) ?_
  refine kc_i (w := [.int (xs (k + 1)), .int (xs (k + 2))]) (st := []) X.1 hl.1 kX7 IX7_pump hX7_pump kl_23 ⟨Nat.le_of_ble_eq_true rfl, Nat.le_of_ble_eq_true rfl⟩ k0 f1 rfl rfl (Nat.le_of_ble_eq_true rfl) dL_law_327 (rfl : 327 + 3 = 330) ?_
  refine kc_w (pc2 := 331) (fun _ _ => lv_aload_n X.1.1.1 X.1.1.2.1 dL_law_330 rfl (lv_at hl 1 rfl)) ?_
  refine k_arg (q := 1) X hl hk (by decide) (by decide) dL_law_331 dL_law_332 dL_law_333 dL_law_334 dL_law_335 (rfl : 331 + 5 = 336) ?_
  refine k_arg (q := 2) X hl hk (by decide) (by decide) dL_law_336 dL_law_337 dL_law_338 dL_law_339 dL_law_340 (rfl : 336 + 5 = 341) ?_
  refine kc_i (w := [.int (xs (k + 1)), .int (xs (k + 2))]) (st := [.int r]) X.1 hl.1 kX8 IX8_pump hX8_pump kl_26 ⟨Nat.le_of_ble_eq_true rfl, Nat.le_of_ble_eq_true rfl⟩ k492 f2 rfl rfl (Nat.le_of_ble_eq_true rfl) dL_law_341 (rfl : 341 + 3 = 344) ?_
  exact kc_w (pc2 := 1534) (fun _ _ kk => lv_icmp_eq (tgt := 1534) X.1.1.1 X.1.1.2.1 dL_law_344 (by decide) (fun _ => kk) (fun z => absurd rfl z)) (kk M2 hI2)
set_option maxRecDepth 20000 in
theorem lw_c3 (X : Lx p s m c b L xs h0 D cy tt cells slots) (hl : Ll ls b h0 k) (hk : k + 6 ≤ L) (hI : Inv M) (kk : ∀ M2, Inv M2 → Kc room_1 p l e s m #[Value.ref b] below meth c h0 D cy cells slots Q 1534 ls [] M2) : Kc room_1 p l e s m #[Value.ref b] below meth c h0 D cy cells slots Q 349 ls [] M := by
  obtain ⟨⟨nc, nt, np, nw, tm, o, u, hC⟩, hB⟩ := hI
  obtain ⟨r, M1, M2, f1, f2, hI2⟩ := act_call (ac_curve hC (xs (k + 1)) (xs (k + 2)) (xs (k + 3))) hB
  refine kc_w (pc2 := 350) (fun _ _ => lv_aload_n X.1.1.1 X.1.1.2.1 dL_law_349 rfl (lv_at hl 2 rfl)) ?_
  refine k_arg (q := 1) X hl hk (by decide) (by decide) dL_law_350 dL_law_351 dL_law_352 dL_law_353 dL_law_354 (rfl : 350 + 5 = 355) ?_
  refine k_arg (q := 2) X hl hk (by decide) (by decide) dL_law_355 dL_law_356 dL_law_357 dL_law_358 dL_law_359 (rfl : 355 + 5 = 360) ?_
  refine k_arg (q := 3) X hl hk (by decide) (by decide) dL_law_360 dL_law_361 dL_law_362 dL_law_363 dL_law_364 (rfl : 360 + 5 = 365) ?_
  refine kc_i (w := [.int (xs (k + 1)), .int (xs (k + 2)), .int (xs (k + 3))]) (st := []) X.1 hl.1 kX7 IX7_curve hX7_curve kl_27 ⟨Nat.le_of_ble_eq_true rfl, Nat.le_of_ble_eq_true rfl⟩ k0 f1 rfl rfl (Nat.le_of_ble_eq_true rfl) dL_law_365 (rfl : 365 + 3 = 368) ?_
  refine kc_w (pc2 := 369) (fun _ _ => lv_aload_n X.1.1.1 X.1.1.2.1 dL_law_368 rfl (lv_at hl 1 rfl)) ?_
  refine k_arg (q := 1) X hl hk (by decide) (by decide) dL_law_369 dL_law_370 dL_law_371 dL_law_372 dL_law_373 (rfl : 369 + 5 = 374) ?_
  refine k_arg (q := 2) X hl hk (by decide) (by decide) dL_law_374 dL_law_375 dL_law_376 dL_law_377 dL_law_378 (rfl : 374 + 5 = 379) ?_
  refine k_arg (q := 3) X hl hk (by decide) (by decide) dL_law_379 dL_law_380 dL_law_381 dL_law_382 dL_law_383 (rfl : 379 + 5 = 384) ?_
  refine kc_i (w := [.int (xs (k + 1)), .int (xs (k + 2)), .int (xs (k + 3))]) (st := [.int r]) X.1 hl.1 kX8 IX8_curve hX8_curve kl_31 ⟨Nat.le_of_ble_eq_true rfl, Nat.le_of_ble_eq_true rfl⟩ k492 f2 rfl rfl (Nat.le_of_ble_eq_true rfl) dL_law_384 (rfl : 384 + 3 = 387) ?_
  exact kc_w (pc2 := 1534) (fun _ _ kk => lv_icmp_eq (tgt := 1534) X.1.1.1 X.1.1.2.1 dL_law_387 (by decide) (fun _ => kk) (fun z => absurd rfl z)) (kk M2 hI2)
set_option maxRecDepth 20000 in
theorem lw_c4 (X : Lx p s m c b L xs h0 D cy tt cells slots) (hl : Ll ls b h0 k) (hk : k + 6 ≤ L) (hI : Inv M) (kk : ∀ M2, Inv M2 → Kc room_1 p l e s m #[Value.ref b] below meth c h0 D cy cells slots Q 1534 ls [] M2) : Kc room_1 p l e s m #[Value.ref b] below meth c h0 D cy cells slots Q 392 ls [] M := by
  obtain ⟨⟨nc, nt, np, nw, tm, o, u, hC⟩, hB⟩ := hI
  obtain ⟨r, M1, M2, f1, f2, hI2⟩ := act_call (ac_set hC (xs (k + 1)) (xs (k + 2)) (xs (k + 3))) hB
  refine kc_w (pc2 := 393) (fun _ _ => lv_aload_n X.1.1.1 X.1.1.2.1 dL_law_392 rfl (lv_at hl 2 rfl)) ?_
  refine k_arg (q := 1) X hl hk (by decide) (by decide) dL_law_393 dL_law_394 dL_law_395 dL_law_396 dL_law_397 (rfl : 393 + 5 = 398) ?_
  refine k_arg (q := 2) X hl hk (by decide) (by decide) dL_law_398 dL_law_399 dL_law_400 dL_law_401 dL_law_402 (rfl : 398 + 5 = 403) ?_
  refine k_arg (q := 3) X hl hk (by decide) (by decide) dL_law_403 dL_law_404 dL_law_405 dL_law_406 dL_law_407 (rfl : 403 + 5 = 408) ?_
  refine kc_i (w := [.int (xs (k + 1)), .int (xs (k + 2)), .int (xs (k + 3))]) (st := []) X.1 hl.1 kX7 IX7_set hX7_set kl_32 ⟨Nat.le_of_ble_eq_true rfl, Nat.le_of_ble_eq_true rfl⟩ k0 f1 rfl rfl (Nat.le_of_ble_eq_true rfl) dL_law_408 (rfl : 408 + 3 = 411) ?_
  refine kc_w (pc2 := 412) (fun _ _ => lv_aload_n X.1.1.1 X.1.1.2.1 dL_law_411 rfl (lv_at hl 1 rfl)) ?_
  refine k_arg (q := 1) X hl hk (by decide) (by decide) dL_law_412 dL_law_413 dL_law_414 dL_law_415 dL_law_416 (rfl : 412 + 5 = 417) ?_
  refine k_arg (q := 2) X hl hk (by decide) (by decide) dL_law_417 dL_law_418 dL_law_419 dL_law_420 dL_law_421 (rfl : 417 + 5 = 422) ?_
  refine k_arg (q := 3) X hl hk (by decide) (by decide) dL_law_422 dL_law_423 dL_law_424 dL_law_425 dL_law_426 (rfl : 422 + 5 = 427) ?_
  refine kc_i (w := [.int (xs (k + 1)), .int (xs (k + 2)), .int (xs (k + 3))]) (st := [.int r]) X.1 hl.1 kX8 IX8_set hX8_set kl_35 ⟨Nat.le_of_ble_eq_true rfl, Nat.le_of_ble_eq_true rfl⟩ k492 f2 rfl rfl (Nat.le_of_ble_eq_true rfl) dL_law_427 (rfl : 427 + 3 = 430) ?_
  exact kc_w (pc2 := 1534) (fun _ _ kk => lv_icmp_eq (tgt := 1534) X.1.1.1 X.1.1.2.1 dL_law_430 (by decide) (fun _ => kk) (fun z => absurd rfl z)) (kk M2 hI2)
set_option maxRecDepth 20000 in
theorem lw_c5 (X : Lx p s m c b L xs h0 D cy tt cells slots) (hl : Ll ls b h0 k) (hk : k + 6 ≤ L) (hI : Inv M) (kk : ∀ M2, Inv M2 → Kc room_1 p l e s m #[Value.ref b] below meth c h0 D cy cells slots Q 1534 ls [] M2) : Kc room_1 p l e s m #[Value.ref b] below meth c h0 D cy cells slots Q 435 ls [] M := by
  obtain ⟨⟨nc, nt, np, nw, tm, o, u, hC⟩, hB⟩ := hI
  obtain ⟨r, M1, M2, f1, f2, hI2⟩ := act_call (ac_turn hC (xs (k + 1))) hB
  refine kc_w (pc2 := 436) (fun _ _ => lv_aload_n X.1.1.1 X.1.1.2.1 dL_law_435 rfl (lv_at hl 2 rfl)) ?_
  refine k_arg (q := 1) X hl hk (by decide) (by decide) dL_law_436 dL_law_437 dL_law_438 dL_law_439 dL_law_440 (rfl : 436 + 5 = 441) ?_
  refine kc_i (w := [.int (xs (k + 1))]) (st := []) X.1 hl.1 kX7 IX7_turn hX7_turn kl_36 ⟨Nat.le_of_ble_eq_true rfl, Nat.le_of_ble_eq_true rfl⟩ k0 f1 rfl rfl (Nat.le_of_ble_eq_true rfl) dL_law_441 (rfl : 441 + 3 = 444) ?_
  refine kc_w (pc2 := 445) (fun _ _ => lv_aload_n X.1.1.1 X.1.1.2.1 dL_law_444 rfl (lv_at hl 1 rfl)) ?_
  refine k_arg (q := 1) X hl hk (by decide) (by decide) dL_law_445 dL_law_446 dL_law_447 dL_law_448 dL_law_449 (rfl : 445 + 5 = 450) ?_
  refine kc_i (w := [.int (xs (k + 1))]) (st := [.int r]) X.1 hl.1 kX8 IX8_turn hX8_turn kl_40 ⟨Nat.le_of_ble_eq_true rfl, Nat.le_of_ble_eq_true rfl⟩ k492 f2 rfl rfl (Nat.le_of_ble_eq_true rfl) dL_law_450 (rfl : 450 + 3 = 453) ?_
  exact kc_w (pc2 := 1534) (fun _ _ kk => lv_icmp_eq (tgt := 1534) X.1.1.1 X.1.1.2.1 dL_law_453 (by decide) (fun _ => kk) (fun z => absurd rfl z)) (kk M2 hI2)
set_option maxRecDepth 20000 in
theorem lw_c6 (X : Lx p s m c b L xs h0 D cy tt cells slots) (hl : Ll ls b h0 k) (hk : k + 6 ≤ L) (hI : Inv M) (kk : ∀ M2, Inv M2 → Kc room_1 p l e s m #[Value.ref b] below meth c h0 D cy cells slots Q 1534 ls [] M2) : Kc room_1 p l e s m #[Value.ref b] below meth c h0 D cy cells slots Q 458 ls [] M := by
  obtain ⟨⟨nc, nt, np, nw, tm, o, u, hC⟩, hB⟩ := hI
  obtain ⟨r, M1, M2, f1, f2, hI2⟩ := act_call (ac_run hC (xs (k + 1))) hB
  refine kc_w (pc2 := 459) (fun _ _ => lv_aload_n X.1.1.1 X.1.1.2.1 dL_law_458 rfl (lv_at hl 2 rfl)) ?_
  refine k_arg (q := 1) X hl hk (by decide) (by decide) dL_law_459 dL_law_460 dL_law_461 dL_law_462 dL_law_463 (rfl : 459 + 5 = 464) ?_
  refine kc_i (w := [.int (xs (k + 1))]) (st := []) X.1 hl.1 kX7 IX7_run hX7_run kl_41 ⟨Nat.le_of_ble_eq_true rfl, Nat.le_of_ble_eq_true rfl⟩ k0 f1 rfl rfl (Nat.le_of_ble_eq_true rfl) dL_law_464 (rfl : 464 + 3 = 467) ?_
  refine kc_w (pc2 := 468) (fun _ _ => lv_aload_n X.1.1.1 X.1.1.2.1 dL_law_467 rfl (lv_at hl 1 rfl)) ?_
  refine k_arg (q := 1) X hl hk (by decide) (by decide) dL_law_468 dL_law_469 dL_law_470 dL_law_471 dL_law_472 (rfl : 468 + 5 = 473) ?_
  refine kc_i (w := [.int (xs (k + 1))]) (st := [.int r]) X.1 hl.1 kX8 IX8_run hX8_run kl_44 ⟨Nat.le_of_ble_eq_true rfl, Nat.le_of_ble_eq_true rfl⟩ k492 f2 rfl rfl (Nat.le_of_ble_eq_true rfl) dL_law_473 (rfl : 473 + 3 = 476) ?_
  exact kc_w (pc2 := 1534) (fun _ _ kk => lv_icmp_eq (tgt := 1534) X.1.1.1 X.1.1.2.1 dL_law_476 (by decide) (fun _ => kk) (fun z => absurd rfl z)) (kk M2 hI2)
set_option maxRecDepth 20000 in
theorem lw_c7 (X : Lx p s m c b L xs h0 D cy tt cells slots) (hl : Ll ls b h0 k) (hk : k + 6 ≤ L) (hI : Inv M) (kk : ∀ M2, Inv M2 → Kc room_1 p l e s m #[Value.ref b] below meth c h0 D cy cells slots Q 1534 ls [] M2) : Kc room_1 p l e s m #[Value.ref b] below meth c h0 D cy cells slots Q 481 ls [] M := by
  obtain ⟨⟨nc, nt, np, nw, tm, o, u, hC⟩, hB⟩ := hI
  obtain ⟨r, M1, M2, f1, f2, hI2⟩ := act_call (ac_leak hC (xs (k + 1)) (xs (k + 2))) hB
  refine kc_w (pc2 := 482) (fun _ _ => lv_aload_n X.1.1.1 X.1.1.2.1 dL_law_481 rfl (lv_at hl 2 rfl)) ?_
  refine k_arg (q := 1) X hl hk (by decide) (by decide) dL_law_482 dL_law_483 dL_law_484 dL_law_485 dL_law_486 (rfl : 482 + 5 = 487) ?_
  refine k_arg (q := 2) X hl hk (by decide) (by decide) dL_law_487 dL_law_488 dL_law_489 dL_law_490 dL_law_491 (rfl : 487 + 5 = 492) ?_
  refine kc_i (w := [.int (xs (k + 1)), .int (xs (k + 2))]) (st := []) X.1 hl.1 kX7 IX7_leak hX7_leak kl_45 ⟨Nat.le_of_ble_eq_true rfl, Nat.le_of_ble_eq_true rfl⟩ k0 f1 rfl rfl (Nat.le_of_ble_eq_true rfl) dL_law_492 (rfl : 492 + 3 = 495) ?_
  refine kc_w (pc2 := 496) (fun _ _ => lv_aload_n X.1.1.1 X.1.1.2.1 dL_law_495 rfl (lv_at hl 1 rfl)) ?_
  refine k_arg (q := 1) X hl hk (by decide) (by decide) dL_law_496 dL_law_497 dL_law_498 dL_law_499 dL_law_500 (rfl : 496 + 5 = 501) ?_
  refine k_arg (q := 2) X hl hk (by decide) (by decide) dL_law_501 dL_law_502 dL_law_503 dL_law_504 dL_law_505 (rfl : 501 + 5 = 506) ?_
  refine kc_i (w := [.int (xs (k + 1)), .int (xs (k + 2))]) (st := [.int r]) X.1 hl.1 kX8 IX8_leak hX8_leak kl_48 ⟨Nat.le_of_ble_eq_true rfl, Nat.le_of_ble_eq_true rfl⟩ k492 f2 rfl rfl (Nat.le_of_ble_eq_true rfl) dL_law_506 (rfl : 506 + 3 = 509) ?_
  exact kc_w (pc2 := 1534) (fun _ _ kk => lv_icmp_eq (tgt := 1534) X.1.1.1 X.1.1.2.1 dL_law_509 (by decide) (fun _ => kk) (fun z => absurd rfl z)) (kk M2 hI2)
set_option maxRecDepth 20000 in
theorem lw_c8 (X : Lx p s m c b L xs h0 D cy tt cells slots) (hl : Ll ls b h0 k) (hk : k + 6 ≤ L) (hI : Inv M) (kk : ∀ M2, Inv M2 → Kc room_1 p l e s m #[Value.ref b] below meth c h0 D cy cells slots Q 1534 ls [] M2) : Kc room_1 p l e s m #[Value.ref b] below meth c h0 D cy cells slots Q 514 ls [] M := by
  obtain ⟨⟨nc, nt, np, nw, tm, o, u, hC⟩, hB⟩ := hI
  obtain ⟨r, M1, M2, f1, f2, hI2⟩ := act_call (ac_watch hC (xs (k + 1)) (xs (k + 2)) (xs (k + 3)) (xs (k + 4)) (xs (k + 5))) hB
  refine kc_w (pc2 := 515) (fun _ _ => lv_aload_n X.1.1.1 X.1.1.2.1 dL_law_514 rfl (lv_at hl 2 rfl)) ?_
  refine k_arg (q := 1) X hl hk (by decide) (by decide) dL_law_515 dL_law_516 dL_law_517 dL_law_518 dL_law_519 (rfl : 515 + 5 = 520) ?_
  refine k_arg (q := 2) X hl hk (by decide) (by decide) dL_law_520 dL_law_521 dL_law_522 dL_law_523 dL_law_524 (rfl : 520 + 5 = 525) ?_
  refine k_arg (q := 3) X hl hk (by decide) (by decide) dL_law_525 dL_law_526 dL_law_527 dL_law_528 dL_law_529 (rfl : 525 + 5 = 530) ?_
  refine k_arg (q := 4) X hl hk (by decide) (by decide) dL_law_530 dL_law_531 dL_law_532 dL_law_533 dL_law_534 (rfl : 530 + 5 = 535) ?_
  refine k_arg (q := 5) X hl hk (by decide) (by decide) dL_law_535 dL_law_536 dL_law_537 dL_law_538 dL_law_539 (rfl : 535 + 5 = 540) ?_
  refine kc_i (w := [.int (xs (k + 1)), .int (xs (k + 2)), .int (xs (k + 3)), .int (xs (k + 4)), .int (xs (k + 5))]) (st := []) X.1 hl.1 kX7 IX7_watch hX7_watch kl_49 ⟨Nat.le_of_ble_eq_true rfl, Nat.le_of_ble_eq_true rfl⟩ k0 f1 rfl rfl (Nat.le_of_ble_eq_true rfl) dL_law_540 (rfl : 540 + 3 = 543) ?_
  refine kc_w (pc2 := 544) (fun _ _ => lv_aload_n X.1.1.1 X.1.1.2.1 dL_law_543 rfl (lv_at hl 1 rfl)) ?_
  refine k_arg (q := 1) X hl hk (by decide) (by decide) dL_law_544 dL_law_545 dL_law_546 dL_law_547 dL_law_548 (rfl : 544 + 5 = 549) ?_
  refine k_arg (q := 2) X hl hk (by decide) (by decide) dL_law_549 dL_law_550 dL_law_551 dL_law_552 dL_law_553 (rfl : 549 + 5 = 554) ?_
  refine k_arg (q := 3) X hl hk (by decide) (by decide) dL_law_554 dL_law_555 dL_law_556 dL_law_557 dL_law_558 (rfl : 554 + 5 = 559) ?_
  refine k_arg (q := 4) X hl hk (by decide) (by decide) dL_law_559 dL_law_560 dL_law_561 dL_law_562 dL_law_563 (rfl : 559 + 5 = 564) ?_
  refine k_arg (q := 5) X hl hk (by decide) (by decide) dL_law_564 dL_law_565 dL_law_566 dL_law_567 dL_law_568 (rfl : 564 + 5 = 569) ?_
  refine kc_i (w := [.int (xs (k + 1)), .int (xs (k + 2)), .int (xs (k + 3)), .int (xs (k + 4)), .int (xs (k + 5))]) (st := [.int r]) X.1 hl.1 kX8 IX8_watch hX8_watch kl_52 ⟨Nat.le_of_ble_eq_true rfl, Nat.le_of_ble_eq_true rfl⟩ k492 f2 rfl rfl (Nat.le_of_ble_eq_true rfl) dL_law_569 (rfl : 569 + 3 = 572) ?_
  exact kc_w (pc2 := 1534) (fun _ _ kk => lv_icmp_eq (tgt := 1534) X.1.1.1 X.1.1.2.1 dL_law_572 (by decide) (fun _ => kk) (fun z => absurd rfl z)) (kk M2 hI2)
set_option maxRecDepth 20000 in
theorem lw_c9 (X : Lx p s m c b L xs h0 D cy tt cells slots) (hl : Ll ls b h0 k) (hk : k + 6 ≤ L) (hI : Inv M) (kk : ∀ M2, Inv M2 → Kc room_1 p l e s m #[Value.ref b] below meth c h0 D cy cells slots Q 1534 ls [] M2) : Kc room_1 p l e s m #[Value.ref b] below meth c h0 D cy cells slots Q 577 ls [] M := by
  obtain ⟨⟨nc, nt, np, nw, tm, o, u, hC⟩, hB⟩ := hI
  obtain ⟨r, M1, M2, f1, f2, hI2⟩ := act_call (ac_drop hC (xs (k + 1))) hB
  refine kc_w (pc2 := 578) (fun _ _ => lv_aload_n X.1.1.1 X.1.1.2.1 dL_law_577 rfl (lv_at hl 2 rfl)) ?_
  refine k_arg (q := 1) X hl hk (by decide) (by decide) dL_law_578 dL_law_579 dL_law_580 dL_law_581 dL_law_582 (rfl : 578 + 5 = 583) ?_
  refine kc_i (w := [.int (xs (k + 1))]) (st := []) X.1 hl.1 kX7 IX7_drop hX7_drop kl_53 ⟨Nat.le_of_ble_eq_true rfl, Nat.le_of_ble_eq_true rfl⟩ k0 f1 rfl rfl (Nat.le_of_ble_eq_true rfl) dL_law_583 (rfl : 583 + 3 = 586) ?_
  refine kc_w (pc2 := 587) (fun _ _ => lv_aload_n X.1.1.1 X.1.1.2.1 dL_law_586 rfl (lv_at hl 1 rfl)) ?_
  refine k_arg (q := 1) X hl hk (by decide) (by decide) dL_law_587 dL_law_588 dL_law_589 dL_law_590 dL_law_591 (rfl : 587 + 5 = 592) ?_
  refine kc_i (w := [.int (xs (k + 1))]) (st := [.int r]) X.1 hl.1 kX8 IX8_drop hX8_drop kl_56 ⟨Nat.le_of_ble_eq_true rfl, Nat.le_of_ble_eq_true rfl⟩ k492 f2 rfl rfl (Nat.le_of_ble_eq_true rfl) dL_law_592 (rfl : 592 + 3 = 595) ?_
  exact kc_w (pc2 := 1534) (fun _ _ kk => lv_icmp_eq (tgt := 1534) X.1.1.1 X.1.1.2.1 dL_law_595 (by decide) (fun _ => kk) (fun z => absurd rfl z)) (kk M2 hI2)
set_option maxRecDepth 20000 in
theorem lw_c10 (X : Lx p s m c b L xs h0 D cy tt cells slots) (hl : Ll ls b h0 k) (hk : k + 6 ≤ L) (hI : Inv M) (kk : ∀ M2, Inv M2 → Kc room_1 p l e s m #[Value.ref b] below meth c h0 D cy cells slots Q 1534 ls [] M2) : Kc room_1 p l e s m #[Value.ref b] below meth c h0 D cy cells slots Q 600 ls [] M := by
  obtain ⟨⟨nc, nt, np, nw, tm, o, u, hC⟩, hB⟩ := hI
  obtain ⟨r, M1, M2, f1, f2, hI2⟩ := ca_steps hC hB (xs (k + 1))
  refine kc_w (pc2 := 601) (fun _ _ => lv_aload_n X.1.1.1 X.1.1.2.1 dL_law_600 rfl (lv_at hl 2 rfl)) ?_
  refine k_arg (q := 1) X hl hk (by decide) (by decide) dL_law_601 dL_law_602 dL_law_603 dL_law_604 dL_law_605 (rfl : 601 + 5 = 606) ?_
  refine kc_i (w := [.int (xs (k + 1))]) (st := []) X.1 hl.1 kX7 IX7_steps hX7_steps kl_57 ⟨Nat.le_of_ble_eq_true rfl, Nat.le_of_ble_eq_true rfl⟩ k0 f1 rfl rfl (Nat.le_of_ble_eq_true rfl) dL_law_606 (rfl : 606 + 3 = 609) ?_
  refine kc_w (pc2 := 610) (fun _ _ => lv_aload_n X.1.1.1 X.1.1.2.1 dL_law_609 rfl (lv_at hl 1 rfl)) ?_
  refine k_arg (q := 1) X hl hk (by decide) (by decide) dL_law_610 dL_law_611 dL_law_612 dL_law_613 dL_law_614 (rfl : 610 + 5 = 615) ?_
  refine kc_i (w := [.int (xs (k + 1))]) (st := [.int r]) X.1 hl.1 kX8 IX8_steps hX8_steps kl_60 ⟨Nat.le_of_ble_eq_true rfl, Nat.le_of_ble_eq_true rfl⟩ k492 f2 rfl rfl (Nat.le_of_ble_eq_true rfl) dL_law_615 (rfl : 615 + 3 = 618) ?_
  exact kc_w (pc2 := 1534) (fun _ _ kk => lv_icmp_eq (tgt := 1534) X.1.1.1 X.1.1.2.1 dL_law_618 (by decide) (fun _ => kk) (fun z => absurd rfl z)) (kk M2 hI2)
set_option maxRecDepth 20000 in
theorem lw_c11 (X : Lx p s m c b L xs h0 D cy tt cells slots) (hl : Ll ls b h0 k) (hk : k + 6 ≤ L) (hI : Inv M) (kk : ∀ M2, Inv M2 → Kc room_1 p l e s m #[Value.ref b] below meth c h0 D cy cells slots Q 1534 ls [] M2) : Kc room_1 p l e s m #[Value.ref b] below meth c h0 D cy cells slots Q 623 ls [] M := by
  obtain ⟨⟨nc, nt, np, nw, tm, o, u, hC⟩, hB⟩ := hI
  obtain ⟨r, M1, M2, f1, f2, hI2⟩ := act_call (ac_note hC (xs (k + 1)) (xs (k + 2))) hB
  refine kc_w (pc2 := 624) (fun _ _ => lv_aload_n X.1.1.1 X.1.1.2.1 dL_law_623 rfl (lv_at hl 2 rfl)) ?_
  refine k_arg (q := 1) X hl hk (by decide) (by decide) dL_law_624 dL_law_625 dL_law_626 dL_law_627 dL_law_628 (rfl : 624 + 5 = 629) ?_
  refine k_arg (q := 2) X hl hk (by decide) (by decide) dL_law_629 dL_law_630 dL_law_631 dL_law_632 dL_law_633 (rfl : 629 + 5 = 634) ?_
  refine kc_i (w := [.int (xs (k + 1)), .int (xs (k + 2))]) (st := []) X.1 hl.1 kX7 IX7_note hX7_note kl_61 ⟨Nat.le_of_ble_eq_true rfl, Nat.le_of_ble_eq_true rfl⟩ k0 f1 rfl rfl (Nat.le_of_ble_eq_true rfl) dL_law_634 (rfl : 634 + 3 = 637) ?_
  refine kc_w (pc2 := 638) (fun _ _ => lv_aload_n X.1.1.1 X.1.1.2.1 dL_law_637 rfl (lv_at hl 1 rfl)) ?_
  refine k_arg (q := 1) X hl hk (by decide) (by decide) dL_law_638 dL_law_639 dL_law_640 dL_law_641 dL_law_642 (rfl : 638 + 5 = 643) ?_
  refine k_arg (q := 2) X hl hk (by decide) (by decide) dL_law_643 dL_law_644 dL_law_645 dL_law_646 dL_law_647 (rfl : 643 + 5 = 648) ?_
  refine kc_i (w := [.int (xs (k + 1)), .int (xs (k + 2))]) (st := [.int r]) X.1 hl.1 kX8 IX8_note hX8_note kl_64 ⟨Nat.le_of_ble_eq_true rfl, Nat.le_of_ble_eq_true rfl⟩ k492 f2 rfl rfl (Nat.le_of_ble_eq_true rfl) dL_law_648 (rfl : 648 + 3 = 651) ?_
  exact kc_w (pc2 := 1534) (fun _ _ kk => lv_icmp_eq (tgt := 1534) X.1.1.1 X.1.1.2.1 dL_law_651 (by decide) (fun _ => kk) (fun z => absurd rfl z)) (kk M2 hI2)
set_option maxRecDepth 20000 in
theorem lw_c12 (X : Lx p s m c b L xs h0 D cy tt cells slots) (hl : Ll ls b h0 k) (hk : k + 6 ≤ L) (hI : Inv M) (kk : ∀ M2, Inv M2 → Kc room_1 p l e s m #[Value.ref b] below meth c h0 D cy cells slots Q 1534 ls [] M2) : Kc room_1 p l e s m #[Value.ref b] below meth c h0 D cy cells slots Q 656 ls [] M := by
  obtain ⟨⟨nc, nt, np, nw, tm, o, u, hC⟩, hB⟩ := hI
  obtain ⟨r, M1, M2, f1, f2, hI2⟩ := ca_noteAll hC hB 
  refine kc_w (pc2 := 657) (fun _ _ => lv_aload_n X.1.1.1 X.1.1.2.1 dL_law_656 rfl (lv_at hl 2 rfl)) ?_
  refine kc_i (w := []) (st := []) X.1 hl.1 kX7 IX7_noteAll hX7_noteAll kl_65 ⟨Nat.le_of_ble_eq_true rfl, Nat.le_of_ble_eq_true rfl⟩ k0 f1 rfl rfl (Nat.le_of_ble_eq_true rfl) dL_law_657 (rfl : 657 + 3 = 660) ?_
  refine kc_w (pc2 := 661) (fun _ _ => lv_aload_n X.1.1.1 X.1.1.2.1 dL_law_660 rfl (lv_at hl 1 rfl)) ?_
  refine kc_i (w := []) (st := [.int r]) X.1 hl.1 kX8 IX8_noteAll hX8_noteAll kl_69 ⟨Nat.le_of_ble_eq_true rfl, Nat.le_of_ble_eq_true rfl⟩ k492 f2 rfl rfl (Nat.le_of_ble_eq_true rfl) dL_law_661 (rfl : 661 + 3 = 664) ?_
  exact kc_w (pc2 := 1534) (fun _ _ kk => lv_icmp_eq (tgt := 1534) X.1.1.1 X.1.1.2.1 dL_law_664 (by decide) (fun _ => kk) (fun z => absurd rfl z)) (kk M2 hI2)
set_option maxRecDepth 20000 in
theorem lw_c13 (X : Lx p s m c b L xs h0 D cy tt cells slots) (hl : Ll ls b h0 k) (hk : k + 6 ≤ L) (hI : Inv M) (kk : ∀ M2, Inv M2 → Kc room_1 p l e s m #[Value.ref b] below meth c h0 D cy cells slots Q 1534 ls [] M2) : Kc room_1 p l e s m #[Value.ref b] below meth c h0 D cy cells slots Q 669 ls [] M := by
  obtain ⟨⟨nc, nt, np, nw, tm, o, u, hC⟩, hB⟩ := hI
  obtain ⟨r, M1, M2, f1, f2, hI2⟩ := act_call (ac_undo hC ) hB
  refine kc_w (pc2 := 670) (fun _ _ => lv_aload_n X.1.1.1 X.1.1.2.1 dL_law_669 rfl (lv_at hl 2 rfl)) ?_
  refine kc_i (w := []) (st := []) X.1 hl.1 kX7 IX7_undo hX7_undo kl_70 ⟨Nat.le_of_ble_eq_true rfl, Nat.le_of_ble_eq_true rfl⟩ k0 f1 rfl rfl (Nat.le_of_ble_eq_true rfl) dL_law_670 (rfl : 670 + 3 = 673) ?_
  refine kc_w (pc2 := 674) (fun _ _ => lv_aload_n X.1.1.1 X.1.1.2.1 dL_law_673 rfl (lv_at hl 1 rfl)) ?_
  refine kc_i (w := []) (st := [.int r]) X.1 hl.1 kX8 IX8_undo hX8_undo kl_73 ⟨Nat.le_of_ble_eq_true rfl, Nat.le_of_ble_eq_true rfl⟩ k492 f2 rfl rfl (Nat.le_of_ble_eq_true rfl) dL_law_674 (rfl : 674 + 3 = 677) ?_
  exact kc_w (pc2 := 1534) (fun _ _ kk => lv_icmp_eq (tgt := 1534) X.1.1.1 X.1.1.2.1 dL_law_677 (by decide) (fun _ => kk) (fun z => absurd rfl z)) (kk M2 hI2)
set_option maxRecDepth 20000 in
theorem lw_c14 (X : Lx p s m c b L xs h0 D cy tt cells slots) (hl : Ll ls b h0 k) (hk : k + 6 ≤ L) (hI : Inv M) (kk : ∀ M2, Inv M2 → Kc room_1 p l e s m #[Value.ref b] below meth c h0 D cy cells slots Q 1534 ls [] M2) : Kc room_1 p l e s m #[Value.ref b] below meth c h0 D cy cells slots Q 682 ls [] M := by
  obtain ⟨⟨nc, nt, np, nw, tm, o, u, hC⟩, hB⟩ := hI
  obtain ⟨r, M1, M2, f1, f2, hI2⟩ := act_call (ac_image hC (xs (k + 1))) hB
  refine kc_w (pc2 := 683) (fun _ _ => lv_aload_n X.1.1.1 X.1.1.2.1 dL_law_682 rfl (lv_at hl 2 rfl)) ?_
  refine k_arg (q := 1) X hl hk (by decide) (by decide) dL_law_683 dL_law_684 dL_law_685 dL_law_686 dL_law_687 (rfl : 683 + 5 = 688) ?_
  refine kc_i (w := [.int (xs (k + 1))]) (st := []) X.1 hl.1 kX7 IX7_image hX7_image kl_74 ⟨Nat.le_of_ble_eq_true rfl, Nat.le_of_ble_eq_true rfl⟩ k0 f1 rfl rfl (Nat.le_of_ble_eq_true rfl) dL_law_688 (rfl : 688 + 3 = 691) ?_
  refine kc_w (pc2 := 692) (fun _ _ => lv_aload_n X.1.1.1 X.1.1.2.1 dL_law_691 rfl (lv_at hl 1 rfl)) ?_
  refine k_arg (q := 1) X hl hk (by decide) (by decide) dL_law_692 dL_law_693 dL_law_694 dL_law_695 dL_law_696 (rfl : 692 + 5 = 697) ?_
  refine kc_i (w := [.int (xs (k + 1))]) (st := [.int r]) X.1 hl.1 kX8 IX8_image hX8_image kl_77 ⟨Nat.le_of_ble_eq_true rfl, Nat.le_of_ble_eq_true rfl⟩ k492 f2 rfl rfl (Nat.le_of_ble_eq_true rfl) dL_law_697 (rfl : 697 + 3 = 700) ?_
  exact kc_w (pc2 := 1534) (fun _ _ kk => lv_icmp_eq (tgt := 1534) X.1.1.1 X.1.1.2.1 dL_law_700 (by decide) (fun _ => kk) (fun z => absurd rfl z)) (kk M2 hI2)
set_option maxRecDepth 20000 in
theorem lw_c15 (X : Lx p s m c b L xs h0 D cy tt cells slots) (hl : Ll ls b h0 k) (hk : k + 6 ≤ L) (hI : Inv M) (kk : ∀ M2, Inv M2 → Kc room_1 p l e s m #[Value.ref b] below meth c h0 D cy cells slots Q 1534 ls [] M2) : Kc room_1 p l e s m #[Value.ref b] below meth c h0 D cy cells slots Q 705 ls [] M := by
  obtain ⟨⟨nc, nt, np, nw, tm, o, u, hC⟩, hB⟩ := hI
  obtain ⟨r, M1, M2, f1, f2, hI2⟩ := act_call (ac_back hC (xs (k + 1))) hB
  refine kc_w (pc2 := 706) (fun _ _ => lv_aload_n X.1.1.1 X.1.1.2.1 dL_law_705 rfl (lv_at hl 2 rfl)) ?_
  refine k_arg (q := 1) X hl hk (by decide) (by decide) dL_law_706 dL_law_707 dL_law_708 dL_law_709 dL_law_710 (rfl : 706 + 5 = 711) ?_
  refine kc_i (w := [.int (xs (k + 1))]) (st := []) X.1 hl.1 kX7 IX7_back hX7_back kl_78 ⟨Nat.le_of_ble_eq_true rfl, Nat.le_of_ble_eq_true rfl⟩ k0 f1 rfl rfl (Nat.le_of_ble_eq_true rfl) dL_law_711 (rfl : 711 + 3 = 714) ?_
  refine kc_w (pc2 := 715) (fun _ _ => lv_aload_n X.1.1.1 X.1.1.2.1 dL_law_714 rfl (lv_at hl 1 rfl)) ?_
  refine k_arg (q := 1) X hl hk (by decide) (by decide) dL_law_715 dL_law_716 dL_law_717 dL_law_718 dL_law_719 (rfl : 715 + 5 = 720) ?_
  refine kc_i (w := [.int (xs (k + 1))]) (st := [.int r]) X.1 hl.1 kX8 IX8_back hX8_back kl_81 ⟨Nat.le_of_ble_eq_true rfl, Nat.le_of_ble_eq_true rfl⟩ k492 f2 rfl rfl (Nat.le_of_ble_eq_true rfl) dL_law_720 (rfl : 720 + 3 = 723) ?_
  exact kc_w (pc2 := 1534) (fun _ _ kk => lv_icmp_eq (tgt := 1534) X.1.1.1 X.1.1.2.1 dL_law_723 (by decide) (fun _ => kk) (fun z => absurd rfl z)) (kk M2 hI2)
set_option maxRecDepth 20000 in
theorem lw_c16 (X : Lx p s m c b L xs h0 D cy tt cells slots) (hl : Ll ls b h0 k) (hk : k + 6 ≤ L) (hI : Inv M) (kk : ∀ M2, Inv M2 → Kc room_1 p l e s m #[Value.ref b] below meth c h0 D cy cells slots Q 1534 ls [] M2) : Kc room_1 p l e s m #[Value.ref b] below meth c h0 D cy cells slots Q 728 ls [] M := by
  obtain ⟨⟨nc, nt, np, nw, tm, o, u, hC⟩, hB⟩ := hI
  obtain ⟨r, M1, M2, f1, f2, hI2⟩ := ca_pressure hC hB (xs (k + 1)) (xs (k + 2))
  refine kc_w (pc2 := 729) (fun _ _ => lv_aload_n X.1.1.1 X.1.1.2.1 dL_law_728 rfl (lv_at hl 2 rfl)) ?_
  refine k_arg (q := 1) X hl hk (by decide) (by decide) dL_law_729 dL_law_730 dL_law_731 dL_law_732 dL_law_733 (rfl : 729 + 5 = 734) ?_
  refine k_arg (q := 2) X hl hk (by decide) (by decide) dL_law_734 dL_law_735 dL_law_736 dL_law_737 dL_law_738 (rfl : 734 + 5 = 739) ?_
  refine kc_j (w := [.int (xs (k + 1)), .int (xs (k + 2))]) (st := []) X.1 hl.1 kX7 IX7_pressure hX7_pressure kl_82 ⟨Nat.le_of_ble_eq_true rfl, Nat.le_of_ble_eq_true rfl⟩ k0 f1 rfl rfl (Nat.le_of_ble_eq_true rfl) dL_law_739 (rfl : 739 + 3 = 742) ?_
  refine kc_w (pc2 := 743) (fun _ _ => lv_aload_n X.1.1.1 X.1.1.2.1 dL_law_742 rfl (lv_at hl 1 rfl)) ?_
  refine k_arg (q := 1) X hl hk (by decide) (by decide) dL_law_743 dL_law_744 dL_law_745 dL_law_746 dL_law_747 (rfl : 743 + 5 = 748) ?_
  refine k_arg (q := 2) X hl hk (by decide) (by decide) dL_law_748 dL_law_749 dL_law_750 dL_law_751 dL_law_752 (rfl : 748 + 5 = 753) ?_
  refine kc_j (w := [.int (xs (k + 1)), .int (xs (k + 2))]) (st := [.long r]) X.1 hl.1 kX8 IX8_pressure hX8_pressure kl_86 ⟨Nat.le_of_ble_eq_true rfl, Nat.le_of_ble_eq_true rfl⟩ k492 f2 rfl rfl (Nat.le_of_ble_eq_true rfl) dL_law_753 (rfl : 753 + 3 = 756) ?_
  refine kc_w (pc2 := 757) (fun _ _ => W.lcmp X.1.1.1 X.1.1.2.1 dL_law_756) ?_
  exact kc_w (pc2 := 1534) (fun _ _ kk => lv_if_eq (tgt := 1534) X.1.1.1 X.1.1.2.1 dL_law_757 (by decide) (fun _ => kk) (fun z => absurd ((q_eq r r).mpr rfl) z)) (kk M2 hI2)
set_option maxRecDepth 20000 in
theorem lw_c17 (X : Lx p s m c b L xs h0 D cy tt cells slots) (hl : Ll ls b h0 k) (hk : k + 6 ≤ L) (hI : Inv M) (kk : ∀ M2, Inv M2 → Kc room_1 p l e s m #[Value.ref b] below meth c h0 D cy cells slots Q 1534 ls [] M2) : Kc room_1 p l e s m #[Value.ref b] below meth c h0 D cy cells slots Q 762 ls [] M := by
  obtain ⟨⟨nc, nt, np, nw, tm, o, u, hC⟩, hB⟩ := hI
  obtain ⟨r, M1, M2, f1, f2, hI2⟩ := ca_reading hC hB (xs (k + 1))
  refine kc_w (pc2 := 763) (fun _ _ => lv_aload_n X.1.1.1 X.1.1.2.1 dL_law_762 rfl (lv_at hl 2 rfl)) ?_
  refine k_arg (q := 1) X hl hk (by decide) (by decide) dL_law_763 dL_law_764 dL_law_765 dL_law_766 dL_law_767 (rfl : 763 + 5 = 768) ?_
  refine kc_i (w := [.int (xs (k + 1))]) (st := []) X.1 hl.1 kX7 IX7_reading hX7_reading kl_87 ⟨Nat.le_of_ble_eq_true rfl, Nat.le_of_ble_eq_true rfl⟩ k0 f1 rfl rfl (Nat.le_of_ble_eq_true rfl) dL_law_768 (rfl : 768 + 3 = 771) ?_
  refine kc_w (pc2 := 772) (fun _ _ => lv_aload_n X.1.1.1 X.1.1.2.1 dL_law_771 rfl (lv_at hl 1 rfl)) ?_
  refine k_arg (q := 1) X hl hk (by decide) (by decide) dL_law_772 dL_law_773 dL_law_774 dL_law_775 dL_law_776 (rfl : 772 + 5 = 777) ?_
  refine kc_i (w := [.int (xs (k + 1))]) (st := [.int r]) X.1 hl.1 kX8 IX8_reading hX8_reading kl_90 ⟨Nat.le_of_ble_eq_true rfl, Nat.le_of_ble_eq_true rfl⟩ k492 f2 rfl rfl (Nat.le_of_ble_eq_true rfl) dL_law_777 (rfl : 777 + 3 = 780) ?_
  exact kc_w (pc2 := 1534) (fun _ _ kk => lv_icmp_eq (tgt := 1534) X.1.1.1 X.1.1.2.1 dL_law_780 (by decide) (fun _ => kk) (fun z => absurd rfl z)) (kk M2 hI2)
set_option maxRecDepth 20000 in
theorem lw_c18 (X : Lx p s m c b L xs h0 D cy tt cells slots) (hl : Ll ls b h0 k) (hk : k + 6 ≤ L) (hI : Inv M) (kk : ∀ M2, Inv M2 → Kc room_1 p l e s m #[Value.ref b] below meth c h0 D cy cells slots Q 1534 ls [] M2) : Kc room_1 p l e s m #[Value.ref b] below meth c h0 D cy cells slots Q 785 ls [] M := by
  obtain ⟨⟨nc, nt, np, nw, tm, o, u, hC⟩, hB⟩ := hI
  obtain ⟨r, M1, M2, f1, f2, hI2⟩ := ca_flow hC hB (xs (k + 1)) (xs (k + 2))
  refine kc_w (pc2 := 786) (fun _ _ => lv_aload_n X.1.1.1 X.1.1.2.1 dL_law_785 rfl (lv_at hl 2 rfl)) ?_
  refine k_arg (q := 1) X hl hk (by decide) (by decide) dL_law_786 dL_law_787 dL_law_788 dL_law_789 dL_law_790 (rfl : 786 + 5 = 791) ?_
  refine k_arg (q := 2) X hl hk (by decide) (by decide) dL_law_791 dL_law_792 dL_law_793 dL_law_794 dL_law_795 (rfl : 791 + 5 = 796) ?_
  refine kc_j (w := [.int (xs (k + 1)), .int (xs (k + 2))]) (st := []) X.1 hl.1 kX7 IX7_flow hX7_flow kl_91 ⟨Nat.le_of_ble_eq_true rfl, Nat.le_of_ble_eq_true rfl⟩ k0 f1 rfl rfl (Nat.le_of_ble_eq_true rfl) dL_law_796 (rfl : 796 + 3 = 799) ?_
  refine kc_w (pc2 := 800) (fun _ _ => lv_aload_n X.1.1.1 X.1.1.2.1 dL_law_799 rfl (lv_at hl 1 rfl)) ?_
  refine k_arg (q := 1) X hl hk (by decide) (by decide) dL_law_800 dL_law_801 dL_law_802 dL_law_803 dL_law_804 (rfl : 800 + 5 = 805) ?_
  refine k_arg (q := 2) X hl hk (by decide) (by decide) dL_law_805 dL_law_806 dL_law_807 dL_law_808 dL_law_809 (rfl : 805 + 5 = 810) ?_
  refine kc_j (w := [.int (xs (k + 1)), .int (xs (k + 2))]) (st := [.long r]) X.1 hl.1 kX8 IX8_flow hX8_flow kl_94 ⟨Nat.le_of_ble_eq_true rfl, Nat.le_of_ble_eq_true rfl⟩ k492 f2 rfl rfl (Nat.le_of_ble_eq_true rfl) dL_law_810 (rfl : 810 + 3 = 813) ?_
  refine kc_w (pc2 := 814) (fun _ _ => W.lcmp X.1.1.1 X.1.1.2.1 dL_law_813) ?_
  exact kc_w (pc2 := 1534) (fun _ _ kk => lv_if_eq (tgt := 1534) X.1.1.1 X.1.1.2.1 dL_law_814 (by decide) (fun _ => kk) (fun z => absurd ((q_eq r r).mpr rfl) z)) (kk M2 hI2)
set_option maxRecDepth 20000 in
theorem lw_c19 (X : Lx p s m c b L xs h0 D cy tt cells slots) (hl : Ll ls b h0 k) (hk : k + 6 ≤ L) (hI : Inv M) (kk : ∀ M2, Inv M2 → Kc room_1 p l e s m #[Value.ref b] below meth c h0 D cy cells slots Q 1534 ls [] M2) : Kc room_1 p l e s m #[Value.ref b] below meth c h0 D cy cells slots Q 819 ls [] M := by
  obtain ⟨⟨nc, nt, np, nw, tm, o, u, hC⟩, hB⟩ := hI
  obtain ⟨r, M1, M2, f1, f2, hI2⟩ := ca_drawn hC hB (xs (k + 1)) (xs (k + 2))
  refine kc_w (pc2 := 820) (fun _ _ => lv_aload_n X.1.1.1 X.1.1.2.1 dL_law_819 rfl (lv_at hl 2 rfl)) ?_
  refine k_arg (q := 1) X hl hk (by decide) (by decide) dL_law_820 dL_law_821 dL_law_822 dL_law_823 dL_law_824 (rfl : 820 + 5 = 825) ?_
  refine k_arg (q := 2) X hl hk (by decide) (by decide) dL_law_825 dL_law_826 dL_law_827 dL_law_828 dL_law_829 (rfl : 825 + 5 = 830) ?_
  refine kc_j (w := [.int (xs (k + 1)), .int (xs (k + 2))]) (st := []) X.1 hl.1 kX7 IX7_drawn hX7_drawn kl_95 ⟨Nat.le_of_ble_eq_true rfl, Nat.le_of_ble_eq_true rfl⟩ k0 f1 rfl rfl (Nat.le_of_ble_eq_true rfl) dL_law_830 (rfl : 830 + 3 = 833) ?_
  refine kc_w (pc2 := 834) (fun _ _ => lv_aload_n X.1.1.1 X.1.1.2.1 dL_law_833 rfl (lv_at hl 1 rfl)) ?_
  refine k_arg (q := 1) X hl hk (by decide) (by decide) dL_law_834 dL_law_835 dL_law_836 dL_law_837 dL_law_838 (rfl : 834 + 5 = 839) ?_
  refine k_arg (q := 2) X hl hk (by decide) (by decide) dL_law_839 dL_law_840 dL_law_841 dL_law_842 dL_law_843 (rfl : 839 + 5 = 844) ?_
  refine kc_j (w := [.int (xs (k + 1)), .int (xs (k + 2))]) (st := [.long r]) X.1 hl.1 kX8 IX8_drawn hX8_drawn kl_98 ⟨Nat.le_of_ble_eq_true rfl, Nat.le_of_ble_eq_true rfl⟩ k492 f2 rfl rfl (Nat.le_of_ble_eq_true rfl) dL_law_844 (rfl : 844 + 3 = 847) ?_
  refine kc_w (pc2 := 848) (fun _ _ => W.lcmp X.1.1.1 X.1.1.2.1 dL_law_847) ?_
  exact kc_w (pc2 := 1534) (fun _ _ kk => lv_if_eq (tgt := 1534) X.1.1.1 X.1.1.2.1 dL_law_848 (by decide) (fun _ => kk) (fun z => absurd ((q_eq r r).mpr rfl) z)) (kk M2 hI2)
set_option maxRecDepth 20000 in
theorem lw_c20 (X : Lx p s m c b L xs h0 D cy tt cells slots) (hl : Ll ls b h0 k) (hk : k + 6 ≤ L) (hI : Inv M) (kk : ∀ M2, Inv M2 → Kc room_1 p l e s m #[Value.ref b] below meth c h0 D cy cells slots Q 1534 ls [] M2) : Kc room_1 p l e s m #[Value.ref b] below meth c h0 D cy cells slots Q 853 ls [] M := by
  obtain ⟨⟨nc, nt, np, nw, tm, o, u, hC⟩, hB⟩ := hI
  obtain ⟨r, M1, M2, f1, f2, hI2⟩ := ca_stage hC hB (xs (k + 1))
  refine kc_w (pc2 := 854) (fun _ _ => lv_aload_n X.1.1.1 X.1.1.2.1 dL_law_853 rfl (lv_at hl 2 rfl)) ?_
  refine k_arg (q := 1) X hl hk (by decide) (by decide) dL_law_854 dL_law_855 dL_law_856 dL_law_857 dL_law_858 (rfl : 854 + 5 = 859) ?_
  refine kc_i (w := [.int (xs (k + 1))]) (st := []) X.1 hl.1 kX7 IX7_stage hX7_stage kl_99 ⟨Nat.le_of_ble_eq_true rfl, Nat.le_of_ble_eq_true rfl⟩ k0 f1 rfl rfl (Nat.le_of_ble_eq_true rfl) dL_law_859 (rfl : 859 + 3 = 862) ?_
  refine kc_w (pc2 := 863) (fun _ _ => lv_aload_n X.1.1.1 X.1.1.2.1 dL_law_862 rfl (lv_at hl 1 rfl)) ?_
  refine k_arg (q := 1) X hl hk (by decide) (by decide) dL_law_863 dL_law_864 dL_law_865 dL_law_866 dL_law_867 (rfl : 863 + 5 = 868) ?_
  refine kc_i (w := [.int (xs (k + 1))]) (st := [.int r]) X.1 hl.1 kX8 IX8_stage hX8_stage kl_102 ⟨Nat.le_of_ble_eq_true rfl, Nat.le_of_ble_eq_true rfl⟩ k492 f2 rfl rfl (Nat.le_of_ble_eq_true rfl) dL_law_868 (rfl : 868 + 3 = 871) ?_
  exact kc_w (pc2 := 1534) (fun _ _ kk => lv_icmp_eq (tgt := 1534) X.1.1.1 X.1.1.2.1 dL_law_871 (by decide) (fun _ => kk) (fun z => absurd rfl z)) (kk M2 hI2)
set_option maxRecDepth 20000 in
theorem lw_c21 (X : Lx p s m c b L xs h0 D cy tt cells slots) (hl : Ll ls b h0 k) (hk : k + 6 ≤ L) (hI : Inv M) (kk : ∀ M2, Inv M2 → Kc room_1 p l e s m #[Value.ref b] below meth c h0 D cy cells slots Q 1534 ls [] M2) : Kc room_1 p l e s m #[Value.ref b] below meth c h0 D cy cells slots Q 876 ls [] M := by
  obtain ⟨⟨nc, nt, np, nw, tm, o, u, hC⟩, hB⟩ := hI
  obtain ⟨r, M1, M2, f1, f2, hI2⟩ := ca_between hC hB (xs (k + 1)) (xs (k + 2)) (xs (k + 3))
  refine kc_w (pc2 := 877) (fun _ _ => lv_aload_n X.1.1.1 X.1.1.2.1 dL_law_876 rfl (lv_at hl 2 rfl)) ?_
  refine k_arg (q := 1) X hl hk (by decide) (by decide) dL_law_877 dL_law_878 dL_law_879 dL_law_880 dL_law_881 (rfl : 877 + 5 = 882) ?_
  refine k_arg (q := 2) X hl hk (by decide) (by decide) dL_law_882 dL_law_883 dL_law_884 dL_law_885 dL_law_886 (rfl : 882 + 5 = 887) ?_
  refine k_arg (q := 3) X hl hk (by decide) (by decide) dL_law_887 dL_law_888 dL_law_889 dL_law_890 dL_law_891 (rfl : 887 + 5 = 892) ?_
  refine kc_j (w := [.int (xs (k + 1)), .int (xs (k + 2)), .int (xs (k + 3))]) (st := []) X.1 hl.1 kX7 IX7_between hX7_between kl_103 ⟨Nat.le_of_ble_eq_true rfl, Nat.le_of_ble_eq_true rfl⟩ k0 f1 rfl rfl (Nat.le_of_ble_eq_true rfl) dL_law_892 (rfl : 892 + 3 = 895) ?_
  refine kc_w (pc2 := 896) (fun _ _ => lv_aload_n X.1.1.1 X.1.1.2.1 dL_law_895 rfl (lv_at hl 1 rfl)) ?_
  refine k_arg (q := 1) X hl hk (by decide) (by decide) dL_law_896 dL_law_897 dL_law_898 dL_law_899 dL_law_900 (rfl : 896 + 5 = 901) ?_
  refine k_arg (q := 2) X hl hk (by decide) (by decide) dL_law_901 dL_law_902 dL_law_903 dL_law_904 dL_law_905 (rfl : 901 + 5 = 906) ?_
  refine k_arg (q := 3) X hl hk (by decide) (by decide) dL_law_906 dL_law_907 dL_law_908 dL_law_909 dL_law_910 (rfl : 906 + 5 = 911) ?_
  refine kc_j (w := [.int (xs (k + 1)), .int (xs (k + 2)), .int (xs (k + 3))]) (st := [.long r]) X.1 hl.1 kX8 IX8_between hX8_between kl_107 ⟨Nat.le_of_ble_eq_true rfl, Nat.le_of_ble_eq_true rfl⟩ k492 f2 rfl rfl (Nat.le_of_ble_eq_true rfl) dL_law_911 (rfl : 911 + 3 = 914) ?_
  refine kc_w (pc2 := 915) (fun _ _ => W.lcmp X.1.1.1 X.1.1.2.1 dL_law_914) ?_
  exact kc_w (pc2 := 1534) (fun _ _ kk => lv_if_eq (tgt := 1534) X.1.1.1 X.1.1.2.1 dL_law_915 (by decide) (fun _ => kk) (fun z => absurd ((q_eq r r).mpr rfl) z)) (kk M2 hI2)
set_option maxRecDepth 20000 in
theorem lw_c22 (X : Lx p s m c b L xs h0 D cy tt cells slots) (hl : Ll ls b h0 k) (hk : k + 6 ≤ L) (hI : Inv M) (kk : ∀ M2, Inv M2 → Kc room_1 p l e s m #[Value.ref b] below meth c h0 D cy cells slots Q 1534 ls [] M2) : Kc room_1 p l e s m #[Value.ref b] below meth c h0 D cy cells slots Q 920 ls [] M := by
  obtain ⟨⟨nc, nt, np, nw, tm, o, u, hC⟩, hB⟩ := hI
  obtain ⟨r, M1, M2, f1, f2, hI2⟩ := ca_reduced hC hB (xs (k + 1)) (xs (k + 2)) (xs (k + 3))
  refine kc_w (pc2 := 921) (fun _ _ => lv_aload_n X.1.1.1 X.1.1.2.1 dL_law_920 rfl (lv_at hl 2 rfl)) ?_
  refine k_arg (q := 1) X hl hk (by decide) (by decide) dL_law_921 dL_law_922 dL_law_923 dL_law_924 dL_law_925 (rfl : 921 + 5 = 926) ?_
  refine k_arg (q := 2) X hl hk (by decide) (by decide) dL_law_926 dL_law_927 dL_law_928 dL_law_929 dL_law_930 (rfl : 926 + 5 = 931) ?_
  refine k_arg (q := 3) X hl hk (by decide) (by decide) dL_law_931 dL_law_932 dL_law_933 dL_law_934 dL_law_935 (rfl : 931 + 5 = 936) ?_
  refine kc_j (w := [.int (xs (k + 1)), .int (xs (k + 2)), .int (xs (k + 3))]) (st := []) X.1 hl.1 kX7 IX7_reduced hX7_reduced kl_108 ⟨Nat.le_of_ble_eq_true rfl, Nat.le_of_ble_eq_true rfl⟩ k0 f1 rfl rfl (Nat.le_of_ble_eq_true rfl) dL_law_936 (rfl : 936 + 3 = 939) ?_
  refine kc_w (pc2 := 940) (fun _ _ => lv_aload_n X.1.1.1 X.1.1.2.1 dL_law_939 rfl (lv_at hl 1 rfl)) ?_
  refine k_arg (q := 1) X hl hk (by decide) (by decide) dL_law_940 dL_law_941 dL_law_942 dL_law_943 dL_law_944 (rfl : 940 + 5 = 945) ?_
  refine k_arg (q := 2) X hl hk (by decide) (by decide) dL_law_945 dL_law_946 dL_law_947 dL_law_948 dL_law_949 (rfl : 945 + 5 = 950) ?_
  refine k_arg (q := 3) X hl hk (by decide) (by decide) dL_law_950 dL_law_951 dL_law_952 dL_law_953 dL_law_954 (rfl : 950 + 5 = 955) ?_
  refine kc_j (w := [.int (xs (k + 1)), .int (xs (k + 2)), .int (xs (k + 3))]) (st := [.long r]) X.1 hl.1 kX8 IX8_reduced hX8_reduced kl_111 ⟨Nat.le_of_ble_eq_true rfl, Nat.le_of_ble_eq_true rfl⟩ k492 f2 rfl rfl (Nat.le_of_ble_eq_true rfl) dL_law_955 (rfl : 955 + 3 = 958) ?_
  refine kc_w (pc2 := 959) (fun _ _ => W.lcmp X.1.1.1 X.1.1.2.1 dL_law_958) ?_
  exact kc_w (pc2 := 1534) (fun _ _ kk => lv_if_eq (tgt := 1534) X.1.1.1 X.1.1.2.1 dL_law_959 (by decide) (fun _ => kk) (fun z => absurd ((q_eq r r).mpr rfl) z)) (kk M2 hI2)
set_option maxRecDepth 20000 in
theorem lw_c23 (X : Lx p s m c b L xs h0 D cy tt cells slots) (hl : Ll ls b h0 k) (hk : k + 6 ≤ L) (hI : Inv M) (kk : ∀ M2, Inv M2 → Kc room_1 p l e s m #[Value.ref b] below meth c h0 D cy cells slots Q 1534 ls [] M2) : Kc room_1 p l e s m #[Value.ref b] below meth c h0 D cy cells slots Q 964 ls [] M := by
  obtain ⟨⟨nc, nt, np, nw, tm, o, u, hC⟩, hB⟩ := hI
  obtain ⟨r, M1, M2, f1, f2, hI2⟩ := ca_suspects hC hB (xs (k + 1))
  refine kc_w (pc2 := 965) (fun _ _ => lv_aload_n X.1.1.1 X.1.1.2.1 dL_law_964 rfl (lv_at hl 2 rfl)) ?_
  refine k_arg (q := 1) X hl hk (by decide) (by decide) dL_law_965 dL_law_966 dL_law_967 dL_law_968 dL_law_969 (rfl : 965 + 5 = 970) ?_
  refine kc_i (w := [.int (xs (k + 1))]) (st := []) X.1 hl.1 kX7 IX7_suspects hX7_suspects kl_112 ⟨Nat.le_of_ble_eq_true rfl, Nat.le_of_ble_eq_true rfl⟩ k0 f1 rfl rfl (Nat.le_of_ble_eq_true rfl) dL_law_970 (rfl : 970 + 3 = 973) ?_
  refine kc_w (pc2 := 974) (fun _ _ => lv_aload_n X.1.1.1 X.1.1.2.1 dL_law_973 rfl (lv_at hl 1 rfl)) ?_
  refine k_arg (q := 1) X hl hk (by decide) (by decide) dL_law_974 dL_law_975 dL_law_976 dL_law_977 dL_law_978 (rfl : 974 + 5 = 979) ?_
  refine kc_i (w := [.int (xs (k + 1))]) (st := [.int r]) X.1 hl.1 kX8 IX8_suspects hX8_suspects kl_115 ⟨Nat.le_of_ble_eq_true rfl, Nat.le_of_ble_eq_true rfl⟩ k492 f2 rfl rfl (Nat.le_of_ble_eq_true rfl) dL_law_979 (rfl : 979 + 3 = 982) ?_
  exact kc_w (pc2 := 1534) (fun _ _ kk => lv_icmp_eq (tgt := 1534) X.1.1.1 X.1.1.2.1 dL_law_982 (by decide) (fun _ => kk) (fun z => absurd rfl z)) (kk M2 hI2)
set_option maxRecDepth 20000 in
theorem lw_c24 (X : Lx p s m c b L xs h0 D cy tt cells slots) (hl : Ll ls b h0 k) (hk : k + 6 ≤ L) (hI : Inv M) (kk : ∀ M2, Inv M2 → Kc room_1 p l e s m #[Value.ref b] below meth c h0 D cy cells slots Q 1534 ls [] M2) : Kc room_1 p l e s m #[Value.ref b] below meth c h0 D cy cells slots Q 987 ls [] M := by
  obtain ⟨⟨nc, nt, np, nw, tm, o, u, hC⟩, hB⟩ := hI
  obtain ⟨r, M1, M2, f1, f2, hI2⟩ := ca_probe hC hB (xs (k + 1))
  refine kc_w (pc2 := 988) (fun _ _ => lv_aload_n X.1.1.1 X.1.1.2.1 dL_law_987 rfl (lv_at hl 2 rfl)) ?_
  refine k_arg (q := 1) X hl hk (by decide) (by decide) dL_law_988 dL_law_989 dL_law_990 dL_law_991 dL_law_992 (rfl : 988 + 5 = 993) ?_
  refine kc_i (w := [.int (xs (k + 1))]) (st := []) X.1 hl.1 kX7 IX7_probe hX7_probe kl_116 ⟨Nat.le_of_ble_eq_true rfl, Nat.le_of_ble_eq_true rfl⟩ k0 f1 rfl rfl (Nat.le_of_ble_eq_true rfl) dL_law_993 (rfl : 993 + 3 = 996) ?_
  refine kc_w (pc2 := 997) (fun _ _ => lv_aload_n X.1.1.1 X.1.1.2.1 dL_law_996 rfl (lv_at hl 1 rfl)) ?_
  refine k_arg (q := 1) X hl hk (by decide) (by decide) dL_law_997 dL_law_998 dL_law_999 dL_law_1000 dL_law_1001 (rfl : 997 + 5 = 1002) ?_
  refine kc_i (w := [.int (xs (k + 1))]) (st := [.int r]) X.1 hl.1 kX8 IX8_probe hX8_probe kl_119 ⟨Nat.le_of_ble_eq_true rfl, Nat.le_of_ble_eq_true rfl⟩ k492 f2 rfl rfl (Nat.le_of_ble_eq_true rfl) dL_law_1002 (rfl : 1002 + 3 = 1005) ?_
  exact kc_w (pc2 := 1534) (fun _ _ kk => lv_icmp_eq (tgt := 1534) X.1.1.1 X.1.1.2.1 dL_law_1005 (by decide) (fun _ => kk) (fun z => absurd rfl z)) (kk M2 hI2)
set_option maxRecDepth 20000 in
theorem lw_c25 (X : Lx p s m c b L xs h0 D cy tt cells slots) (hl : Ll ls b h0 k) (hk : k + 6 ≤ L) (hI : Inv M) (kk : ∀ M2, Inv M2 → Kc room_1 p l e s m #[Value.ref b] below meth c h0 D cy cells slots Q 1534 ls [] M2) : Kc room_1 p l e s m #[Value.ref b] below meth c h0 D cy cells slots Q 1010 ls [] M := by
  obtain ⟨⟨nc, nt, np, nw, tm, o, u, hC⟩, hB⟩ := hI
  obtain ⟨r, M1, M2, f1, f2, hI2⟩ := ca_parts hC hB (xs (k + 1)) (xs (k + 2)) (xs (k + 3))
  refine kc_w (pc2 := 1011) (fun _ _ => lv_aload_n X.1.1.1 X.1.1.2.1 dL_law_1010 rfl (lv_at hl 2 rfl)) ?_
  refine k_arg (q := 1) X hl hk (by decide) (by decide) dL_law_1011 dL_law_1012 dL_law_1013 dL_law_1014 dL_law_1015 (rfl : 1011 + 5 = 1016) ?_
  refine k_arg (q := 2) X hl hk (by decide) (by decide) dL_law_1016 dL_law_1017 dL_law_1018 dL_law_1019 dL_law_1020 (rfl : 1016 + 5 = 1021) ?_
  refine k_arg (q := 3) X hl hk (by decide) (by decide) dL_law_1021 dL_law_1022 dL_law_1023 dL_law_1024 dL_law_1025 (rfl : 1021 + 5 = 1026) ?_
  refine kc_i (w := [.int (xs (k + 1)), .int (xs (k + 2)), .int (xs (k + 3))]) (st := []) X.1 hl.1 kX7 IX7_parts hX7_parts kl_120 ⟨Nat.le_of_ble_eq_true rfl, Nat.le_of_ble_eq_true rfl⟩ k0 f1 rfl rfl (Nat.le_of_ble_eq_true rfl) dL_law_1026 (rfl : 1026 + 3 = 1029) ?_
  refine kc_w (pc2 := 1030) (fun _ _ => lv_aload_n X.1.1.1 X.1.1.2.1 dL_law_1029 rfl (lv_at hl 1 rfl)) ?_
  refine k_arg (q := 1) X hl hk (by decide) (by decide) dL_law_1030 dL_law_1031 dL_law_1032 dL_law_1033 dL_law_1034 (rfl : 1030 + 5 = 1035) ?_
  refine k_arg (q := 2) X hl hk (by decide) (by decide) dL_law_1035 dL_law_1036 dL_law_1037 dL_law_1038 dL_law_1039 (rfl : 1035 + 5 = 1040) ?_
  refine k_arg (q := 3) X hl hk (by decide) (by decide) dL_law_1040 dL_law_1041 dL_law_1042 dL_law_1043 dL_law_1044 (rfl : 1040 + 5 = 1045) ?_
  refine kc_i (w := [.int (xs (k + 1)), .int (xs (k + 2)), .int (xs (k + 3))]) (st := [.int r]) X.1 hl.1 kX8 IX8_parts hX8_parts kl_123 ⟨Nat.le_of_ble_eq_true rfl, Nat.le_of_ble_eq_true rfl⟩ k492 f2 rfl rfl (Nat.le_of_ble_eq_true rfl) dL_law_1045 (rfl : 1045 + 3 = 1048) ?_
  exact kc_w (pc2 := 1534) (fun _ _ kk => lv_icmp_eq (tgt := 1534) X.1.1.1 X.1.1.2.1 dL_law_1048 (by decide) (fun _ => kk) (fun z => absurd rfl z)) (kk M2 hI2)
set_option maxRecDepth 20000 in
theorem lw_c26 (X : Lx p s m c b L xs h0 D cy tt cells slots) (hl : Ll ls b h0 k) (hk : k + 6 ≤ L) (hI : Inv M) (kk : ∀ M2, Inv M2 → Kc room_1 p l e s m #[Value.ref b] below meth c h0 D cy cells slots Q 1534 ls [] M2) : Kc room_1 p l e s m #[Value.ref b] below meth c h0 D cy cells slots Q 1053 ls [] M := by
  obtain ⟨⟨nc, nt, np, nw, tm, o, u, hC⟩, hB⟩ := hI
  obtain ⟨r, M1, M2, f1, f2, hI2⟩ := ca_place hC hB (xs (k + 1))
  refine kc_w (pc2 := 1054) (fun _ _ => lv_aload_n X.1.1.1 X.1.1.2.1 dL_law_1053 rfl (lv_at hl 2 rfl)) ?_
  refine k_arg (q := 1) X hl hk (by decide) (by decide) dL_law_1054 dL_law_1055 dL_law_1056 dL_law_1057 dL_law_1058 (rfl : 1054 + 5 = 1059) ?_
  refine kc_i (w := [.int (xs (k + 1))]) (st := []) X.1 hl.1 kX7 IX7_place hX7_place kl_124 ⟨Nat.le_of_ble_eq_true rfl, Nat.le_of_ble_eq_true rfl⟩ k0 f1 rfl rfl (Nat.le_of_ble_eq_true rfl) dL_law_1059 (rfl : 1059 + 3 = 1062) ?_
  refine kc_w (pc2 := 1063) (fun _ _ => lv_aload_n X.1.1.1 X.1.1.2.1 dL_law_1062 rfl (lv_at hl 1 rfl)) ?_
  refine k_arg (q := 1) X hl hk (by decide) (by decide) dL_law_1063 dL_law_1064 dL_law_1065 dL_law_1066 dL_law_1067 (rfl : 1063 + 5 = 1068) ?_
  refine kc_i (w := [.int (xs (k + 1))]) (st := [.int r]) X.1 hl.1 kX8 IX8_place hX8_place kl_127 ⟨Nat.le_of_ble_eq_true rfl, Nat.le_of_ble_eq_true rfl⟩ k492 f2 rfl rfl (Nat.le_of_ble_eq_true rfl) dL_law_1068 (rfl : 1068 + 3 = 1071) ?_
  exact kc_w (pc2 := 1534) (fun _ _ kk => lv_icmp_eq (tgt := 1534) X.1.1.1 X.1.1.2.1 dL_law_1071 (by decide) (fun _ => kk) (fun z => absurd rfl z)) (kk M2 hI2)
set_option maxRecDepth 20000 in
theorem lw_c27 (X : Lx p s m c b L xs h0 D cy tt cells slots) (hl : Ll ls b h0 k) (hk : k + 6 ≤ L) (hI : Inv M) (kk : ∀ M2, Inv M2 → Kc room_1 p l e s m #[Value.ref b] below meth c h0 D cy cells slots Q 1534 ls [] M2) : Kc room_1 p l e s m #[Value.ref b] below meth c h0 D cy cells slots Q 1076 ls [] M := by
  obtain ⟨⟨nc, nt, np, nw, tm, o, u, hC⟩, hB⟩ := hI
  obtain ⟨r, M1, M2, f1, f2, hI2⟩ := ca_hottest hC hB (xs (k + 1))
  refine kc_w (pc2 := 1077) (fun _ _ => lv_aload_n X.1.1.1 X.1.1.2.1 dL_law_1076 rfl (lv_at hl 2 rfl)) ?_
  refine k_arg (q := 1) X hl hk (by decide) (by decide) dL_law_1077 dL_law_1078 dL_law_1079 dL_law_1080 dL_law_1081 (rfl : 1077 + 5 = 1082) ?_
  refine kc_i (w := [.int (xs (k + 1))]) (st := []) X.1 hl.1 kX7 IX7_hottest hX7_hottest kl_128 ⟨Nat.le_of_ble_eq_true rfl, Nat.le_of_ble_eq_true rfl⟩ k0 f1 rfl rfl (Nat.le_of_ble_eq_true rfl) dL_law_1082 (rfl : 1082 + 3 = 1085) ?_
  refine kc_w (pc2 := 1086) (fun _ _ => lv_aload_n X.1.1.1 X.1.1.2.1 dL_law_1085 rfl (lv_at hl 1 rfl)) ?_
  refine k_arg (q := 1) X hl hk (by decide) (by decide) dL_law_1086 dL_law_1087 dL_law_1088 dL_law_1089 dL_law_1090 (rfl : 1086 + 5 = 1091) ?_
  refine kc_i (w := [.int (xs (k + 1))]) (st := [.int r]) X.1 hl.1 kX8 IX8_hottest hX8_hottest kl_131 ⟨Nat.le_of_ble_eq_true rfl, Nat.le_of_ble_eq_true rfl⟩ k492 f2 rfl rfl (Nat.le_of_ble_eq_true rfl) dL_law_1091 (rfl : 1091 + 3 = 1094) ?_
  exact kc_w (pc2 := 1534) (fun _ _ kk => lv_icmp_eq (tgt := 1534) X.1.1.1 X.1.1.2.1 dL_law_1094 (by decide) (fun _ => kk) (fun z => absurd rfl z)) (kk M2 hI2)
set_option maxRecDepth 20000 in
theorem lw_c28 (X : Lx p s m c b L xs h0 D cy tt cells slots) (hl : Ll ls b h0 k) (hk : k + 6 ≤ L) (hI : Inv M) (kk : ∀ M2, Inv M2 → Kc room_1 p l e s m #[Value.ref b] below meth c h0 D cy cells slots Q 1534 ls [] M2) : Kc room_1 p l e s m #[Value.ref b] below meth c h0 D cy cells slots Q 1099 ls [] M := by
  obtain ⟨⟨nc, nt, np, nw, tm, o, u, hC⟩, hB⟩ := hI
  obtain ⟨r, M1, M2, f1, f2, hI2⟩ := ca_fed hC hB (xs (k + 1)) (xs (k + 2))
  refine kc_w (pc2 := 1100) (fun _ _ => lv_aload_n X.1.1.1 X.1.1.2.1 dL_law_1099 rfl (lv_at hl 2 rfl)) ?_
  refine k_arg (q := 1) X hl hk (by decide) (by decide) dL_law_1100 dL_law_1101 dL_law_1102 dL_law_1103 dL_law_1104 (rfl : 1100 + 5 = 1105) ?_
  refine k_arg (q := 2) X hl hk (by decide) (by decide) dL_law_1105 dL_law_1106 dL_law_1107 dL_law_1108 dL_law_1109 (rfl : 1105 + 5 = 1110) ?_
  refine kc_i (w := [.int (xs (k + 1)), .int (xs (k + 2))]) (st := []) X.1 hl.1 kX7 IX7_fed hX7_fed kl_132 ⟨Nat.le_of_ble_eq_true rfl, Nat.le_of_ble_eq_true rfl⟩ k0 f1 rfl rfl (Nat.le_of_ble_eq_true rfl) dL_law_1110 (rfl : 1110 + 3 = 1113) ?_
  refine kc_w (pc2 := 1114) (fun _ _ => lv_aload_n X.1.1.1 X.1.1.2.1 dL_law_1113 rfl (lv_at hl 1 rfl)) ?_
  refine k_arg (q := 1) X hl hk (by decide) (by decide) dL_law_1114 dL_law_1115 dL_law_1116 dL_law_1117 dL_law_1118 (rfl : 1114 + 5 = 1119) ?_
  refine k_arg (q := 2) X hl hk (by decide) (by decide) dL_law_1119 dL_law_1120 dL_law_1121 dL_law_1122 dL_law_1123 (rfl : 1119 + 5 = 1124) ?_
  refine kc_i (w := [.int (xs (k + 1)), .int (xs (k + 2))]) (st := [.int r]) X.1 hl.1 kX8 IX8_fed hX8_fed kl_135 ⟨Nat.le_of_ble_eq_true rfl, Nat.le_of_ble_eq_true rfl⟩ k492 f2 rfl rfl (Nat.le_of_ble_eq_true rfl) dL_law_1124 (rfl : 1124 + 3 = 1127) ?_
  exact kc_w (pc2 := 1534) (fun _ _ kk => lv_icmp_eq (tgt := 1534) X.1.1.1 X.1.1.2.1 dL_law_1127 (by decide) (fun _ => kk) (fun z => absurd rfl z)) (kk M2 hI2)
set_option maxRecDepth 20000 in
theorem lw_c29 (X : Lx p s m c b L xs h0 D cy tt cells slots) (hl : Ll ls b h0 k) (hk : k + 6 ≤ L) (hI : Inv M) (kk : ∀ M2, Inv M2 → Kc room_1 p l e s m #[Value.ref b] below meth c h0 D cy cells slots Q 1534 ls [] M2) : Kc room_1 p l e s m #[Value.ref b] below meth c h0 D cy cells slots Q 1132 ls [] M := by
  obtain ⟨⟨nc, nt, np, nw, tm, o, u, hC⟩, hB⟩ := hI
  obtain ⟨r, M1, M2, f1, f2, hI2⟩ := ca_bears hC hB (xs (k + 1)) (xs (k + 2))
  refine kc_w (pc2 := 1133) (fun _ _ => lv_aload_n X.1.1.1 X.1.1.2.1 dL_law_1132 rfl (lv_at hl 2 rfl)) ?_
  refine k_arg (q := 1) X hl hk (by decide) (by decide) dL_law_1133 dL_law_1134 dL_law_1135 dL_law_1136 dL_law_1137 (rfl : 1133 + 5 = 1138) ?_
  refine k_arg (q := 2) X hl hk (by decide) (by decide) dL_law_1138 dL_law_1139 dL_law_1140 dL_law_1141 dL_law_1142 (rfl : 1138 + 5 = 1143) ?_
  refine kc_i (w := [.int (xs (k + 1)), .int (xs (k + 2))]) (st := []) X.1 hl.1 kX7 IX7_bears hX7_bears kl_136 ⟨Nat.le_of_ble_eq_true rfl, Nat.le_of_ble_eq_true rfl⟩ k0 f1 rfl rfl (Nat.le_of_ble_eq_true rfl) dL_law_1143 (rfl : 1143 + 3 = 1146) ?_
  refine kc_w (pc2 := 1147) (fun _ _ => lv_aload_n X.1.1.1 X.1.1.2.1 dL_law_1146 rfl (lv_at hl 1 rfl)) ?_
  refine k_arg (q := 1) X hl hk (by decide) (by decide) dL_law_1147 dL_law_1148 dL_law_1149 dL_law_1150 dL_law_1151 (rfl : 1147 + 5 = 1152) ?_
  refine k_arg (q := 2) X hl hk (by decide) (by decide) dL_law_1152 dL_law_1153 dL_law_1154 dL_law_1155 dL_law_1156 (rfl : 1152 + 5 = 1157) ?_
  refine kc_i (w := [.int (xs (k + 1)), .int (xs (k + 2))]) (st := [.int r]) X.1 hl.1 kX8 IX8_bears hX8_bears kl_139 ⟨Nat.le_of_ble_eq_true rfl, Nat.le_of_ble_eq_true rfl⟩ k492 f2 rfl rfl (Nat.le_of_ble_eq_true rfl) dL_law_1157 (rfl : 1157 + 3 = 1160) ?_
  exact kc_w (pc2 := 1534) (fun _ _ kk => lv_icmp_eq (tgt := 1534) X.1.1.1 X.1.1.2.1 dL_law_1160 (by decide) (fun _ => kk) (fun z => absurd rfl z)) (kk M2 hI2)
set_option maxRecDepth 20000 in
theorem lw_c30 (X : Lx p s m c b L xs h0 D cy tt cells slots) (hl : Ll ls b h0 k) (hk : k + 6 ≤ L) (hI : Inv M) (kk : ∀ M2, Inv M2 → Kc room_1 p l e s m #[Value.ref b] below meth c h0 D cy cells slots Q 1534 ls [] M2) : Kc room_1 p l e s m #[Value.ref b] below meth c h0 D cy cells slots Q 1165 ls [] M := by
  obtain ⟨⟨nc, nt, np, nw, tm, o, u, hC⟩, hB⟩ := hI
  obtain ⟨r, M1, M2, f1, f2, hI2⟩ := ca_valve hC hB (xs (k + 1))
  refine kc_w (pc2 := 1166) (fun _ _ => lv_aload_n X.1.1.1 X.1.1.2.1 dL_law_1165 rfl (lv_at hl 2 rfl)) ?_
  refine k_arg (q := 1) X hl hk (by decide) (by decide) dL_law_1166 dL_law_1167 dL_law_1168 dL_law_1169 dL_law_1170 (rfl : 1166 + 5 = 1171) ?_
  refine kc_i (w := [.int (xs (k + 1))]) (st := []) X.1 hl.1 kX7 IX7_valve hX7_valve kl_140 ⟨Nat.le_of_ble_eq_true rfl, Nat.le_of_ble_eq_true rfl⟩ k0 f1 rfl rfl (Nat.le_of_ble_eq_true rfl) dL_law_1171 (rfl : 1171 + 3 = 1174) ?_
  refine kc_w (pc2 := 1175) (fun _ _ => lv_aload_n X.1.1.1 X.1.1.2.1 dL_law_1174 rfl (lv_at hl 1 rfl)) ?_
  refine k_arg (q := 1) X hl hk (by decide) (by decide) dL_law_1175 dL_law_1176 dL_law_1177 dL_law_1178 dL_law_1179 (rfl : 1175 + 5 = 1180) ?_
  refine kc_i (w := [.int (xs (k + 1))]) (st := [.int r]) X.1 hl.1 kX8 IX8_valve hX8_valve kl_143 ⟨Nat.le_of_ble_eq_true rfl, Nat.le_of_ble_eq_true rfl⟩ k492 f2 rfl rfl (Nat.le_of_ble_eq_true rfl) dL_law_1180 (rfl : 1180 + 3 = 1183) ?_
  exact kc_w (pc2 := 1534) (fun _ _ kk => lv_icmp_eq (tgt := 1534) X.1.1.1 X.1.1.2.1 dL_law_1183 (by decide) (fun _ => kk) (fun z => absurd rfl z)) (kk M2 hI2)
set_option maxRecDepth 20000 in
theorem lw_c31 (X : Lx p s m c b L xs h0 D cy tt cells slots) (hl : Ll ls b h0 k) (hk : k + 6 ≤ L) (hI : Inv M) (kk : ∀ M2, Inv M2 → Kc room_1 p l e s m #[Value.ref b] below meth c h0 D cy cells slots Q 1534 ls [] M2) : Kc room_1 p l e s m #[Value.ref b] below meth c h0 D cy cells slots Q 1188 ls [] M := by
  obtain ⟨⟨nc, nt, np, nw, tm, o, u, hC⟩, hB⟩ := hI
  obtain ⟨r, M1, M2, f1, f2, hI2⟩ := ca_trip hC hB (xs (k + 1))
  refine kc_w (pc2 := 1189) (fun _ _ => lv_aload_n X.1.1.1 X.1.1.2.1 dL_law_1188 rfl (lv_at hl 2 rfl)) ?_
  refine k_arg (q := 1) X hl hk (by decide) (by decide) dL_law_1189 dL_law_1190 dL_law_1191 dL_law_1192 dL_law_1193 (rfl : 1189 + 5 = 1194) ?_
  refine kc_i (w := [.int (xs (k + 1))]) (st := []) X.1 hl.1 kX7 IX7_trip hX7_trip kl_144 ⟨Nat.le_of_ble_eq_true rfl, Nat.le_of_ble_eq_true rfl⟩ k0 f1 rfl rfl (Nat.le_of_ble_eq_true rfl) dL_law_1194 (rfl : 1194 + 3 = 1197) ?_
  refine kc_w (pc2 := 1198) (fun _ _ => lv_aload_n X.1.1.1 X.1.1.2.1 dL_law_1197 rfl (lv_at hl 1 rfl)) ?_
  refine k_arg (q := 1) X hl hk (by decide) (by decide) dL_law_1198 dL_law_1199 dL_law_1200 dL_law_1201 dL_law_1202 (rfl : 1198 + 5 = 1203) ?_
  refine kc_i (w := [.int (xs (k + 1))]) (st := [.int r]) X.1 hl.1 kX8 IX8_trip hX8_trip kl_147 ⟨Nat.le_of_ble_eq_true rfl, Nat.le_of_ble_eq_true rfl⟩ k492 f2 rfl rfl (Nat.le_of_ble_eq_true rfl) dL_law_1203 (rfl : 1203 + 3 = 1206) ?_
  exact kc_w (pc2 := 1534) (fun _ _ kk => lv_icmp_eq (tgt := 1534) X.1.1.1 X.1.1.2.1 dL_law_1206 (by decide) (fun _ => kk) (fun z => absurd rfl z)) (kk M2 hI2)
set_option maxRecDepth 20000 in
theorem lw_c32 (X : Lx p s m c b L xs h0 D cy tt cells slots) (hl : Ll ls b h0 k) (hk : k + 6 ≤ L) (hI : Inv M) (kk : ∀ M2, Inv M2 → Kc room_1 p l e s m #[Value.ref b] below meth c h0 D cy cells slots Q 1534 ls [] M2) : Kc room_1 p l e s m #[Value.ref b] below meth c h0 D cy cells slots Q 1211 ls [] M := by
  obtain ⟨⟨nc, nt, np, nw, tm, o, u, hC⟩, hB⟩ := hI
  obtain ⟨r, M1, M2, f1, f2, hI2⟩ := ca_lookout hC hB 
  refine kc_w (pc2 := 1212) (fun _ _ => lv_aload_n X.1.1.1 X.1.1.2.1 dL_law_1211 rfl (lv_at hl 2 rfl)) ?_
  refine kc_i (w := []) (st := []) X.1 hl.1 kX7 IX7_lookout hX7_lookout kl_148 ⟨Nat.le_of_ble_eq_true rfl, Nat.le_of_ble_eq_true rfl⟩ k0 f1 rfl rfl (Nat.le_of_ble_eq_true rfl) dL_law_1212 (rfl : 1212 + 3 = 1215) ?_
  refine kc_w (pc2 := 1216) (fun _ _ => lv_aload_n X.1.1.1 X.1.1.2.1 dL_law_1215 rfl (lv_at hl 1 rfl)) ?_
  refine kc_i (w := []) (st := [.int r]) X.1 hl.1 kX8 IX8_lookout hX8_lookout kl_151 ⟨Nat.le_of_ble_eq_true rfl, Nat.le_of_ble_eq_true rfl⟩ k492 f2 rfl rfl (Nat.le_of_ble_eq_true rfl) dL_law_1216 (rfl : 1216 + 3 = 1219) ?_
  exact kc_w (pc2 := 1534) (fun _ _ kk => lv_icmp_eq (tgt := 1534) X.1.1.1 X.1.1.2.1 dL_law_1219 (by decide) (fun _ => kk) (fun z => absurd rfl z)) (kk M2 hI2)
set_option maxRecDepth 20000 in
theorem lw_c33 (X : Lx p s m c b L xs h0 D cy tt cells slots) (hl : Ll ls b h0 k) (hk : k + 6 ≤ L) (hI : Inv M) (kk : ∀ M2, Inv M2 → Kc room_1 p l e s m #[Value.ref b] below meth c h0 D cy cells slots Q 1534 ls [] M2) : Kc room_1 p l e s m #[Value.ref b] below meth c h0 D cy cells slots Q 1224 ls [] M := by
  obtain ⟨⟨nc, nt, np, nw, tm, o, u, hC⟩, hB⟩ := hI
  obtain ⟨r, M1, M2, f1, f2, hI2⟩ := ca_tried hC hB (xs (k + 1)) (xs (k + 2)) (xs (k + 3))
  refine kc_w (pc2 := 1225) (fun _ _ => lv_aload_n X.1.1.1 X.1.1.2.1 dL_law_1224 rfl (lv_at hl 2 rfl)) ?_
  refine k_arg (q := 1) X hl hk (by decide) (by decide) dL_law_1225 dL_law_1226 dL_law_1227 dL_law_1228 dL_law_1229 (rfl : 1225 + 5 = 1230) ?_
  refine k_arg (q := 2) X hl hk (by decide) (by decide) dL_law_1230 dL_law_1231 dL_law_1232 dL_law_1233 dL_law_1234 (rfl : 1230 + 5 = 1235) ?_
  refine k_arg (q := 3) X hl hk (by decide) (by decide) dL_law_1235 dL_law_1236 dL_law_1237 dL_law_1238 dL_law_1239 (rfl : 1235 + 5 = 1240) ?_
  refine kc_i (w := [.int (xs (k + 1)), .int (xs (k + 2)), .int (xs (k + 3))]) (st := []) X.1 hl.1 kX7 IX7_tried hX7_tried kl_152 ⟨Nat.le_of_ble_eq_true rfl, Nat.le_of_ble_eq_true rfl⟩ k0 f1 rfl rfl (Nat.le_of_ble_eq_true rfl) dL_law_1240 (rfl : 1240 + 3 = 1243) ?_
  refine kc_w (pc2 := 1244) (fun _ _ => lv_aload_n X.1.1.1 X.1.1.2.1 dL_law_1243 rfl (lv_at hl 1 rfl)) ?_
  refine k_arg (q := 1) X hl hk (by decide) (by decide) dL_law_1244 dL_law_1245 dL_law_1246 dL_law_1247 dL_law_1248 (rfl : 1244 + 5 = 1249) ?_
  refine k_arg (q := 2) X hl hk (by decide) (by decide) dL_law_1249 dL_law_1250 dL_law_1251 dL_law_1252 dL_law_1253 (rfl : 1249 + 5 = 1254) ?_
  refine k_arg (q := 3) X hl hk (by decide) (by decide) dL_law_1254 dL_law_1255 dL_law_1256 dL_law_1257 dL_law_1258 (rfl : 1254 + 5 = 1259) ?_
  refine kc_i (w := [.int (xs (k + 1)), .int (xs (k + 2)), .int (xs (k + 3))]) (st := [.int r]) X.1 hl.1 kX8 IX8_tried hX8_tried kl_155 ⟨Nat.le_of_ble_eq_true rfl, Nat.le_of_ble_eq_true rfl⟩ k492 f2 rfl rfl (Nat.le_of_ble_eq_true rfl) dL_law_1259 (rfl : 1259 + 3 = 1262) ?_
  exact kc_w (pc2 := 1534) (fun _ _ kk => lv_icmp_eq (tgt := 1534) X.1.1.1 X.1.1.2.1 dL_law_1262 (by decide) (fun _ => kk) (fun z => absurd rfl z)) (kk M2 hI2)
set_option maxRecDepth 20000 in
theorem lw_c34 (X : Lx p s m c b L xs h0 D cy tt cells slots) (hl : Ll ls b h0 k) (hk : k + 6 ≤ L) (hI : Inv M) (kk : ∀ M2, Inv M2 → Kc room_1 p l e s m #[Value.ref b] below meth c h0 D cy cells slots Q 1534 ls [] M2) : Kc room_1 p l e s m #[Value.ref b] below meth c h0 D cy cells slots Q 1267 ls [] M := by
  obtain ⟨⟨nc, nt, np, nw, tm, o, u, hC⟩, hB⟩ := hI
  obtain ⟨r, M1, M2, f1, f2, hI2⟩ := ca_helped hC hB (xs (k + 1)) (xs (k + 2)) (xs (k + 3))
  refine kc_w (pc2 := 1268) (fun _ _ => lv_aload_n X.1.1.1 X.1.1.2.1 dL_law_1267 rfl (lv_at hl 2 rfl)) ?_
  refine k_arg (q := 1) X hl hk (by decide) (by decide) dL_law_1268 dL_law_1269 dL_law_1270 dL_law_1271 dL_law_1272 (rfl : 1268 + 5 = 1273) ?_
  refine k_arg (q := 2) X hl hk (by decide) (by decide) dL_law_1273 dL_law_1274 dL_law_1275 dL_law_1276 dL_law_1277 (rfl : 1273 + 5 = 1278) ?_
  refine k_arg (q := 3) X hl hk (by decide) (by decide) dL_law_1278 dL_law_1279 dL_law_1280 dL_law_1281 dL_law_1282 (rfl : 1278 + 5 = 1283) ?_
  refine kc_i (w := [.int (xs (k + 1)), .int (xs (k + 2)), .int (xs (k + 3))]) (st := []) X.1 hl.1 kX7 IX7_helped hX7_helped kl_156 ⟨Nat.le_of_ble_eq_true rfl, Nat.le_of_ble_eq_true rfl⟩ k0 f1 rfl rfl (Nat.le_of_ble_eq_true rfl) dL_law_1283 (rfl : 1283 + 3 = 1286) ?_
  refine kc_w (pc2 := 1287) (fun _ _ => lv_aload_n X.1.1.1 X.1.1.2.1 dL_law_1286 rfl (lv_at hl 1 rfl)) ?_
  refine k_arg (q := 1) X hl hk (by decide) (by decide) dL_law_1287 dL_law_1288 dL_law_1289 dL_law_1290 dL_law_1291 (rfl : 1287 + 5 = 1292) ?_
  refine k_arg (q := 2) X hl hk (by decide) (by decide) dL_law_1292 dL_law_1293 dL_law_1294 dL_law_1295 dL_law_1296 (rfl : 1292 + 5 = 1297) ?_
  refine k_arg (q := 3) X hl hk (by decide) (by decide) dL_law_1297 dL_law_1298 dL_law_1299 dL_law_1300 dL_law_1301 (rfl : 1297 + 5 = 1302) ?_
  refine kc_i (w := [.int (xs (k + 1)), .int (xs (k + 2)), .int (xs (k + 3))]) (st := [.int r]) X.1 hl.1 kX8 IX8_helped hX8_helped kl_159 ⟨Nat.le_of_ble_eq_true rfl, Nat.le_of_ble_eq_true rfl⟩ k492 f2 rfl rfl (Nat.le_of_ble_eq_true rfl) dL_law_1302 (rfl : 1302 + 3 = 1305) ?_
  exact kc_w (pc2 := 1534) (fun _ _ kk => lv_icmp_eq (tgt := 1534) X.1.1.1 X.1.1.2.1 dL_law_1305 (by decide) (fun _ => kk) (fun z => absurd rfl z)) (kk M2 hI2)
set_option maxRecDepth 20000 in
theorem lw_c35 (X : Lx p s m c b L xs h0 D cy tt cells slots) (hl : Ll ls b h0 k) (hk : k + 6 ≤ L) (hI : Inv M) (kk : ∀ M2, Inv M2 → Kc room_1 p l e s m #[Value.ref b] below meth c h0 D cy cells slots Q 1534 ls [] M2) : Kc room_1 p l e s m #[Value.ref b] below meth c h0 D cy cells slots Q 1310 ls [] M := by
  obtain ⟨⟨nc, nt, np, nw, tm, o, u, hC⟩, hB⟩ := hI
  obtain ⟨r, M1, M2, f1, f2, hI2⟩ := ca_until hC hB (xs (k + 1))
  refine kc_w (pc2 := 1311) (fun _ _ => lv_aload_n X.1.1.1 X.1.1.2.1 dL_law_1310 rfl (lv_at hl 2 rfl)) ?_
  refine k_arg (q := 1) X hl hk (by decide) (by decide) dL_law_1311 dL_law_1312 dL_law_1313 dL_law_1314 dL_law_1315 (rfl : 1311 + 5 = 1316) ?_
  refine kc_i (w := [.int (xs (k + 1))]) (st := []) X.1 hl.1 kX7 IX7_until hX7_until kl_160 ⟨Nat.le_of_ble_eq_true rfl, Nat.le_of_ble_eq_true rfl⟩ k0 f1 rfl rfl (Nat.le_of_ble_eq_true rfl) dL_law_1316 (rfl : 1316 + 3 = 1319) ?_
  refine kc_w (pc2 := 1320) (fun _ _ => lv_aload_n X.1.1.1 X.1.1.2.1 dL_law_1319 rfl (lv_at hl 1 rfl)) ?_
  refine k_arg (q := 1) X hl hk (by decide) (by decide) dL_law_1320 dL_law_1321 dL_law_1322 dL_law_1323 dL_law_1324 (rfl : 1320 + 5 = 1325) ?_
  refine kc_i (w := [.int (xs (k + 1))]) (st := [.int r]) X.1 hl.1 kX8 IX8_until hX8_until kl_163 ⟨Nat.le_of_ble_eq_true rfl, Nat.le_of_ble_eq_true rfl⟩ k492 f2 rfl rfl (Nat.le_of_ble_eq_true rfl) dL_law_1325 (rfl : 1325 + 3 = 1328) ?_
  exact kc_w (pc2 := 1534) (fun _ _ kk => lv_icmp_eq (tgt := 1534) X.1.1.1 X.1.1.2.1 dL_law_1328 (by decide) (fun _ => kk) (fun z => absurd rfl z)) (kk M2 hI2)
set_option maxRecDepth 20000 in
theorem lw_c36 (X : Lx p s m c b L xs h0 D cy tt cells slots) (hl : Ll ls b h0 k) (hk : k + 6 ≤ L) (hI : Inv M) (kk : ∀ M2, Inv M2 → Kc room_1 p l e s m #[Value.ref b] below meth c h0 D cy cells slots Q 1534 ls [] M2) : Kc room_1 p l e s m #[Value.ref b] below meth c h0 D cy cells slots Q 1333 ls [] M := by
  obtain ⟨⟨nc, nt, np, nw, tm, o, u, hC⟩, hB⟩ := hI
  obtain ⟨r, M1, M2, f1, f2, hI2⟩ := act_call (ac_log hC (xs (k + 1)) (xs (k + 2))) hB
  refine kc_w (pc2 := 1334) (fun _ _ => lv_aload_n X.1.1.1 X.1.1.2.1 dL_law_1333 rfl (lv_at hl 2 rfl)) ?_
  refine k_arg (q := 1) X hl hk (by decide) (by decide) dL_law_1334 dL_law_1335 dL_law_1336 dL_law_1337 dL_law_1338 (rfl : 1334 + 5 = 1339) ?_
  refine k_arg (q := 2) X hl hk (by decide) (by decide) dL_law_1339 dL_law_1340 dL_law_1341 dL_law_1342 dL_law_1343 (rfl : 1339 + 5 = 1344) ?_
  refine kc_i (w := [.int (xs (k + 1)), .int (xs (k + 2))]) (st := []) X.1 hl.1 kX7 IX7_log hX7_log kl_164 ⟨Nat.le_of_ble_eq_true rfl, Nat.le_of_ble_eq_true rfl⟩ k0 f1 rfl rfl (Nat.le_of_ble_eq_true rfl) dL_law_1344 (rfl : 1344 + 3 = 1347) ?_
  refine kc_w (pc2 := 1348) (fun _ _ => lv_aload_n X.1.1.1 X.1.1.2.1 dL_law_1347 rfl (lv_at hl 1 rfl)) ?_
  refine k_arg (q := 1) X hl hk (by decide) (by decide) dL_law_1348 dL_law_1349 dL_law_1350 dL_law_1351 dL_law_1352 (rfl : 1348 + 5 = 1353) ?_
  refine k_arg (q := 2) X hl hk (by decide) (by decide) dL_law_1353 dL_law_1354 dL_law_1355 dL_law_1356 dL_law_1357 (rfl : 1353 + 5 = 1358) ?_
  refine kc_i (w := [.int (xs (k + 1)), .int (xs (k + 2))]) (st := [.int r]) X.1 hl.1 kX8 IX8_log hX8_log kl_167 ⟨Nat.le_of_ble_eq_true rfl, Nat.le_of_ble_eq_true rfl⟩ k492 f2 rfl rfl (Nat.le_of_ble_eq_true rfl) dL_law_1358 (rfl : 1358 + 3 = 1361) ?_
  exact kc_w (pc2 := 1534) (fun _ _ kk => lv_icmp_eq (tgt := 1534) X.1.1.1 X.1.1.2.1 dL_law_1361 (by decide) (fun _ => kk) (fun z => absurd rfl z)) (kk M2 hI2)
set_option maxRecDepth 20000 in
theorem lw_c37 (X : Lx p s m c b L xs h0 D cy tt cells slots) (hl : Ll ls b h0 k) (hk : k + 6 ≤ L) (hI : Inv M) (kk : ∀ M2, Inv M2 → Kc room_1 p l e s m #[Value.ref b] below meth c h0 D cy cells slots Q 1534 ls [] M2) : Kc room_1 p l e s m #[Value.ref b] below meth c h0 D cy cells slots Q 1366 ls [] M := by
  obtain ⟨⟨nc, nt, np, nw, tm, o, u, hC⟩, hB⟩ := hI
  obtain ⟨r, M1, M2, f1, f2, hI2⟩ := act_call (ac_ofChamber hC (xs (k + 1)) (xs (k + 2))) hB
  refine kc_w (pc2 := 1367) (fun _ _ => lv_aload_n X.1.1.1 X.1.1.2.1 dL_law_1366 rfl (lv_at hl 2 rfl)) ?_
  refine k_arg (q := 1) X hl hk (by decide) (by decide) dL_law_1367 dL_law_1368 dL_law_1369 dL_law_1370 dL_law_1371 (rfl : 1367 + 5 = 1372) ?_
  refine k_arg (q := 2) X hl hk (by decide) (by decide) dL_law_1372 dL_law_1373 dL_law_1374 dL_law_1375 dL_law_1376 (rfl : 1372 + 5 = 1377) ?_
  refine kc_i (w := [.int (xs (k + 1)), .int (xs (k + 2))]) (st := []) X.1 hl.1 kX7 IX7_ofChamber hX7_ofChamber kl_168 ⟨Nat.le_of_ble_eq_true rfl, Nat.le_of_ble_eq_true rfl⟩ k0 f1 rfl rfl (Nat.le_of_ble_eq_true rfl) dL_law_1377 (rfl : 1377 + 3 = 1380) ?_
  refine kc_w (pc2 := 1381) (fun _ _ => lv_aload_n X.1.1.1 X.1.1.2.1 dL_law_1380 rfl (lv_at hl 1 rfl)) ?_
  refine k_arg (q := 1) X hl hk (by decide) (by decide) dL_law_1381 dL_law_1382 dL_law_1383 dL_law_1384 dL_law_1385 (rfl : 1381 + 5 = 1386) ?_
  refine k_arg (q := 2) X hl hk (by decide) (by decide) dL_law_1386 dL_law_1387 dL_law_1388 dL_law_1389 dL_law_1390 (rfl : 1386 + 5 = 1391) ?_
  refine kc_i (w := [.int (xs (k + 1)), .int (xs (k + 2))]) (st := [.int r]) X.1 hl.1 kX8 IX8_ofChamber hX8_ofChamber kl_171 ⟨Nat.le_of_ble_eq_true rfl, Nat.le_of_ble_eq_true rfl⟩ k492 f2 rfl rfl (Nat.le_of_ble_eq_true rfl) dL_law_1391 (rfl : 1391 + 3 = 1394) ?_
  exact kc_w (pc2 := 1534) (fun _ _ kk => lv_icmp_eq (tgt := 1534) X.1.1.1 X.1.1.2.1 dL_law_1394 (by decide) (fun _ => kk) (fun z => absurd rfl z)) (kk M2 hI2)
set_option maxRecDepth 20000 in
theorem lw_c38 (X : Lx p s m c b L xs h0 D cy tt cells slots) (hl : Ll ls b h0 k) (hk : k + 6 ≤ L) (hI : Inv M) (kk : ∀ M2, Inv M2 → Kc room_1 p l e s m #[Value.ref b] below meth c h0 D cy cells slots Q 1534 ls [] M2) : Kc room_1 p l e s m #[Value.ref b] below meth c h0 D cy cells slots Q 1399 ls [] M := by
  obtain ⟨⟨nc, nt, np, nw, tm, o, u, hC⟩, hB⟩ := hI
  obtain ⟨r, M1, M2, f1, f2, hI2⟩ := act_call (ac_ofTube hC (xs (k + 1)) (xs (k + 2))) hB
  refine kc_w (pc2 := 1400) (fun _ _ => lv_aload_n X.1.1.1 X.1.1.2.1 dL_law_1399 rfl (lv_at hl 2 rfl)) ?_
  refine k_arg (q := 1) X hl hk (by decide) (by decide) dL_law_1400 dL_law_1401 dL_law_1402 dL_law_1403 dL_law_1404 (rfl : 1400 + 5 = 1405) ?_
  refine k_arg (q := 2) X hl hk (by decide) (by decide) dL_law_1405 dL_law_1406 dL_law_1407 dL_law_1408 dL_law_1409 (rfl : 1405 + 5 = 1410) ?_
  refine kc_i (w := [.int (xs (k + 1)), .int (xs (k + 2))]) (st := []) X.1 hl.1 kX7 IX7_ofTube hX7_ofTube kl_172 ⟨Nat.le_of_ble_eq_true rfl, Nat.le_of_ble_eq_true rfl⟩ k0 f1 rfl rfl (Nat.le_of_ble_eq_true rfl) dL_law_1410 (rfl : 1410 + 3 = 1413) ?_
  refine kc_w (pc2 := 1414) (fun _ _ => lv_aload_n X.1.1.1 X.1.1.2.1 dL_law_1413 rfl (lv_at hl 1 rfl)) ?_
  refine k_arg (q := 1) X hl hk (by decide) (by decide) dL_law_1414 dL_law_1415 dL_law_1416 dL_law_1417 dL_law_1418 (rfl : 1414 + 5 = 1419) ?_
  refine k_arg (q := 2) X hl hk (by decide) (by decide) dL_law_1419 dL_law_1420 dL_law_1421 dL_law_1422 dL_law_1423 (rfl : 1419 + 5 = 1424) ?_
  refine kc_i (w := [.int (xs (k + 1)), .int (xs (k + 2))]) (st := [.int r]) X.1 hl.1 kX8 IX8_ofTube hX8_ofTube kl_175 ⟨Nat.le_of_ble_eq_true rfl, Nat.le_of_ble_eq_true rfl⟩ k492 f2 rfl rfl (Nat.le_of_ble_eq_true rfl) dL_law_1424 (rfl : 1424 + 3 = 1427) ?_
  exact kc_w (pc2 := 1534) (fun _ _ kk => lv_icmp_eq (tgt := 1534) X.1.1.1 X.1.1.2.1 dL_law_1427 (by decide) (fun _ => kk) (fun z => absurd rfl z)) (kk M2 hI2)
set_option maxRecDepth 20000 in
theorem lw_c39 (X : Lx p s m c b L xs h0 D cy tt cells slots) (hl : Ll ls b h0 k) (hk : k + 6 ≤ L) (hI : Inv M) (kk : ∀ M2, Inv M2 → Kc room_1 p l e s m #[Value.ref b] below meth c h0 D cy cells slots Q 1534 ls [] M2) : Kc room_1 p l e s m #[Value.ref b] below meth c h0 D cy cells slots Q 1432 ls [] M := by
  obtain ⟨⟨nc, nt, np, nw, tm, o, u, hC⟩, hB⟩ := hI
  obtain ⟨r, M1, M2, f1, f2, hI2⟩ := act_call (ac_ofPump hC (xs (k + 1)) (xs (k + 2))) hB
  refine kc_w (pc2 := 1433) (fun _ _ => lv_aload_n X.1.1.1 X.1.1.2.1 dL_law_1432 rfl (lv_at hl 2 rfl)) ?_
  refine k_arg (q := 1) X hl hk (by decide) (by decide) dL_law_1433 dL_law_1434 dL_law_1435 dL_law_1436 dL_law_1437 (rfl : 1433 + 5 = 1438) ?_
  refine k_arg (q := 2) X hl hk (by decide) (by decide) dL_law_1438 dL_law_1439 dL_law_1440 dL_law_1441 dL_law_1442 (rfl : 1438 + 5 = 1443) ?_
  refine kc_i (w := [.int (xs (k + 1)), .int (xs (k + 2))]) (st := []) X.1 hl.1 kX7 IX7_ofPump hX7_ofPump kl_176 ⟨Nat.le_of_ble_eq_true rfl, Nat.le_of_ble_eq_true rfl⟩ k0 f1 rfl rfl (Nat.le_of_ble_eq_true rfl) dL_law_1443 (rfl : 1443 + 3 = 1446) ?_
  refine kc_w (pc2 := 1447) (fun _ _ => lv_aload_n X.1.1.1 X.1.1.2.1 dL_law_1446 rfl (lv_at hl 1 rfl)) ?_
  refine k_arg (q := 1) X hl hk (by decide) (by decide) dL_law_1447 dL_law_1448 dL_law_1449 dL_law_1450 dL_law_1451 (rfl : 1447 + 5 = 1452) ?_
  refine k_arg (q := 2) X hl hk (by decide) (by decide) dL_law_1452 dL_law_1453 dL_law_1454 dL_law_1455 dL_law_1456 (rfl : 1452 + 5 = 1457) ?_
  refine kc_i (w := [.int (xs (k + 1)), .int (xs (k + 2))]) (st := [.int r]) X.1 hl.1 kX8 IX8_ofPump hX8_ofPump kl_179 ⟨Nat.le_of_ble_eq_true rfl, Nat.le_of_ble_eq_true rfl⟩ k492 f2 rfl rfl (Nat.le_of_ble_eq_true rfl) dL_law_1457 (rfl : 1457 + 3 = 1460) ?_
  exact kc_w (pc2 := 1534) (fun _ _ kk => lv_icmp_eq (tgt := 1534) X.1.1.1 X.1.1.2.1 dL_law_1460 (by decide) (fun _ => kk) (fun z => absurd rfl z)) (kk M2 hI2)
set_option maxRecDepth 20000 in
theorem lw_c40 (X : Lx p s m c b L xs h0 D cy tt cells slots) (hl : Ll ls b h0 k) (hk : k + 6 ≤ L) (hI : Inv M) (kk : ∀ M2, Inv M2 → Kc room_1 p l e s m #[Value.ref b] below meth c h0 D cy cells slots Q 1534 ls [] M2) : Kc room_1 p l e s m #[Value.ref b] below meth c h0 D cy cells slots Q 1465 ls [] M := by
  obtain ⟨⟨nc, nt, np, nw, tm, o, u, hC⟩, hB⟩ := hI
  obtain ⟨r, M1, M2, f1, f2, hI2⟩ := act_call (ac_ofWatch hC (xs (k + 1)) (xs (k + 2))) hB
  refine kc_w (pc2 := 1466) (fun _ _ => lv_aload_n X.1.1.1 X.1.1.2.1 dL_law_1465 rfl (lv_at hl 2 rfl)) ?_
  refine k_arg (q := 1) X hl hk (by decide) (by decide) dL_law_1466 dL_law_1467 dL_law_1468 dL_law_1469 dL_law_1470 (rfl : 1466 + 5 = 1471) ?_
  refine k_arg (q := 2) X hl hk (by decide) (by decide) dL_law_1471 dL_law_1472 dL_law_1473 dL_law_1474 dL_law_1475 (rfl : 1471 + 5 = 1476) ?_
  refine kc_i (w := [.int (xs (k + 1)), .int (xs (k + 2))]) (st := []) X.1 hl.1 kX7 IX7_ofWatch hX7_ofWatch kl_180 ⟨Nat.le_of_ble_eq_true rfl, Nat.le_of_ble_eq_true rfl⟩ k0 f1 rfl rfl (Nat.le_of_ble_eq_true rfl) dL_law_1476 (rfl : 1476 + 3 = 1479) ?_
  refine kc_w (pc2 := 1480) (fun _ _ => lv_aload_n X.1.1.1 X.1.1.2.1 dL_law_1479 rfl (lv_at hl 1 rfl)) ?_
  refine k_arg (q := 1) X hl hk (by decide) (by decide) dL_law_1480 dL_law_1481 dL_law_1482 dL_law_1483 dL_law_1484 (rfl : 1480 + 5 = 1485) ?_
  refine k_arg (q := 2) X hl hk (by decide) (by decide) dL_law_1485 dL_law_1486 dL_law_1487 dL_law_1488 dL_law_1489 (rfl : 1485 + 5 = 1490) ?_
  refine kc_i (w := [.int (xs (k + 1)), .int (xs (k + 2))]) (st := [.int r]) X.1 hl.1 kX8 IX8_ofWatch hX8_ofWatch kl_183 ⟨Nat.le_of_ble_eq_true rfl, Nat.le_of_ble_eq_true rfl⟩ k492 f2 rfl rfl (Nat.le_of_ble_eq_true rfl) dL_law_1490 (rfl : 1490 + 3 = 1493) ?_
  exact kc_w (pc2 := 1534) (fun _ _ kk => lv_icmp_eq (tgt := 1534) X.1.1.1 X.1.1.2.1 dL_law_1493 (by decide) (fun _ => kk) (fun z => absurd rfl z)) (kk M2 hI2)
set_option maxRecDepth 20000 in
theorem lw_c41 (X : Lx p s m c b L xs h0 D cy tt cells slots) (hl : Ll ls b h0 k) (hk : k + 6 ≤ L) (hI : Inv M) (kk : ∀ M2, Inv M2 → Kc room_1 p l e s m #[Value.ref b] below meth c h0 D cy cells slots Q 1534 ls [] M2) : Kc room_1 p l e s m #[Value.ref b] below meth c h0 D cy cells slots Q 1498 ls [] M := by
  obtain ⟨⟨nc, nt, np, nw, tm, o, u, hC⟩, hB⟩ := hI
  obtain ⟨r, M1, M2, f1, f2, hI2⟩ := ca_count hC hB (xs (k + 1))
  refine kc_w (pc2 := 1499) (fun _ _ => lv_aload_n X.1.1.1 X.1.1.2.1 dL_law_1498 rfl (lv_at hl 2 rfl)) ?_
  refine k_arg (q := 1) X hl hk (by decide) (by decide) dL_law_1499 dL_law_1500 dL_law_1501 dL_law_1502 dL_law_1503 (rfl : 1499 + 5 = 1504) ?_
  refine kc_i (w := [.int (xs (k + 1))]) (st := []) X.1 hl.1 kX7 IX7_count hX7_count kl_184 ⟨Nat.le_of_ble_eq_true rfl, Nat.le_of_ble_eq_true rfl⟩ k0 f1 rfl rfl (Nat.le_of_ble_eq_true rfl) dL_law_1504 (rfl : 1504 + 3 = 1507) ?_
  refine kc_w (pc2 := 1508) (fun _ _ => lv_aload_n X.1.1.1 X.1.1.2.1 dL_law_1507 rfl (lv_at hl 1 rfl)) ?_
  refine k_arg (q := 1) X hl hk (by decide) (by decide) dL_law_1508 dL_law_1509 dL_law_1510 dL_law_1511 dL_law_1512 (rfl : 1508 + 5 = 1513) ?_
  refine kc_i (w := [.int (xs (k + 1))]) (st := [.int r]) X.1 hl.1 kX8 IX8_count hX8_count kl_187 ⟨Nat.le_of_ble_eq_true rfl, Nat.le_of_ble_eq_true rfl⟩ k492 f2 rfl rfl (Nat.le_of_ble_eq_true rfl) dL_law_1513 (rfl : 1513 + 3 = 1516) ?_
  exact kc_w (pc2 := 1534) (fun _ _ kk => lv_icmp_eq (tgt := 1534) X.1.1.1 X.1.1.2.1 dL_law_1516 (by decide) (fun _ => kk) (fun z => absurd rfl z)) (kk M2 hI2)
set_option maxRecDepth 20000 in
theorem lw_c42 (X : Lx p s m c b L xs h0 D cy tt cells slots) (hl : Ll ls b h0 k) (hk : k + 6 ≤ L) (hI : Inv M) (kk : ∀ M2, Inv M2 → Kc room_1 p l e s m #[Value.ref b] below meth c h0 D cy cells slots Q 1534 ls [] M2) : Kc room_1 p l e s m #[Value.ref b] below meth c h0 D cy cells slots Q 1521 ls [] M := by
  obtain ⟨⟨nc, nt, np, nw, tm, o, u, hC⟩, hB⟩ := hI
  obtain ⟨r, M1, M2, f1, f2, hI2⟩ := act_call (ac_status hC ) hB
  refine kc_w (pc2 := 1522) (fun _ _ => lv_aload_n X.1.1.1 X.1.1.2.1 dL_law_1521 rfl (lv_at hl 2 rfl)) ?_
  refine kc_i (w := []) (st := []) X.1 hl.1 kX7 IX7_status hX7_status kl_188 ⟨Nat.le_of_ble_eq_true rfl, Nat.le_of_ble_eq_true rfl⟩ k0 f1 rfl rfl (Nat.le_of_ble_eq_true rfl) dL_law_1522 (rfl : 1522 + 3 = 1525) ?_
  refine kc_w (pc2 := 1526) (fun _ _ => lv_aload_n X.1.1.1 X.1.1.2.1 dL_law_1525 rfl (lv_at hl 1 rfl)) ?_
  refine kc_i (w := []) (st := [.int r]) X.1 hl.1 kX8 IX8_status hX8_status kl_191 ⟨Nat.le_of_ble_eq_true rfl, Nat.le_of_ble_eq_true rfl⟩ k492 f2 rfl rfl (Nat.le_of_ble_eq_true rfl) dL_law_1526 (rfl : 1526 + 3 = 1529) ?_
  exact kc_w (pc2 := 1534) (fun _ _ kk => lv_icmp_eq (tgt := 1534) X.1.1.1 X.1.1.2.1 dL_law_1529 (by decide) (fun _ => kk) (fun z => absurd rfl z)) (kk M2 hI2)
end
