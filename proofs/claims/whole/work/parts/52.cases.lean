set_option maxHeartbeats 4000000 in
set_option maxRecDepth 100000 in
theorem lw_c0 {N i : Nat} {sc : Nat → Int32} {s : sg} {hX hM' : mh_H} (hN : N ≤ 3072) (hi : i + 6 ≤ N) (hv : IV s) (hc : CP s hX) (hm : MP s hM') (KK : ∀ (s' : sg) (h1 h2 : mh_H), IV s' → CP s' h1 → MP s' h2 → Lt N sc i 1325 [] h1 h2) : Lt N sc i 216 [] hX hM' := by
  obtain ⟨h, nd, sl, tu, rfl, hm⟩ := hm
  refine lt_a1 (pc := 216) dL_law_216 ?_
  refine lt_arg (q := 1) (pc := 217) dL_law_217 dL_law_218 dL_law_219 dL_law_220 dL_law_221 (by decide) (by omega) (by omega) ?_
  refine lt_arg (q := 2) (pc := 222) dL_law_222 dL_law_223 dL_law_224 dL_law_225 dL_law_226 (by decide) (by omega) (by omega) ?_
  refine lt_cXi2 (pc := 227) vL_13 dL_law_227 (by decide) hc.1.1 (Nat.le_of_ble_eq_true rfl) (c_X4_row _ _ s (sc (i + 1)) (sc (i + 2)) hc hv) (fun v1 h1 hq1 => ?_)
  obtain ⟨e1, hc1⟩ := hq1
  refine lt_a2 (pc := 230) dL_law_230 ?_
  refine lt_arg (q := 1) (pc := 231) dL_law_231 dL_law_232 dL_law_233 dL_law_234 dL_law_235 (by decide) (by omega) (by omega) ?_
  refine lt_arg (q := 2) (pc := 236) dL_law_236 dL_law_237 dL_law_238 dL_law_239 dL_law_240 (by decide) (by omega) (by omega) ?_
  refine lt_cMi2 (pc := 241) vL_17 dL_law_241 (by decide) hM_0 (Nat.le_of_ble_eq_true rfl) (c_X5_row _ h s nd sl tu (sc (i + 1)) (sc (i + 2)) hm hv) (fun v2 h2 hq2 => ?_)
  obtain ⟨e2, hm2⟩ := hq2
  refine lt_eq (pc := 244) (tgt := 1325) dL_law_244 (by decide) (e1.trans e2.symm) ?_
  exact KK _ _ _ (iv_row hv) hc1 hm2
set_option maxHeartbeats 4000000 in
set_option maxRecDepth 100000 in
theorem lw_c1 {N i : Nat} {sc : Nat → Int32} {s : sg} {hX hM' : mh_H} (hN : N ≤ 3072) (hi : i + 6 ≤ N) (hv : IV s) (hc : CP s hX) (hm : MP s hM') (KK : ∀ (s' : sg) (h1 h2 : mh_H), IV s' → CP s' h1 → MP s' h2 → Lt N sc i 1325 [] h1 h2) : Lt N sc i 249 [] hX hM' := by
  obtain ⟨h, nd, sl, tu, rfl, hm⟩ := hm
  refine lt_a1 (pc := 249) dL_law_249 ?_
  refine lt_arg (q := 1) (pc := 250) dL_law_250 dL_law_251 dL_law_252 dL_law_253 dL_law_254 (by decide) (by omega) (by omega) ?_
  refine lt_arg (q := 2) (pc := 255) dL_law_255 dL_law_256 dL_law_257 dL_law_258 dL_law_259 (by decide) (by omega) (by omega) ?_
  refine lt_arg (q := 3) (pc := 260) dL_law_260 dL_law_261 dL_law_262 dL_law_263 dL_law_264 (by decide) (by omega) (by omega) ?_
  refine lt_cXi3 (pc := 265) vL_18 dL_law_265 (by decide) hc.1.1 (Nat.le_of_ble_eq_true rfl) (c_X4_lay _ _ s (sc (i + 1)) (sc (i + 2)) (sc (i + 3)) hc hv) (fun v1 h1 hq1 => ?_)
  obtain ⟨e1, hc1⟩ := hq1
  refine lt_a2 (pc := 268) dL_law_268 ?_
  refine lt_arg (q := 1) (pc := 269) dL_law_269 dL_law_270 dL_law_271 dL_law_272 dL_law_273 (by decide) (by omega) (by omega) ?_
  refine lt_arg (q := 2) (pc := 274) dL_law_274 dL_law_275 dL_law_276 dL_law_277 dL_law_278 (by decide) (by omega) (by omega) ?_
  refine lt_arg (q := 3) (pc := 279) dL_law_279 dL_law_280 dL_law_281 dL_law_282 dL_law_283 (by decide) (by omega) (by omega) ?_
  refine lt_cMi3 (pc := 284) vL_22 dL_law_284 (by decide) hM_0 (Nat.le_of_ble_eq_true rfl) (c_X5_lay _ h s nd sl tu (sc (i + 1)) (sc (i + 2)) (sc (i + 3)) hm hv) (fun v2 h2 hq2 => ?_)
  obtain ⟨e2, hm2⟩ := hq2
  refine lt_eq (pc := 287) (tgt := 1325) dL_law_287 (by decide) (e1.trans e2.symm) ?_
  exact KK _ _ _ (iv_lay hv) hc1 hm2
set_option maxHeartbeats 4000000 in
set_option maxRecDepth 100000 in
theorem lw_c2 {N i : Nat} {sc : Nat → Int32} {s : sg} {hX hM' : mh_H} (hN : N ≤ 3072) (hi : i + 6 ≤ N) (hv : IV s) (hc : CP s hX) (hm : MP s hM') (KK : ∀ (s' : sg) (h1 h2 : mh_H), IV s' → CP s' h1 → MP s' h2 → Lt N sc i 1325 [] h1 h2) : Lt N sc i 292 [] hX hM' := by
  obtain ⟨h, nd, sl, tu, rfl, hm⟩ := hm
  refine lt_a1 (pc := 292) dL_law_292 ?_
  refine lt_arg (q := 1) (pc := 293) dL_law_293 dL_law_294 dL_law_295 dL_law_296 dL_law_297 (by decide) (by omega) (by omega) ?_
  refine lt_arg (q := 2) (pc := 298) dL_law_298 dL_law_299 dL_law_300 dL_law_301 dL_law_302 (by decide) (by omega) (by omega) ?_
  refine lt_cXi2 (pc := 303) vL_23 dL_law_303 (by decide) hc.1.1 (Nat.le_of_ble_eq_true rfl) (c_X4_at _ _ s (sc (i + 1)) (sc (i + 2)) hc hv) (fun v1 h1 hq1 => ?_)
  obtain ⟨e1, hc1⟩ := hq1
  refine lt_a2 (pc := 306) dL_law_306 ?_
  refine lt_arg (q := 1) (pc := 307) dL_law_307 dL_law_308 dL_law_309 dL_law_310 dL_law_311 (by decide) (by omega) (by omega) ?_
  refine lt_arg (q := 2) (pc := 312) dL_law_312 dL_law_313 dL_law_314 dL_law_315 dL_law_316 (by decide) (by omega) (by omega) ?_
  refine lt_cMi2 (pc := 317) vL_26 dL_law_317 (by decide) hM_0 (Nat.le_of_ble_eq_true rfl) (c_X5_at _ h s nd sl tu (sc (i + 1)) (sc (i + 2)) hm hv) (fun v2 h2 hq2 => ?_)
  obtain ⟨e2, hm2⟩ := hq2
  refine lt_eq (pc := 320) (tgt := 1325) dL_law_320 (by decide) (e1.trans e2.symm) ?_
  exact KK _ _ _ (iv_at hv) hc1 hm2
set_option maxHeartbeats 4000000 in
set_option maxRecDepth 100000 in
theorem lw_c3 {N i : Nat} {sc : Nat → Int32} {s : sg} {hX hM' : mh_H} (hN : N ≤ 3072) (hi : i + 6 ≤ N) (hv : IV s) (hc : CP s hX) (hm : MP s hM') (KK : ∀ (s' : sg) (h1 h2 : mh_H), IV s' → CP s' h1 → MP s' h2 → Lt N sc i 1325 [] h1 h2) : Lt N sc i 325 [] hX hM' := by
  obtain ⟨h, nd, sl, tu, rfl, hm⟩ := hm
  refine lt_a1 (pc := 325) dL_law_325 ?_
  refine lt_arg (q := 1) (pc := 326) dL_law_326 dL_law_327 dL_law_328 dL_law_329 dL_law_330 (by decide) (by omega) (by omega) ?_
  refine lt_cXi1 (pc := 331) vL_27 dL_law_331 (by decide) hc.1.1 (Nat.le_of_ble_eq_true rfl) (c_X4_tear _ _ s (sc (i + 1)) hc hv) (fun v1 h1 hq1 => ?_)
  obtain ⟨e1, hc1⟩ := hq1
  refine lt_a2 (pc := 334) dL_law_334 ?_
  refine lt_arg (q := 1) (pc := 335) dL_law_335 dL_law_336 dL_law_337 dL_law_338 dL_law_339 (by decide) (by omega) (by omega) ?_
  refine lt_cMi1 (pc := 340) vL_31 dL_law_340 (by decide) hM_0 (Nat.le_of_ble_eq_true rfl) (c_X5_tear _ h s nd sl tu (sc (i + 1)) hm hv) (fun v2 h2 hq2 => ?_)
  obtain ⟨e2, hm2⟩ := hq2
  refine lt_eq (pc := 343) (tgt := 1325) dL_law_343 (by decide) (e1.trans e2.symm) ?_
  exact KK _ _ _ (iv_tear hv) hc1 hm2
set_option maxHeartbeats 4000000 in
set_option maxRecDepth 100000 in
theorem lw_c4 {N i : Nat} {sc : Nat → Int32} {s : sg} {hX hM' : mh_H} (hN : N ≤ 3072) (hi : i + 6 ≤ N) (hv : IV s) (hc : CP s hX) (hm : MP s hM') (KK : ∀ (s' : sg) (h1 h2 : mh_H), IV s' → CP s' h1 → MP s' h2 → Lt N sc i 1325 [] h1 h2) : Lt N sc i 348 [] hX hM' := by
  obtain ⟨h, nd, sl, tu, rfl, hm⟩ := hm
  refine lt_a1 (pc := 348) dL_law_348 ?_
  refine lt_arg (q := 1) (pc := 349) dL_law_349 dL_law_350 dL_law_351 dL_law_352 dL_law_353 (by decide) (by omega) (by omega) ?_
  refine lt_arg (q := 2) (pc := 354) dL_law_354 dL_law_355 dL_law_356 dL_law_357 dL_law_358 (by decide) (by omega) (by omega) ?_
  refine lt_arg (q := 3) (pc := 359) dL_law_359 dL_law_360 dL_law_361 dL_law_362 dL_law_363 (by decide) (by omega) (by omega) ?_
  refine lt_arg (q := 4) (pc := 364) dL_law_364 dL_law_365 dL_law_366 dL_law_367 dL_law_368 (by decide) (by omega) (by omega) ?_
  refine lt_arg (q := 5) (pc := 369) dL_law_369 dL_law_370 dL_law_371 dL_law_372 dL_law_373 (by decide) (by omega) (by omega) ?_
  refine lt_cXi5 (pc := 374) vL_32 dL_law_374 (by decide) hc.1.1 (Nat.le_of_ble_eq_true rfl) (c_X4_copy _ _ s (sc (i + 1)) (sc (i + 2)) (sc (i + 3)) (sc (i + 4)) (sc (i + 5)) hc hv) (fun v1 h1 hq1 => ?_)
  obtain ⟨e1, hc1⟩ := hq1
  refine lt_a2 (pc := 377) dL_law_377 ?_
  refine lt_arg (q := 1) (pc := 378) dL_law_378 dL_law_379 dL_law_380 dL_law_381 dL_law_382 (by decide) (by omega) (by omega) ?_
  refine lt_arg (q := 2) (pc := 383) dL_law_383 dL_law_384 dL_law_385 dL_law_386 dL_law_387 (by decide) (by omega) (by omega) ?_
  refine lt_arg (q := 3) (pc := 388) dL_law_388 dL_law_389 dL_law_390 dL_law_391 dL_law_392 (by decide) (by omega) (by omega) ?_
  refine lt_arg (q := 4) (pc := 393) dL_law_393 dL_law_394 dL_law_395 dL_law_396 dL_law_397 (by decide) (by omega) (by omega) ?_
  refine lt_arg (q := 5) (pc := 398) dL_law_398 dL_law_399 dL_law_400 dL_law_401 dL_law_402 (by decide) (by omega) (by omega) ?_
  refine lt_cMi5 (pc := 403) vL_36 dL_law_403 (by decide) hM_0 (Nat.le_of_ble_eq_true rfl) (c_X5_copy _ h s nd sl tu (sc (i + 1)) (sc (i + 2)) (sc (i + 3)) (sc (i + 4)) (sc (i + 5)) hm hv) (fun v2 h2 hq2 => ?_)
  obtain ⟨e2, hm2⟩ := hq2
  refine lt_eq (pc := 406) (tgt := 1325) dL_law_406 (by decide) (e1.trans e2.symm) ?_
  exact KK _ _ _ (iv_copy hv) hc1 hm2
set_option maxHeartbeats 4000000 in
set_option maxRecDepth 100000 in
theorem lw_c5 {N i : Nat} {sc : Nat → Int32} {s : sg} {hX hM' : mh_H} (hN : N ≤ 3072) (hi : i + 6 ≤ N) (hv : IV s) (hc : CP s hX) (hm : MP s hM') (KK : ∀ (s' : sg) (h1 h2 : mh_H), IV s' → CP s' h1 → MP s' h2 → Lt N sc i 1325 [] h1 h2) : Lt N sc i 411 [] hX hM' := by
  obtain ⟨h, nd, sl, tu, rfl, hm⟩ := hm
  refine lt_a1 (pc := 411) dL_law_411 ?_
  refine lt_arg (q := 1) (pc := 412) dL_law_412 dL_law_413 dL_law_414 dL_law_415 dL_law_416 (by decide) (by omega) (by omega) ?_
  refine lt_cXi1 (pc := 417) vL_37 dL_law_417 (by decide) hc.1.1 (Nat.le_of_ble_eq_true rfl) (c_X4_mean _ _ s (sc (i + 1)) hc hv) (fun v1 h1 hq1 => ?_)
  obtain ⟨e1, hc1⟩ := hq1
  refine lt_a2 (pc := 420) dL_law_420 ?_
  refine lt_arg (q := 1) (pc := 421) dL_law_421 dL_law_422 dL_law_423 dL_law_424 dL_law_425 (by decide) (by omega) (by omega) ?_
  refine lt_cMi1 (pc := 426) vL_40 dL_law_426 (by decide) hM_0 (Nat.le_of_ble_eq_true rfl) (c_X5_mean _ h s nd sl tu (sc (i + 1)) hm hv) (fun v2 h2 hq2 => ?_)
  obtain ⟨e2, hm2⟩ := hq2
  refine lt_eq (pc := 429) (tgt := 1325) dL_law_429 (by decide) (e1.trans e2.symm) ?_
  exact KK _ _ _ (iv_mean hv) hc1 hm2
set_option maxHeartbeats 4000000 in
set_option maxRecDepth 100000 in
theorem lw_c6 {N i : Nat} {sc : Nat → Int32} {s : sg} {hX hM' : mh_H} (hN : N ≤ 3072) (hi : i + 6 ≤ N) (hv : IV s) (hc : CP s hX) (hm : MP s hM') (KK : ∀ (s' : sg) (h1 h2 : mh_H), IV s' → CP s' h1 → MP s' h2 → Lt N sc i 1325 [] h1 h2) : Lt N sc i 434 [] hX hM' := by
  obtain ⟨h, nd, sl, tu, rfl, hm⟩ := hm
  refine lt_a1 (pc := 434) dL_law_434 ?_
  refine lt_arg (q := 1) (pc := 435) dL_law_435 dL_law_436 dL_law_437 dL_law_438 dL_law_439 (by decide) (by omega) (by omega) ?_
  refine lt_arg (q := 2) (pc := 440) dL_law_440 dL_law_441 dL_law_442 dL_law_443 dL_law_444 (by decide) (by omega) (by omega) ?_
  refine lt_cXi2 (pc := 445) vL_41 dL_law_445 (by decide) hc.1.1 (Nat.le_of_ble_eq_true rfl) (c_X4_text _ _ s (sc (i + 1)) (sc (i + 2)) hc hv) (fun v1 h1 hq1 => ?_)
  obtain ⟨e1, hc1⟩ := hq1
  refine lt_a2 (pc := 448) dL_law_448 ?_
  refine lt_arg (q := 1) (pc := 449) dL_law_449 dL_law_450 dL_law_451 dL_law_452 dL_law_453 (by decide) (by omega) (by omega) ?_
  refine lt_arg (q := 2) (pc := 454) dL_law_454 dL_law_455 dL_law_456 dL_law_457 dL_law_458 (by decide) (by omega) (by omega) ?_
  refine lt_cMi2 (pc := 459) vL_44 dL_law_459 (by decide) hM_0 (Nat.le_of_ble_eq_true rfl) (c_X5_text _ h s nd sl tu (sc (i + 1)) (sc (i + 2)) hm hv) (fun v2 h2 hq2 => ?_)
  obtain ⟨e2, hm2⟩ := hq2
  refine lt_eq (pc := 462) (tgt := 1325) dL_law_462 (by decide) (e1.trans e2.symm) ?_
  exact KK _ _ _ (iv_text hv) hc1 hm2
set_option maxHeartbeats 4000000 in
set_option maxRecDepth 100000 in
theorem lw_c7 {N i : Nat} {sc : Nat → Int32} {s : sg} {hX hM' : mh_H} (hN : N ≤ 3072) (hi : i + 6 ≤ N) (hv : IV s) (hc : CP s hX) (hm : MP s hM') (KK : ∀ (s' : sg) (h1 h2 : mh_H), IV s' → CP s' h1 → MP s' h2 → Lt N sc i 1325 [] h1 h2) : Lt N sc i 467 [] hX hM' := by
  obtain ⟨h, nd, sl, tu, rfl, hm⟩ := hm
  refine lt_a1 (pc := 467) dL_law_467 ?_
  refine lt_arg (q := 1) (pc := 468) dL_law_468 dL_law_469 dL_law_470 dL_law_471 dL_law_472 (by decide) (by omega) (by omega) ?_
  refine lt_arg (q := 2) (pc := 473) dL_law_473 dL_law_474 dL_law_475 dL_law_476 dL_law_477 (by decide) (by omega) (by omega) ?_
  refine lt_arg (q := 3) (pc := 478) dL_law_478 dL_law_479 dL_law_480 dL_law_481 dL_law_482 (by decide) (by omega) (by omega) ?_
  refine lt_cXi3 (pc := 483) vL_45 dL_law_483 (by decide) hc.1.1 (Nat.le_of_ble_eq_true rfl) (c_X4_put _ _ s (sc (i + 1)) (sc (i + 2)) (sc (i + 3)) hc hv) (fun v1 h1 hq1 => ?_)
  obtain ⟨e1, hc1⟩ := hq1
  refine lt_a2 (pc := 486) dL_law_486 ?_
  refine lt_arg (q := 1) (pc := 487) dL_law_487 dL_law_488 dL_law_489 dL_law_490 dL_law_491 (by decide) (by omega) (by omega) ?_
  refine lt_arg (q := 2) (pc := 492) dL_law_492 dL_law_493 dL_law_494 dL_law_495 dL_law_496 (by decide) (by omega) (by omega) ?_
  refine lt_arg (q := 3) (pc := 497) dL_law_497 dL_law_498 dL_law_499 dL_law_500 dL_law_501 (by decide) (by omega) (by omega) ?_
  refine lt_cMi3 (pc := 502) vL_48 dL_law_502 (by decide) hM_0 (Nat.le_of_ble_eq_true rfl) (c_X5_put _ h s nd sl tu (sc (i + 1)) (sc (i + 2)) (sc (i + 3)) hm hv) (fun v2 h2 hq2 => ?_)
  obtain ⟨e2, hm2⟩ := hq2
  refine lt_eq (pc := 505) (tgt := 1325) dL_law_505 (by decide) (e1.trans e2.symm) ?_
  exact KK _ _ _ (iv_put hv) hc1 hm2
set_option maxHeartbeats 4000000 in
set_option maxRecDepth 100000 in
theorem lw_c8 {N i : Nat} {sc : Nat → Int32} {s : sg} {hX hM' : mh_H} (hN : N ≤ 3072) (hi : i + 6 ≤ N) (hv : IV s) (hc : CP s hX) (hm : MP s hM') (KK : ∀ (s' : sg) (h1 h2 : mh_H), IV s' → CP s' h1 → MP s' h2 → Lt N sc i 1325 [] h1 h2) : Lt N sc i 510 [] hX hM' := by
  obtain ⟨h, nd, sl, tu, rfl, hm⟩ := hm
  refine lt_a1 (pc := 510) dL_law_510 ?_
  refine lt_arg (q := 1) (pc := 511) dL_law_511 dL_law_512 dL_law_513 dL_law_514 dL_law_515 (by decide) (by omega) (by omega) ?_
  refine lt_cXi1 (pc := 516) vL_49 dL_law_516 (by decide) hc.1.1 (Nat.le_of_ble_eq_true rfl) (c_X4_fault _ _ s (sc (i + 1)) hc hv) (fun v1 h1 hq1 => ?_)
  obtain ⟨e1, hc1⟩ := hq1
  refine lt_a2 (pc := 519) dL_law_519 ?_
  refine lt_arg (q := 1) (pc := 520) dL_law_520 dL_law_521 dL_law_522 dL_law_523 dL_law_524 (by decide) (by omega) (by omega) ?_
  refine lt_cMi1 (pc := 525) vL_52 dL_law_525 (by decide) hM_0 (Nat.le_of_ble_eq_true rfl) (c_X5_fault _ h s nd sl tu (sc (i + 1)) hm hv) (fun v2 h2 hq2 => ?_)
  obtain ⟨e2, hm2⟩ := hq2
  refine lt_eq (pc := 528) (tgt := 1325) dL_law_528 (by decide) (e1.trans e2.symm) ?_
  exact KK _ _ _ (iv_fault hv) hc1 hm2
set_option maxHeartbeats 4000000 in
set_option maxRecDepth 100000 in
theorem lw_c9 {N i : Nat} {sc : Nat → Int32} {s : sg} {hX hM' : mh_H} (hN : N ≤ 3072) (hi : i + 6 ≤ N) (hv : IV s) (hc : CP s hX) (hm : MP s hM') (KK : ∀ (s' : sg) (h1 h2 : mh_H), IV s' → CP s' h1 → MP s' h2 → Lt N sc i 1325 [] h1 h2) : Lt N sc i 533 [] hX hM' := by
  obtain ⟨h, nd, sl, tu, rfl, hm⟩ := hm
  refine lt_a1 (pc := 533) dL_law_533 ?_
  refine lt_arg (q := 1) (pc := 534) dL_law_534 dL_law_535 dL_law_536 dL_law_537 dL_law_538 (by decide) (by omega) (by omega) ?_
  refine lt_cXi1 (pc := 539) vL_53 dL_law_539 (by decide) hc.1.1 (Nat.le_of_ble_eq_true rfl) (c_X4_leat _ _ s (sc (i + 1)) hc hv) (fun v1 h1 hq1 => ?_)
  obtain ⟨e1, hc1⟩ := hq1
  refine lt_a2 (pc := 542) dL_law_542 ?_
  refine lt_arg (q := 1) (pc := 543) dL_law_543 dL_law_544 dL_law_545 dL_law_546 dL_law_547 (by decide) (by omega) (by omega) ?_
  refine lt_cMi1 (pc := 548) vL_56 dL_law_548 (by decide) hM_0 (Nat.le_of_ble_eq_true rfl) (c_X5_leat _ h s nd sl tu (sc (i + 1)) hm hv) (fun v2 h2 hq2 => ?_)
  obtain ⟨e2, hm2⟩ := hq2
  refine lt_eq (pc := 551) (tgt := 1325) dL_law_551 (by decide) (e1.trans e2.symm) ?_
  exact KK _ _ _ (iv_leat hv) hc1 hm2
set_option maxHeartbeats 4000000 in
set_option maxRecDepth 100000 in
theorem lw_c10 {N i : Nat} {sc : Nat → Int32} {s : sg} {hX hM' : mh_H} (hN : N ≤ 3072) (hi : i + 6 ≤ N) (hv : IV s) (hc : CP s hX) (hm : MP s hM') (KK : ∀ (s' : sg) (h1 h2 : mh_H), IV s' → CP s' h1 → MP s' h2 → Lt N sc i 1325 [] h1 h2) : Lt N sc i 556 [] hX hM' := by
  obtain ⟨h, nd, sl, tu, rfl, hm⟩ := hm
  refine lt_a1 (pc := 556) dL_law_556 ?_
  refine lt_arg (q := 1) (pc := 557) dL_law_557 dL_law_558 dL_law_559 dL_law_560 dL_law_561 (by decide) (by omega) (by omega) ?_
  refine lt_arg (q := 2) (pc := 562) dL_law_562 dL_law_563 dL_law_564 dL_law_565 dL_law_566 (by decide) (by omega) (by omega) ?_
  refine lt_cXi2 (pc := 567) vL_57 dL_law_567 (by decide) hc.1.1 (Nat.le_of_ble_eq_true rfl) (c_X4_day _ _ s (sc (i + 1)) (sc (i + 2)) hc hv) (fun v1 h1 hq1 => ?_)
  obtain ⟨e1, hc1⟩ := hq1
  refine lt_a2 (pc := 570) dL_law_570 ?_
  refine lt_arg (q := 1) (pc := 571) dL_law_571 dL_law_572 dL_law_573 dL_law_574 dL_law_575 (by decide) (by omega) (by omega) ?_
  refine lt_arg (q := 2) (pc := 576) dL_law_576 dL_law_577 dL_law_578 dL_law_579 dL_law_580 (by decide) (by omega) (by omega) ?_
  refine lt_cMi2 (pc := 581) vL_60 dL_law_581 (by decide) hM_0 (Nat.le_of_ble_eq_true rfl) (c_X5_day _ h s nd sl tu (sc (i + 1)) (sc (i + 2)) hm hv) (fun v2 h2 hq2 => ?_)
  obtain ⟨e2, hm2⟩ := hq2
  refine lt_eq (pc := 584) (tgt := 1325) dL_law_584 (by decide) (e1.trans e2.symm) ?_
  exact KK _ _ _ (iv_day hv) hc1 hm2
set_option maxHeartbeats 4000000 in
set_option maxRecDepth 100000 in
theorem lw_c11 {N i : Nat} {sc : Nat → Int32} {s : sg} {hX hM' : mh_H} (hN : N ≤ 3072) (hi : i + 6 ≤ N) (hv : IV s) (hc : CP s hX) (hm : MP s hM') (KK : ∀ (s' : sg) (h1 h2 : mh_H), IV s' → CP s' h1 → MP s' h2 → Lt N sc i 1325 [] h1 h2) : Lt N sc i 589 [] hX hM' := by
  obtain ⟨h, nd, sl, tu, rfl, hm⟩ := hm
  refine lt_a1 (pc := 589) dL_law_589 ?_
  refine lt_arg (q := 1) (pc := 590) dL_law_590 dL_law_591 dL_law_592 dL_law_593 dL_law_594 (by decide) (by omega) (by omega) ?_
  refine lt_arg (q := 2) (pc := 595) dL_law_595 dL_law_596 dL_law_597 dL_law_598 dL_law_599 (by decide) (by omega) (by omega) ?_
  refine lt_cXi2 (pc := 600) vL_61 dL_law_600 (by decide) hc.1.1 (Nat.le_of_ble_eq_true rfl) (c_X4_mark _ _ s (sc (i + 1)) (sc (i + 2)) hc hv) (fun v1 h1 hq1 => ?_)
  obtain ⟨e1, hc1⟩ := hq1
  refine lt_a2 (pc := 603) dL_law_603 ?_
  refine lt_arg (q := 1) (pc := 604) dL_law_604 dL_law_605 dL_law_606 dL_law_607 dL_law_608 (by decide) (by omega) (by omega) ?_
  refine lt_arg (q := 2) (pc := 609) dL_law_609 dL_law_610 dL_law_611 dL_law_612 dL_law_613 (by decide) (by omega) (by omega) ?_
  refine lt_cMi2 (pc := 614) vL_64 dL_law_614 (by decide) hM_0 (Nat.le_of_ble_eq_true rfl) (c_X5_mark _ h s nd sl tu (sc (i + 1)) (sc (i + 2)) hm hv) (fun v2 h2 hq2 => ?_)
  obtain ⟨e2, hm2⟩ := hq2
  refine lt_eq (pc := 617) (tgt := 1325) dL_law_617 (by decide) (e1.trans e2.symm) ?_
  exact KK _ _ _ (iv_mark hv) hc1 hm2
set_option maxHeartbeats 4000000 in
set_option maxRecDepth 100000 in
theorem lw_c12 {N i : Nat} {sc : Nat → Int32} {s : sg} {hX hM' : mh_H} (hN : N ≤ 3072) (hi : i + 6 ≤ N) (hv : IV s) (hc : CP s hX) (hm : MP s hM') (KK : ∀ (s' : sg) (h1 h2 : mh_H), IV s' → CP s' h1 → MP s' h2 → Lt N sc i 1325 [] h1 h2) : Lt N sc i 622 [] hX hM' := by
  obtain ⟨h, nd, sl, tu, rfl, hm⟩ := hm
  refine lt_a1 (pc := 622) dL_law_622 ?_
  refine lt_arg (q := 1) (pc := 623) dL_law_623 dL_law_624 dL_law_625 dL_law_626 dL_law_627 (by decide) (by omega) (by omega) ?_
  refine lt_arg (q := 2) (pc := 628) dL_law_628 dL_law_629 dL_law_630 dL_law_631 dL_law_632 (by decide) (by omega) (by omega) ?_
  refine lt_arg (q := 3) (pc := 633) dL_law_633 dL_law_634 dL_law_635 dL_law_636 dL_law_637 (by decide) (by omega) (by omega) ?_
  refine lt_cXi3 (pc := 638) vL_65 dL_law_638 (by decide) hc.1.1 (Nat.le_of_ble_eq_true rfl) (c_X4_grinds _ _ s (sc (i + 1)) (sc (i + 2)) (sc (i + 3)) hc hv) (fun v1 h1 hq1 => ?_)
  obtain ⟨e1, hc1⟩ := hq1
  refine lt_a2 (pc := 641) dL_law_641 ?_
  refine lt_arg (q := 1) (pc := 642) dL_law_642 dL_law_643 dL_law_644 dL_law_645 dL_law_646 (by decide) (by omega) (by omega) ?_
  refine lt_arg (q := 2) (pc := 647) dL_law_647 dL_law_648 dL_law_649 dL_law_650 dL_law_651 (by decide) (by omega) (by omega) ?_
  refine lt_arg (q := 3) (pc := 652) dL_law_652 dL_law_653 dL_law_654 dL_law_655 dL_law_656 (by decide) (by omega) (by omega) ?_
  refine lt_cMi3 (pc := 657) vL_68 dL_law_657 (by decide) hM_0 (Nat.le_of_ble_eq_true rfl) (c_X5_grinds _ h s nd sl tu (sc (i + 1)) (sc (i + 2)) (sc (i + 3)) hm hv) (fun v2 h2 hq2 => ?_)
  obtain ⟨e2, hm2⟩ := hq2
  refine lt_eq (pc := 660) (tgt := 1325) dL_law_660 (by decide) (e1.trans e2.symm) ?_
  exact KK _ _ _ (iv_grinds hv) hc1 hm2
set_option maxHeartbeats 4000000 in
set_option maxRecDepth 100000 in
theorem lw_c13 {N i : Nat} {sc : Nat → Int32} {s : sg} {hX hM' : mh_H} (hN : N ≤ 3072) (hi : i + 6 ≤ N) (hv : IV s) (hc : CP s hX) (hm : MP s hM') (KK : ∀ (s' : sg) (h1 h2 : mh_H), IV s' → CP s' h1 → MP s' h2 → Lt N sc i 1325 [] h1 h2) : Lt N sc i 665 [] hX hM' := by
  obtain ⟨h, nd, sl, tu, rfl, hm⟩ := hm
  refine lt_a1 (pc := 665) dL_law_665 ?_
  refine lt_cXi0 (pc := 666) vL_69 dL_law_666 (by decide) hc.1.1 (Nat.le_of_ble_eq_true rfl) (c_X4_step _ _ s hc hv) (fun v1 h1 hq1 => ?_)
  obtain ⟨e1, hc1⟩ := hq1
  refine lt_a2 (pc := 669) dL_law_669 ?_
  refine lt_cMi0 (pc := 670) vL_73 dL_law_670 (by decide) hM_0 (Nat.le_of_ble_eq_true rfl) (c_X5_step _ h s nd sl tu hm hv) (fun v2 h2 hq2 => ?_)
  obtain ⟨e2, hm2⟩ := hq2
  refine lt_eq (pc := 673) (tgt := 1325) dL_law_673 (by decide) (e1.trans e2.symm) ?_
  exact KK _ _ _ (iv_step hv) hc1 hm2
set_option maxHeartbeats 4000000 in
set_option maxRecDepth 100000 in
theorem lw_c14 {N i : Nat} {sc : Nat → Int32} {s : sg} {hX hM' : mh_H} (hN : N ≤ 3072) (hi : i + 6 ≤ N) (hv : IV s) (hc : CP s hX) (hm : MP s hM') (KK : ∀ (s' : sg) (h1 h2 : mh_H), IV s' → CP s' h1 → MP s' h2 → Lt N sc i 1325 [] h1 h2) : Lt N sc i 678 [] hX hM' := by
  obtain ⟨h, nd, sl, tu, rfl, hm⟩ := hm
  refine lt_a1 (pc := 678) dL_law_678 ?_
  refine lt_arg (q := 1) (pc := 679) dL_law_679 dL_law_680 dL_law_681 dL_law_682 dL_law_683 (by decide) (by omega) (by omega) ?_
  refine lt_cXi1 (pc := 684) vL_74 dL_law_684 (by decide) hc.1.1 (Nat.le_of_ble_eq_true rfl) (c_X4_hatch _ _ s (sc (i + 1)) hc hv) (fun v1 h1 hq1 => ?_)
  obtain ⟨e1, hc1⟩ := hq1
  refine lt_a2 (pc := 687) dL_law_687 ?_
  refine lt_arg (q := 1) (pc := 688) dL_law_688 dL_law_689 dL_law_690 dL_law_691 dL_law_692 (by decide) (by omega) (by omega) ?_
  refine lt_cMi1 (pc := 693) vL_77 dL_law_693 (by decide) hM_0 (Nat.le_of_ble_eq_true rfl) (c_X5_hatch _ h s nd sl tu (sc (i + 1)) hm hv) (fun v2 h2 hq2 => ?_)
  obtain ⟨e2, hm2⟩ := hq2
  refine lt_eq (pc := 696) (tgt := 1325) dL_law_696 (by decide) (e1.trans e2.symm) ?_
  exact KK _ _ _ (iv_hatch hv) hc1 hm2
set_option maxHeartbeats 4000000 in
set_option maxRecDepth 100000 in
theorem lw_c15 {N i : Nat} {sc : Nat → Int32} {s : sg} {hX hM' : mh_H} (hN : N ≤ 3072) (hi : i + 6 ≤ N) (hv : IV s) (hc : CP s hX) (hm : MP s hM') (KK : ∀ (s' : sg) (h1 h2 : mh_H), IV s' → CP s' h1 → MP s' h2 → Lt N sc i 1325 [] h1 h2) : Lt N sc i 701 [] hX hM' := by
  obtain ⟨h, nd, sl, tu, rfl, hm⟩ := hm
  refine lt_a1 (pc := 701) dL_law_701 ?_
  refine lt_cXi0 (pc := 702) vL_78 dL_law_702 (by decide) hc.1.1 (Nat.le_of_ble_eq_true rfl) (c_X4_rake _ _ s hc hv) (fun v1 h1 hq1 => ?_)
  obtain ⟨e1, hc1⟩ := hq1
  refine lt_a2 (pc := 705) dL_law_705 ?_
  refine lt_cMi0 (pc := 706) vL_81 dL_law_706 (by decide) hM_0 (Nat.le_of_ble_eq_true rfl) (c_X5_rake _ h s nd sl tu hm hv) (fun v2 h2 hq2 => ?_)
  obtain ⟨e2, hm2⟩ := hq2
  refine lt_eq (pc := 709) (tgt := 1325) dL_law_709 (by decide) (e1.trans e2.symm) ?_
  exact KK _ _ _ (iv_rake hv) hc1 hm2
set_option maxHeartbeats 4000000 in
set_option maxRecDepth 100000 in
theorem lw_c16 {N i : Nat} {sc : Nat → Int32} {s : sg} {hX hM' : mh_H} (hN : N ≤ 3072) (hi : i + 6 ≤ N) (hv : IV s) (hc : CP s hX) (hm : MP s hM') (KK : ∀ (s' : sg) (h1 h2 : mh_H), IV s' → CP s' h1 → MP s' h2 → Lt N sc i 1325 [] h1 h2) : Lt N sc i 714 [] hX hM' := by
  obtain ⟨h, nd, sl, tu, rfl, hm⟩ := hm
  refine lt_a1 (pc := 714) dL_law_714 ?_
  refine lt_arg (q := 1) (pc := 715) dL_law_715 dL_law_716 dL_law_717 dL_law_718 dL_law_719 (by decide) (by omega) (by omega) ?_
  refine lt_cXi1 (pc := 720) vL_82 dL_law_720 (by decide) hc.1.1 (Nat.le_of_ble_eq_true rfl) (c_X4_fish _ _ s (sc (i + 1)) hc hv) (fun v1 h1 hq1 => ?_)
  obtain ⟨e1, hc1⟩ := hq1
  refine lt_a2 (pc := 723) dL_law_723 ?_
  refine lt_arg (q := 1) (pc := 724) dL_law_724 dL_law_725 dL_law_726 dL_law_727 dL_law_728 (by decide) (by omega) (by omega) ?_
  refine lt_cMi1 (pc := 729) vL_85 dL_law_729 (by decide) hM_0 (Nat.le_of_ble_eq_true rfl) (c_X5_fish _ h s nd sl tu (sc (i + 1)) hm hv) (fun v2 h2 hq2 => ?_)
  obtain ⟨e2, hm2⟩ := hq2
  refine lt_eq (pc := 732) (tgt := 1325) dL_law_732 (by decide) (e1.trans e2.symm) ?_
  exact KK _ _ _ (iv_fish hv) hc1 hm2
set_option maxHeartbeats 4000000 in
set_option maxRecDepth 100000 in
theorem lw_c17 {N i : Nat} {sc : Nat → Int32} {s : sg} {hX hM' : mh_H} (hN : N ≤ 3072) (hi : i + 6 ≤ N) (hv : IV s) (hc : CP s hX) (hm : MP s hM') (KK : ∀ (s' : sg) (h1 h2 : mh_H), IV s' → CP s' h1 → MP s' h2 → Lt N sc i 1325 [] h1 h2) : Lt N sc i 737 [] hX hM' := by
  obtain ⟨h, nd, sl, tu, rfl, hm⟩ := hm
  refine lt_a1 (pc := 737) dL_law_737 ?_
  refine lt_arg (q := 1) (pc := 738) dL_law_738 dL_law_739 dL_law_740 dL_law_741 dL_law_742 (by decide) (by omega) (by omega) ?_
  refine lt_cXi1 (pc := 743) vL_86 dL_law_743 (by decide) hc.1.1 (Nat.le_of_ble_eq_true rfl) (c_X4_undo _ _ s (sc (i + 1)) hc hv) (fun v1 h1 hq1 => ?_)
  obtain ⟨e1, hc1⟩ := hq1
  refine lt_a2 (pc := 746) dL_law_746 ?_
  refine lt_arg (q := 1) (pc := 747) dL_law_747 dL_law_748 dL_law_749 dL_law_750 dL_law_751 (by decide) (by omega) (by omega) ?_
  refine lt_cMi1 (pc := 752) vL_89 dL_law_752 (by decide) hM_0 (Nat.le_of_ble_eq_true rfl) (c_X5_undo _ h s nd sl tu (sc (i + 1)) hm hv) (fun v2 h2 hq2 => ?_)
  obtain ⟨e2, hm2⟩ := hq2
  refine lt_eq (pc := 755) (tgt := 1325) dL_law_755 (by decide) (e1.trans e2.symm) ?_
  exact KK _ _ _ (iv_undo hv) hc1 hm2
set_option maxHeartbeats 4000000 in
set_option maxRecDepth 100000 in
theorem lw_c18 {N i : Nat} {sc : Nat → Int32} {s : sg} {hX hM' : mh_H} (hN : N ≤ 3072) (hi : i + 6 ≤ N) (hv : IV s) (hc : CP s hX) (hm : MP s hM') (KK : ∀ (s' : sg) (h1 h2 : mh_H), IV s' → CP s' h1 → MP s' h2 → Lt N sc i 1325 [] h1 h2) : Lt N sc i 760 [] hX hM' := by
  obtain ⟨h, nd, sl, tu, rfl, hm⟩ := hm
  refine lt_a1 (pc := 760) dL_law_760 ?_
  refine lt_arg (q := 1) (pc := 761) dL_law_761 dL_law_762 dL_law_763 dL_law_764 dL_law_765 (by decide) (by omega) (by omega) ?_
  refine lt_cXi1 (pc := 766) vL_90 dL_law_766 (by decide) hc.1.1 (Nat.le_of_ble_eq_true rfl) (c_X4_keep _ _ s (sc (i + 1)) hc hv) (fun v1 h1 hq1 => ?_)
  obtain ⟨e1, hc1⟩ := hq1
  refine lt_a2 (pc := 769) dL_law_769 ?_
  refine lt_arg (q := 1) (pc := 770) dL_law_770 dL_law_771 dL_law_772 dL_law_773 dL_law_774 (by decide) (by omega) (by omega) ?_
  refine lt_cMi1 (pc := 775) vL_93 dL_law_775 (by decide) hM_0 (Nat.le_of_ble_eq_true rfl) (c_X5_keep _ h s nd sl tu (sc (i + 1)) hm hv) (fun v2 h2 hq2 => ?_)
  obtain ⟨e2, hm2⟩ := hq2
  refine lt_eq (pc := 778) (tgt := 1325) dL_law_778 (by decide) (e1.trans e2.symm) ?_
  exact KK _ _ _ (iv_keep hv) hc1 hm2
set_option maxHeartbeats 4000000 in
set_option maxRecDepth 100000 in
theorem lw_c19 {N i : Nat} {sc : Nat → Int32} {s : sg} {hX hM' : mh_H} (hN : N ≤ 3072) (hi : i + 6 ≤ N) (hv : IV s) (hc : CP s hX) (hm : MP s hM') (KK : ∀ (s' : sg) (h1 h2 : mh_H), IV s' → CP s' h1 → MP s' h2 → Lt N sc i 1325 [] h1 h2) : Lt N sc i 783 [] hX hM' := by
  obtain ⟨h, nd, sl, tu, rfl, hm⟩ := hm
  refine lt_a1 (pc := 783) dL_law_783 ?_
  refine lt_arg (q := 1) (pc := 784) dL_law_784 dL_law_785 dL_law_786 dL_law_787 dL_law_788 (by decide) (by omega) (by omega) ?_
  refine lt_cXi1 (pc := 789) vL_94 dL_law_789 (by decide) hc.1.1 (Nat.le_of_ble_eq_true rfl) (c_X4_on _ _ s (sc (i + 1)) hc hv) (fun v1 h1 hq1 => ?_)
  obtain ⟨e1, hc1⟩ := hq1
  refine lt_a2 (pc := 792) dL_law_792 ?_
  refine lt_arg (q := 1) (pc := 793) dL_law_793 dL_law_794 dL_law_795 dL_law_796 dL_law_797 (by decide) (by omega) (by omega) ?_
  refine lt_cMi1 (pc := 798) vL_97 dL_law_798 (by decide) hM_0 (Nat.le_of_ble_eq_true rfl) (c_X5_on _ h s nd sl tu (sc (i + 1)) hm hv) (fun v2 h2 hq2 => ?_)
  obtain ⟨e2, hm2⟩ := hq2
  refine lt_eq (pc := 801) (tgt := 1325) dL_law_801 (by decide) (e1.trans e2.symm) ?_
  exact KK _ _ _ (iv_on hv) hc1 hm2
set_option maxHeartbeats 4000000 in
set_option maxRecDepth 100000 in
theorem lw_c20 {N i : Nat} {sc : Nat → Int32} {s : sg} {hX hM' : mh_H} (hN : N ≤ 3072) (hi : i + 6 ≤ N) (hv : IV s) (hc : CP s hX) (hm : MP s hM') (KK : ∀ (s' : sg) (h1 h2 : mh_H), IV s' → CP s' h1 → MP s' h2 → Lt N sc i 1325 [] h1 h2) : Lt N sc i 806 [] hX hM' := by
  obtain ⟨h, nd, sl, tu, rfl, hm⟩ := hm
  refine lt_a1 (pc := 806) dL_law_806 ?_
  refine lt_arg (q := 1) (pc := 807) dL_law_807 dL_law_808 dL_law_809 dL_law_810 dL_law_811 (by decide) (by omega) (by omega) ?_
  refine lt_cXi1 (pc := 812) vL_98 dL_law_812 (by decide) hc.1.1 (Nat.le_of_ble_eq_true rfl) (c_X4_mill _ _ s (sc (i + 1)) hc hv) (fun v1 h1 hq1 => ?_)
  obtain ⟨e1, hc1⟩ := hq1
  refine lt_a2 (pc := 815) dL_law_815 ?_
  refine lt_arg (q := 1) (pc := 816) dL_law_816 dL_law_817 dL_law_818 dL_law_819 dL_law_820 (by decide) (by omega) (by omega) ?_
  refine lt_cMi1 (pc := 821) vL_101 dL_law_821 (by decide) hM_0 (Nat.le_of_ble_eq_true rfl) (c_X5_mill _ h s nd sl tu (sc (i + 1)) hm hv) (fun v2 h2 hq2 => ?_)
  obtain ⟨e2, hm2⟩ := hq2
  refine lt_eq (pc := 824) (tgt := 1325) dL_law_824 (by decide) (e1.trans e2.symm) ?_
  exact KK _ _ _ (iv_mill hv) hc1 hm2
set_option maxHeartbeats 4000000 in
set_option maxRecDepth 100000 in
theorem lw_c21 {N i : Nat} {sc : Nat → Int32} {s : sg} {hX hM' : mh_H} (hN : N ≤ 3072) (hi : i + 6 ≤ N) (hv : IV s) (hc : CP s hX) (hm : MP s hM') (KK : ∀ (s' : sg) (h1 h2 : mh_H), IV s' → CP s' h1 → MP s' h2 → Lt N sc i 1325 [] h1 h2) : Lt N sc i 829 [] hX hM' := by
  obtain ⟨h, nd, sl, tu, rfl, hm⟩ := hm
  refine lt_a1 (pc := 829) dL_law_829 ?_
  refine lt_cXi0 (pc := 830) vL_102 dL_law_830 (by decide) hc.1.1 (Nat.le_of_ble_eq_true rfl) (c_X4_turns _ _ s hc hv) (fun v1 h1 hq1 => ?_)
  obtain ⟨e1, hc1⟩ := hq1
  refine lt_a2 (pc := 833) dL_law_833 ?_
  refine lt_cMi0 (pc := 834) vL_105 dL_law_834 (by decide) hM_0 (Nat.le_of_ble_eq_true rfl) (c_X5_turns _ h s nd sl tu hm hv) (fun v2 h2 hq2 => ?_)
  obtain ⟨e2, hm2⟩ := hq2
  refine lt_eq (pc := 837) (tgt := 1325) dL_law_837 (by decide) (e1.trans e2.symm) ?_
  exact KK _ _ _ (iv_turns hv) hc1 hm2
set_option maxHeartbeats 4000000 in
set_option maxRecDepth 100000 in
theorem lw_c22 {N i : Nat} {sc : Nat → Int32} {s : sg} {hX hM' : mh_H} (hN : N ≤ 3072) (hi : i + 6 ≤ N) (hv : IV s) (hc : CP s hX) (hm : MP s hM') (KK : ∀ (s' : sg) (h1 h2 : mh_H), IV s' → CP s' h1 → MP s' h2 → Lt N sc i 1325 [] h1 h2) : Lt N sc i 842 [] hX hM' := by
  obtain ⟨h, nd, sl, tu, rfl, hm⟩ := hm
  refine lt_a1 (pc := 842) dL_law_842 ?_
  refine lt_arg (q := 1) (pc := 843) dL_law_843 dL_law_844 dL_law_845 dL_law_846 dL_law_847 (by decide) (by omega) (by omega) ?_
  refine lt_arg (q := 2) (pc := 848) dL_law_848 dL_law_849 dL_law_850 dL_law_851 dL_law_852 (by decide) (by omega) (by omega) ?_
  refine lt_cXi2 (pc := 853) vL_106 dL_law_853 (by decide) hc.1.1 (Nat.le_of_ble_eq_true rfl) (c_X4_book _ _ s (sc (i + 1)) (sc (i + 2)) hc hv) (fun v1 h1 hq1 => ?_)
  obtain ⟨e1, hc1⟩ := hq1
  refine lt_a2 (pc := 856) dL_law_856 ?_
  refine lt_arg (q := 1) (pc := 857) dL_law_857 dL_law_858 dL_law_859 dL_law_860 dL_law_861 (by decide) (by omega) (by omega) ?_
  refine lt_arg (q := 2) (pc := 862) dL_law_862 dL_law_863 dL_law_864 dL_law_865 dL_law_866 (by decide) (by omega) (by omega) ?_
  refine lt_cMi2 (pc := 867) vL_109 dL_law_867 (by decide) hM_0 (Nat.le_of_ble_eq_true rfl) (c_X5_book _ h s nd sl tu (sc (i + 1)) (sc (i + 2)) hm hv) (fun v2 h2 hq2 => ?_)
  obtain ⟨e2, hm2⟩ := hq2
  refine lt_eq (pc := 870) (tgt := 1325) dL_law_870 (by decide) (e1.trans e2.symm) ?_
  exact KK _ _ _ (iv_book hv) hc1 hm2
set_option maxHeartbeats 4000000 in
set_option maxRecDepth 100000 in
theorem lw_c23 {N i : Nat} {sc : Nat → Int32} {s : sg} {hX hM' : mh_H} (hN : N ≤ 3072) (hi : i + 6 ≤ N) (hv : IV s) (hc : CP s hX) (hm : MP s hM') (KK : ∀ (s' : sg) (h1 h2 : mh_H), IV s' → CP s' h1 → MP s' h2 → Lt N sc i 1325 [] h1 h2) : Lt N sc i 875 [] hX hM' := by
  obtain ⟨h, nd, sl, tu, rfl, hm⟩ := hm
  refine lt_a1 (pc := 875) dL_law_875 ?_
  refine lt_arg (q := 1) (pc := 876) dL_law_876 dL_law_877 dL_law_878 dL_law_879 dL_law_880 (by decide) (by omega) (by omega) ?_
  refine lt_cXi1 (pc := 881) vL_110 dL_law_881 (by decide) hc.1.1 (Nat.le_of_ble_eq_true rfl) (c_X4_best _ _ s (sc (i + 1)) hc hv) (fun v1 h1 hq1 => ?_)
  obtain ⟨e1, hc1⟩ := hq1
  refine lt_a2 (pc := 884) dL_law_884 ?_
  refine lt_arg (q := 1) (pc := 885) dL_law_885 dL_law_886 dL_law_887 dL_law_888 dL_law_889 (by decide) (by omega) (by omega) ?_
  refine lt_cMi1 (pc := 890) vL_113 dL_law_890 (by decide) hM_0 (Nat.le_of_ble_eq_true rfl) (c_X5_best _ h s nd sl tu (sc (i + 1)) hm hv) (fun v2 h2 hq2 => ?_)
  obtain ⟨e2, hm2⟩ := hq2
  refine lt_eq (pc := 893) (tgt := 1325) dL_law_893 (by decide) (e1.trans e2.symm) ?_
  exact KK _ _ _ (iv_best hv) hc1 hm2
set_option maxHeartbeats 4000000 in
set_option maxRecDepth 100000 in
theorem lw_c24 {N i : Nat} {sc : Nat → Int32} {s : sg} {hX hM' : mh_H} (hN : N ≤ 3072) (hi : i + 6 ≤ N) (hv : IV s) (hc : CP s hX) (hm : MP s hM') (KK : ∀ (s' : sg) (h1 h2 : mh_H), IV s' → CP s' h1 → MP s' h2 → Lt N sc i 1325 [] h1 h2) : Lt N sc i 898 [] hX hM' := by
  obtain ⟨h, nd, sl, tu, rfl, hm⟩ := hm
  refine lt_a1 (pc := 898) dL_law_898 ?_
  refine lt_arg (q := 1) (pc := 899) dL_law_899 dL_law_900 dL_law_901 dL_law_902 dL_law_903 (by decide) (by omega) (by omega) ?_
  refine lt_arg (q := 2) (pc := 904) dL_law_904 dL_law_905 dL_law_906 dL_law_907 dL_law_908 (by decide) (by omega) (by omega) ?_
  refine lt_cXi2 (pc := 909) vL_114 dL_law_909 (by decide) hc.1.1 (Nat.le_of_ble_eq_true rfl) (c_X4_plan _ _ s (sc (i + 1)) (sc (i + 2)) hc hv) (fun v1 h1 hq1 => ?_)
  obtain ⟨e1, hc1⟩ := hq1
  refine lt_a2 (pc := 912) dL_law_912 ?_
  refine lt_arg (q := 1) (pc := 913) dL_law_913 dL_law_914 dL_law_915 dL_law_916 dL_law_917 (by decide) (by omega) (by omega) ?_
  refine lt_arg (q := 2) (pc := 918) dL_law_918 dL_law_919 dL_law_920 dL_law_921 dL_law_922 (by decide) (by omega) (by omega) ?_
  refine lt_cMi2 (pc := 923) vL_117 dL_law_923 (by decide) hM_0 (Nat.le_of_ble_eq_true rfl) (c_X5_plan _ h s nd sl tu (sc (i + 1)) (sc (i + 2)) hm hv) (fun v2 h2 hq2 => ?_)
  obtain ⟨e2, hm2⟩ := hq2
  refine lt_eq (pc := 926) (tgt := 1325) dL_law_926 (by decide) (e1.trans e2.symm) ?_
  exact KK _ _ _ (iv_plan hv) hc1 hm2
set_option maxHeartbeats 4000000 in
set_option maxRecDepth 100000 in
theorem lw_c25 {N i : Nat} {sc : Nat → Int32} {s : sg} {hX hM' : mh_H} (hN : N ≤ 3072) (hi : i + 6 ≤ N) (hv : IV s) (hc : CP s hX) (hm : MP s hM') (KK : ∀ (s' : sg) (h1 h2 : mh_H), IV s' → CP s' h1 → MP s' h2 → Lt N sc i 1325 [] h1 h2) : Lt N sc i 931 [] hX hM' := by
  obtain ⟨h, nd, sl, tu, rfl, hm⟩ := hm
  refine lt_a1 (pc := 931) dL_law_931 ?_
  refine lt_arg (q := 1) (pc := 932) dL_law_932 dL_law_933 dL_law_934 dL_law_935 dL_law_936 (by decide) (by omega) (by omega) ?_
  refine lt_arg (q := 2) (pc := 937) dL_law_937 dL_law_938 dL_law_939 dL_law_940 dL_law_941 (by decide) (by omega) (by omega) ?_
  refine lt_cXi2 (pc := 942) vL_118 dL_law_942 (by decide) hc.1.1 (Nat.le_of_ble_eq_true rfl) (c_X4_rakes _ _ s (sc (i + 1)) (sc (i + 2)) hc hv) (fun v1 h1 hq1 => ?_)
  obtain ⟨e1, hc1⟩ := hq1
  refine lt_a2 (pc := 945) dL_law_945 ?_
  refine lt_arg (q := 1) (pc := 946) dL_law_946 dL_law_947 dL_law_948 dL_law_949 dL_law_950 (by decide) (by omega) (by omega) ?_
  refine lt_arg (q := 2) (pc := 951) dL_law_951 dL_law_952 dL_law_953 dL_law_954 dL_law_955 (by decide) (by omega) (by omega) ?_
  refine lt_cMi2 (pc := 956) vL_121 dL_law_956 (by decide) hM_0 (Nat.le_of_ble_eq_true rfl) (c_X5_rakes _ h s nd sl tu (sc (i + 1)) (sc (i + 2)) hm hv) (fun v2 h2 hq2 => ?_)
  obtain ⟨e2, hm2⟩ := hq2
  refine lt_eq (pc := 959) (tgt := 1325) dL_law_959 (by decide) (e1.trans e2.symm) ?_
  exact KK _ _ _ (iv_rakes hv) hc1 hm2
set_option maxHeartbeats 4000000 in
set_option maxRecDepth 100000 in
theorem lw_c26 {N i : Nat} {sc : Nat → Int32} {s : sg} {hX hM' : mh_H} (hN : N ≤ 3072) (hi : i + 6 ≤ N) (hv : IV s) (hc : CP s hX) (hm : MP s hM') (KK : ∀ (s' : sg) (h1 h2 : mh_H), IV s' → CP s' h1 → MP s' h2 → Lt N sc i 1325 [] h1 h2) : Lt N sc i 964 [] hX hM' := by
  obtain ⟨h, nd, sl, tu, rfl, hm⟩ := hm
  refine lt_a1 (pc := 964) dL_law_964 ?_
  refine lt_arg (q := 1) (pc := 965) dL_law_965 dL_law_966 dL_law_967 dL_law_968 dL_law_969 (by decide) (by omega) (by omega) ?_
  refine lt_cXi1 (pc := 970) vL_122 dL_law_970 (by decide) hc.1.1 (Nat.le_of_ble_eq_true rfl) (c_X4_fishes _ _ s (sc (i + 1)) hc hv) (fun v1 h1 hq1 => ?_)
  obtain ⟨e1, hc1⟩ := hq1
  refine lt_a2 (pc := 973) dL_law_973 ?_
  refine lt_arg (q := 1) (pc := 974) dL_law_974 dL_law_975 dL_law_976 dL_law_977 dL_law_978 (by decide) (by omega) (by omega) ?_
  refine lt_cMi1 (pc := 979) vL_125 dL_law_979 (by decide) hM_0 (Nat.le_of_ble_eq_true rfl) (c_X5_fishes _ h s nd sl tu (sc (i + 1)) hm hv) (fun v2 h2 hq2 => ?_)
  obtain ⟨e2, hm2⟩ := hq2
  refine lt_eq (pc := 982) (tgt := 1325) dL_law_982 (by decide) (e1.trans e2.symm) ?_
  exact KK _ _ _ (iv_fishes hv) hc1 hm2
set_option maxHeartbeats 4000000 in
set_option maxRecDepth 100000 in
theorem lw_c27 {N i : Nat} {sc : Nat → Int32} {s : sg} {hX hM' : mh_H} (hN : N ≤ 3072) (hi : i + 6 ≤ N) (hv : IV s) (hc : CP s hX) (hm : MP s hM') (KK : ∀ (s' : sg) (h1 h2 : mh_H), IV s' → CP s' h1 → MP s' h2 → Lt N sc i 1325 [] h1 h2) : Lt N sc i 987 [] hX hM' := by
  obtain ⟨h, nd, sl, tu, rfl, hm⟩ := hm
  refine lt_a1 (pc := 987) dL_law_987 ?_
  refine lt_arg (q := 1) (pc := 988) dL_law_988 dL_law_989 dL_law_990 dL_law_991 dL_law_992 (by decide) (by omega) (by omega) ?_
  refine lt_cXi1 (pc := 993) vL_126 dL_law_993 (by decide) hc.1.1 (Nat.le_of_ble_eq_true rfl) (c_X4_where _ _ s (sc (i + 1)) hc hv) (fun v1 h1 hq1 => ?_)
  obtain ⟨e1, hc1⟩ := hq1
  refine lt_a2 (pc := 996) dL_law_996 ?_
  refine lt_arg (q := 1) (pc := 997) dL_law_997 dL_law_998 dL_law_999 dL_law_1000 dL_law_1001 (by decide) (by omega) (by omega) ?_
  refine lt_cMi1 (pc := 1002) vL_129 dL_law_1002 (by decide) hM_0 (Nat.le_of_ble_eq_true rfl) (c_X5_where _ h s nd sl tu (sc (i + 1)) hm hv) (fun v2 h2 hq2 => ?_)
  obtain ⟨e2, hm2⟩ := hq2
  refine lt_eq (pc := 1005) (tgt := 1325) dL_law_1005 (by decide) (e1.trans e2.symm) ?_
  exact KK _ _ _ (iv_where hv) hc1 hm2
set_option maxHeartbeats 4000000 in
set_option maxRecDepth 100000 in
theorem lw_c28 {N i : Nat} {sc : Nat → Int32} {s : sg} {hX hM' : mh_H} (hN : N ≤ 3072) (hi : i + 6 ≤ N) (hv : IV s) (hc : CP s hX) (hm : MP s hM') (KK : ∀ (s' : sg) (h1 h2 : mh_H), IV s' → CP s' h1 → MP s' h2 → Lt N sc i 1325 [] h1 h2) : Lt N sc i 1010 [] hX hM' := by
  obtain ⟨h, nd, sl, tu, rfl, hm⟩ := hm
  refine lt_a1 (pc := 1010) dL_law_1010 ?_
  refine lt_arg (q := 1) (pc := 1011) dL_law_1011 dL_law_1012 dL_law_1013 dL_law_1014 dL_law_1015 (by decide) (by omega) (by omega) ?_
  refine lt_arg (q := 2) (pc := 1016) dL_law_1016 dL_law_1017 dL_law_1018 dL_law_1019 dL_law_1020 (by decide) (by omega) (by omega) ?_
  refine lt_cXi2 (pc := 1021) vL_130 dL_law_1021 (by decide) hc.1.1 (Nat.le_of_ble_eq_true rfl) (c_X4_flows _ _ s (sc (i + 1)) (sc (i + 2)) hc hv) (fun v1 h1 hq1 => ?_)
  obtain ⟨e1, hc1⟩ := hq1
  refine lt_a2 (pc := 1024) dL_law_1024 ?_
  refine lt_arg (q := 1) (pc := 1025) dL_law_1025 dL_law_1026 dL_law_1027 dL_law_1028 dL_law_1029 (by decide) (by omega) (by omega) ?_
  refine lt_arg (q := 2) (pc := 1030) dL_law_1030 dL_law_1031 dL_law_1032 dL_law_1033 dL_law_1034 (by decide) (by omega) (by omega) ?_
  refine lt_cMi2 (pc := 1035) vL_133 dL_law_1035 (by decide) hM_0 (Nat.le_of_ble_eq_true rfl) (c_X5_flows _ h s nd sl tu (sc (i + 1)) (sc (i + 2)) hm hv) (fun v2 h2 hq2 => ?_)
  obtain ⟨e2, hm2⟩ := hq2
  refine lt_eq (pc := 1038) (tgt := 1325) dL_law_1038 (by decide) (e1.trans e2.symm) ?_
  exact KK _ _ _ (iv_flows hv) hc1 hm2
set_option maxHeartbeats 4000000 in
set_option maxRecDepth 100000 in
theorem lw_c29 {N i : Nat} {sc : Nat → Int32} {s : sg} {hX hM' : mh_H} (hN : N ≤ 3072) (hi : i + 6 ≤ N) (hv : IV s) (hc : CP s hX) (hm : MP s hM') (KK : ∀ (s' : sg) (h1 h2 : mh_H), IV s' → CP s' h1 → MP s' h2 → Lt N sc i 1325 [] h1 h2) : Lt N sc i 1043 [] hX hM' := by
  obtain ⟨h, nd, sl, tu, rfl, hm⟩ := hm
  refine lt_a1 (pc := 1043) dL_law_1043 ?_
  refine lt_arg (q := 1) (pc := 1044) dL_law_1044 dL_law_1045 dL_law_1046 dL_law_1047 dL_law_1048 (by decide) (by omega) (by omega) ?_
  refine lt_arg (q := 2) (pc := 1049) dL_law_1049 dL_law_1050 dL_law_1051 dL_law_1052 dL_law_1053 (by decide) (by omega) (by omega) ?_
  refine lt_cXi2 (pc := 1054) vL_134 dL_law_1054 (by decide) hc.1.1 (Nat.le_of_ble_eq_true rfl) (c_X4_kinds _ _ s (sc (i + 1)) (sc (i + 2)) hc hv) (fun v1 h1 hq1 => ?_)
  obtain ⟨e1, hc1⟩ := hq1
  refine lt_a2 (pc := 1057) dL_law_1057 ?_
  refine lt_arg (q := 1) (pc := 1058) dL_law_1058 dL_law_1059 dL_law_1060 dL_law_1061 dL_law_1062 (by decide) (by omega) (by omega) ?_
  refine lt_arg (q := 2) (pc := 1063) dL_law_1063 dL_law_1064 dL_law_1065 dL_law_1066 dL_law_1067 (by decide) (by omega) (by omega) ?_
  refine lt_cMi2 (pc := 1068) vL_137 dL_law_1068 (by decide) hM_0 (Nat.le_of_ble_eq_true rfl) (c_X5_kinds _ h s nd sl tu (sc (i + 1)) (sc (i + 2)) hm hv) (fun v2 h2 hq2 => ?_)
  obtain ⟨e2, hm2⟩ := hq2
  refine lt_eq (pc := 1071) (tgt := 1325) dL_law_1071 (by decide) (e1.trans e2.symm) ?_
  exact KK _ _ _ (iv_kinds hv) hc1 hm2
set_option maxHeartbeats 4000000 in
set_option maxRecDepth 100000 in
theorem lw_c30 {N i : Nat} {sc : Nat → Int32} {s : sg} {hX hM' : mh_H} (hN : N ≤ 3072) (hi : i + 6 ≤ N) (hv : IV s) (hc : CP s hX) (hm : MP s hM') (KK : ∀ (s' : sg) (h1 h2 : mh_H), IV s' → CP s' h1 → MP s' h2 → Lt N sc i 1325 [] h1 h2) : Lt N sc i 1076 [] hX hM' := by
  obtain ⟨h, nd, sl, tu, rfl, hm⟩ := hm
  refine lt_a1 (pc := 1076) dL_law_1076 ?_
  refine lt_arg (q := 1) (pc := 1077) dL_law_1077 dL_law_1078 dL_law_1079 dL_law_1080 dL_law_1081 (by decide) (by omega) (by omega) ?_
  refine lt_cXi1 (pc := 1082) vL_138 dL_law_1082 (by decide) hc.1.1 (Nat.le_of_ble_eq_true rfl) (c_X4_look _ _ s (sc (i + 1)) hc hv) (fun v1 h1 hq1 => ?_)
  obtain ⟨e1, hc1⟩ := hq1
  refine lt_a2 (pc := 1085) dL_law_1085 ?_
  refine lt_arg (q := 1) (pc := 1086) dL_law_1086 dL_law_1087 dL_law_1088 dL_law_1089 dL_law_1090 (by decide) (by omega) (by omega) ?_
  refine lt_cMi1 (pc := 1091) vL_141 dL_law_1091 (by decide) hM_0 (Nat.le_of_ble_eq_true rfl) (c_X5_look _ h s nd sl tu (sc (i + 1)) hm hv) (fun v2 h2 hq2 => ?_)
  obtain ⟨e2, hm2⟩ := hq2
  refine lt_eq (pc := 1094) (tgt := 1325) dL_law_1094 (by decide) (e1.trans e2.symm) ?_
  exact KK _ _ _ (iv_look hv) hc1 hm2
set_option maxHeartbeats 4000000 in
set_option maxRecDepth 100000 in
theorem lw_c31 {N i : Nat} {sc : Nat → Int32} {s : sg} {hX hM' : mh_H} (hN : N ≤ 3072) (hi : i + 6 ≤ N) (hv : IV s) (hc : CP s hX) (hm : MP s hM') (KK : ∀ (s' : sg) (h1 h2 : mh_H), IV s' → CP s' h1 → MP s' h2 → Lt N sc i 1325 [] h1 h2) : Lt N sc i 1099 [] hX hM' := by
  obtain ⟨h, nd, sl, tu, rfl, hm⟩ := hm
  refine lt_a1 (pc := 1099) dL_law_1099 ?_
  refine lt_arg (q := 1) (pc := 1100) dL_law_1100 dL_law_1101 dL_law_1102 dL_law_1103 dL_law_1104 (by decide) (by omega) (by omega) ?_
  refine lt_cXi1 (pc := 1105) vL_142 dL_law_1105 (by decide) hc.1.1 (Nat.le_of_ble_eq_true rfl) (c_X4_duel _ _ s (sc (i + 1)) hc hv) (fun v1 h1 hq1 => ?_)
  obtain ⟨e1, hc1⟩ := hq1
  refine lt_a2 (pc := 1108) dL_law_1108 ?_
  refine lt_arg (q := 1) (pc := 1109) dL_law_1109 dL_law_1110 dL_law_1111 dL_law_1112 dL_law_1113 (by decide) (by omega) (by omega) ?_
  refine lt_cMi1 (pc := 1114) vL_145 dL_law_1114 (by decide) hM_0 (Nat.le_of_ble_eq_true rfl) (c_X5_duel _ h s nd sl tu (sc (i + 1)) hm hv) (fun v2 h2 hq2 => ?_)
  obtain ⟨e2, hm2⟩ := hq2
  refine lt_eq (pc := 1117) (tgt := 1325) dL_law_1117 (by decide) (e1.trans e2.symm) ?_
  exact KK _ _ _ (iv_duel hv) hc1 hm2
set_option maxHeartbeats 4000000 in
set_option maxRecDepth 100000 in
theorem lw_c32 {N i : Nat} {sc : Nat → Int32} {s : sg} {hX hM' : mh_H} (hN : N ≤ 3072) (hi : i + 6 ≤ N) (hv : IV s) (hc : CP s hX) (hm : MP s hM') (KK : ∀ (s' : sg) (h1 h2 : mh_H), IV s' → CP s' h1 → MP s' h2 → Lt N sc i 1325 [] h1 h2) : Lt N sc i 1122 [] hX hM' := by
  obtain ⟨h, nd, sl, tu, rfl, hm⟩ := hm
  refine lt_a1 (pc := 1122) dL_law_1122 ?_
  refine lt_arg (q := 1) (pc := 1123) dL_law_1123 dL_law_1124 dL_law_1125 dL_law_1126 dL_law_1127 (by decide) (by omega) (by omega) ?_
  refine lt_arg (q := 2) (pc := 1128) dL_law_1128 dL_law_1129 dL_law_1130 dL_law_1131 dL_law_1132 (by decide) (by omega) (by omega) ?_
  refine lt_cXi2 (pc := 1133) vL_146 dL_law_1133 (by decide) hc.1.1 (Nat.le_of_ble_eq_true rfl) (c_X4_odds _ _ s (sc (i + 1)) (sc (i + 2)) hc hv) (fun v1 h1 hq1 => ?_)
  obtain ⟨e1, hc1⟩ := hq1
  refine lt_a2 (pc := 1136) dL_law_1136 ?_
  refine lt_arg (q := 1) (pc := 1137) dL_law_1137 dL_law_1138 dL_law_1139 dL_law_1140 dL_law_1141 (by decide) (by omega) (by omega) ?_
  refine lt_arg (q := 2) (pc := 1142) dL_law_1142 dL_law_1143 dL_law_1144 dL_law_1145 dL_law_1146 (by decide) (by omega) (by omega) ?_
  refine lt_cMi2 (pc := 1147) vL_149 dL_law_1147 (by decide) hM_0 (Nat.le_of_ble_eq_true rfl) (c_X5_odds _ h s nd sl tu (sc (i + 1)) (sc (i + 2)) hm hv) (fun v2 h2 hq2 => ?_)
  obtain ⟨e2, hm2⟩ := hq2
  refine lt_eq (pc := 1150) (tgt := 1325) dL_law_1150 (by decide) (e1.trans e2.symm) ?_
  exact KK _ _ _ (iv_odds hv) hc1 hm2
set_option maxHeartbeats 4000000 in
set_option maxRecDepth 100000 in
theorem lw_c33 {N i : Nat} {sc : Nat → Int32} {s : sg} {hX hM' : mh_H} (hN : N ≤ 3072) (hi : i + 6 ≤ N) (hv : IV s) (hc : CP s hX) (hm : MP s hM') (KK : ∀ (s' : sg) (h1 h2 : mh_H), IV s' → CP s' h1 → MP s' h2 → Lt N sc i 1325 [] h1 h2) : Lt N sc i 1155 [] hX hM' := by
  obtain ⟨h, nd, sl, tu, rfl, hm⟩ := hm
  refine lt_a1 (pc := 1155) dL_law_1155 ?_
  refine lt_arg (q := 1) (pc := 1156) dL_law_1156 dL_law_1157 dL_law_1158 dL_law_1159 dL_law_1160 (by decide) (by omega) (by omega) ?_
  refine lt_cXi1 (pc := 1161) vL_150 dL_law_1161 (by decide) hc.1.1 (Nat.le_of_ble_eq_true rfl) (c_X4_mid _ _ s (sc (i + 1)) hc hv) (fun v1 h1 hq1 => ?_)
  obtain ⟨e1, hc1⟩ := hq1
  refine lt_a2 (pc := 1164) dL_law_1164 ?_
  refine lt_arg (q := 1) (pc := 1165) dL_law_1165 dL_law_1166 dL_law_1167 dL_law_1168 dL_law_1169 (by decide) (by omega) (by omega) ?_
  refine lt_cMi1 (pc := 1170) vL_153 dL_law_1170 (by decide) hM_0 (Nat.le_of_ble_eq_true rfl) (c_X5_mid _ h s nd sl tu (sc (i + 1)) hm hv) (fun v2 h2 hq2 => ?_)
  obtain ⟨e2, hm2⟩ := hq2
  refine lt_eq (pc := 1173) (tgt := 1325) dL_law_1173 (by decide) (e1.trans e2.symm) ?_
  exact KK _ _ _ (iv_mid hv) hc1 hm2
set_option maxHeartbeats 4000000 in
set_option maxRecDepth 100000 in
theorem lw_c34 {N i : Nat} {sc : Nat → Int32} {s : sg} {hX hM' : mh_H} (hN : N ≤ 3072) (hi : i + 6 ≤ N) (hv : IV s) (hc : CP s hX) (hm : MP s hM') (KK : ∀ (s' : sg) (h1 h2 : mh_H), IV s' → CP s' h1 → MP s' h2 → Lt N sc i 1325 [] h1 h2) : Lt N sc i 1178 [] hX hM' := by
  obtain ⟨h, nd, sl, tu, rfl, hm⟩ := hm
  refine lt_a1 (pc := 1178) dL_law_1178 ?_
  refine lt_arg (q := 1) (pc := 1179) dL_law_1179 dL_law_1180 dL_law_1181 dL_law_1182 dL_law_1183 (by decide) (by omega) (by omega) ?_
  refine lt_arg (q := 2) (pc := 1184) dL_law_1184 dL_law_1185 dL_law_1186 dL_law_1187 dL_law_1188 (by decide) (by omega) (by omega) ?_
  refine lt_cXi2 (pc := 1189) vL_154 dL_law_1189 (by decide) hc.1.1 (Nat.le_of_ble_eq_true rfl) (c_X4_lots _ _ s (sc (i + 1)) (sc (i + 2)) hc hv) (fun v1 h1 hq1 => ?_)
  obtain ⟨e1, hc1⟩ := hq1
  refine lt_a2 (pc := 1192) dL_law_1192 ?_
  refine lt_arg (q := 1) (pc := 1193) dL_law_1193 dL_law_1194 dL_law_1195 dL_law_1196 dL_law_1197 (by decide) (by omega) (by omega) ?_
  refine lt_arg (q := 2) (pc := 1198) dL_law_1198 dL_law_1199 dL_law_1200 dL_law_1201 dL_law_1202 (by decide) (by omega) (by omega) ?_
  refine lt_cMi2 (pc := 1203) vL_157 dL_law_1203 (by decide) hM_0 (Nat.le_of_ble_eq_true rfl) (c_X5_lots _ h s nd sl tu (sc (i + 1)) (sc (i + 2)) hm hv) (fun v2 h2 hq2 => ?_)
  obtain ⟨e2, hm2⟩ := hq2
  refine lt_eq (pc := 1206) (tgt := 1325) dL_law_1206 (by decide) (e1.trans e2.symm) ?_
  exact KK _ _ _ (iv_lots hv) hc1 hm2
set_option maxHeartbeats 4000000 in
set_option maxRecDepth 100000 in
theorem lw_c35 {N i : Nat} {sc : Nat → Int32} {s : sg} {hX hM' : mh_H} (hN : N ≤ 3072) (hi : i + 6 ≤ N) (hv : IV s) (hc : CP s hX) (hm : MP s hM') (KK : ∀ (s' : sg) (h1 h2 : mh_H), IV s' → CP s' h1 → MP s' h2 → Lt N sc i 1325 [] h1 h2) : Lt N sc i 1211 [] hX hM' := by
  obtain ⟨h, nd, sl, tu, rfl, hm⟩ := hm
  refine lt_a1 (pc := 1211) dL_law_1211 ?_
  refine lt_cXi0 (pc := 1212) vL_158 dL_law_1212 (by decide) hc.1.1 (Nat.le_of_ble_eq_true rfl) (c_X4_asked _ _ s hc) (fun v1 h1 hq1 => ?_)
  obtain ⟨e1, hc1⟩ := hq1
  refine lt_a2 (pc := 1215) dL_law_1215 ?_
  refine lt_cMi0 (pc := 1216) vL_161 dL_law_1216 (by decide) hM_0 (Nat.le_of_ble_eq_true rfl) (c_X5_asked _ h s nd sl tu hm) (fun v2 h2 hq2 => ?_)
  obtain ⟨e2, hm2⟩ := hq2
  refine lt_eq (pc := 1219) (tgt := 1325) dL_law_1219 (by decide) (e1.trans e2.symm) ?_
  exact KK _ _ _ hv hc1 hm2
set_option maxHeartbeats 4000000 in
set_option maxRecDepth 100000 in
theorem lw_c36 {N i : Nat} {sc : Nat → Int32} {s : sg} {hX hM' : mh_H} (hN : N ≤ 3072) (hi : i + 6 ≤ N) (hv : IV s) (hc : CP s hX) (hm : MP s hM') (KK : ∀ (s' : sg) (h1 h2 : mh_H), IV s' → CP s' h1 → MP s' h2 → Lt N sc i 1325 [] h1 h2) : Lt N sc i 1224 [] hX hM' := by
  obtain ⟨h, nd, sl, tu, rfl, hm⟩ := hm
  refine lt_a1 (pc := 1224) dL_law_1224 ?_
  refine lt_cXl0 (pc := 1225) vL_162 dL_law_1225 (by decide) hc.1.1 (Nat.le_of_ble_eq_true rfl) (c_X4_upper _ _ s hc) (fun v1 h1 hq1 => ?_)
  obtain ⟨e1, hc1⟩ := hq1
  refine lt_a2 (pc := 1228) dL_law_1228 ?_
  refine lt_cMl0 (pc := 1229) vL_166 dL_law_1229 (by decide) hM_0 (Nat.le_of_ble_eq_true rfl) (c_X5_upper _ h s nd sl tu hm) (fun v2 h2 hq2 => ?_)
  obtain ⟨e2, hm2⟩ := hq2
  rw [e1, e2]
  refine lt_leq (pc := 1232) (tgt := 1325) dL_law_1232 dL_law_1233 (by decide) ?_
  exact KK _ _ _ hv hc1 hm2
set_option maxHeartbeats 4000000 in
set_option maxRecDepth 100000 in
theorem lw_c37 {N i : Nat} {sc : Nat → Int32} {s : sg} {hX hM' : mh_H} (hN : N ≤ 3072) (hi : i + 6 ≤ N) (hv : IV s) (hc : CP s hX) (hm : MP s hM') (KK : ∀ (s' : sg) (h1 h2 : mh_H), IV s' → CP s' h1 → MP s' h2 → Lt N sc i 1325 [] h1 h2) : Lt N sc i 1238 [] hX hM' := by
  obtain ⟨h, nd, sl, tu, rfl, hm⟩ := hm
  refine lt_a1 (pc := 1238) dL_law_1238 ?_
  refine lt_cXl0 (pc := 1239) vL_167 dL_law_1239 (by decide) hc.1.1 (Nat.le_of_ble_eq_true rfl) (c_X4_lower _ _ s hc) (fun v1 h1 hq1 => ?_)
  obtain ⟨e1, hc1⟩ := hq1
  refine lt_a2 (pc := 1242) dL_law_1242 ?_
  refine lt_cMl0 (pc := 1243) vL_170 dL_law_1243 (by decide) hM_0 (Nat.le_of_ble_eq_true rfl) (c_X5_lower _ h s nd sl tu hm) (fun v2 h2 hq2 => ?_)
  obtain ⟨e2, hm2⟩ := hq2
  rw [e1, e2]
  refine lt_leq (pc := 1246) (tgt := 1325) dL_law_1246 dL_law_1247 (by decide) ?_
  exact KK _ _ _ hv hc1 hm2
set_option maxHeartbeats 4000000 in
set_option maxRecDepth 100000 in
theorem lw_c38 {N i : Nat} {sc : Nat → Int32} {s : sg} {hX hM' : mh_H} (hN : N ≤ 3072) (hi : i + 6 ≤ N) (hv : IV s) (hc : CP s hX) (hm : MP s hM') (KK : ∀ (s' : sg) (h1 h2 : mh_H), IV s' → CP s' h1 → MP s' h2 → Lt N sc i 1325 [] h1 h2) : Lt N sc i 1252 [] hX hM' := by
  obtain ⟨h, nd, sl, tu, rfl, hm⟩ := hm
  refine lt_a1 (pc := 1252) dL_law_1252 ?_
  refine lt_arg (q := 1) (pc := 1253) dL_law_1253 dL_law_1254 dL_law_1255 dL_law_1256 dL_law_1257 (by decide) (by omega) (by omega) ?_
  refine lt_cXi1 (pc := 1258) vL_171 dL_law_1258 (by decide) hc.1.1 (Nat.le_of_ble_eq_true rfl) (c_X4_count _ _ s (sc (i + 1)) hc hv) (fun v1 h1 hq1 => ?_)
  obtain ⟨e1, hc1⟩ := hq1
  refine lt_a2 (pc := 1261) dL_law_1261 ?_
  refine lt_arg (q := 1) (pc := 1262) dL_law_1262 dL_law_1263 dL_law_1264 dL_law_1265 dL_law_1266 (by decide) (by omega) (by omega) ?_
  refine lt_cMi1 (pc := 1267) vL_174 dL_law_1267 (by decide) hM_0 (Nat.le_of_ble_eq_true rfl) (c_X5_count _ h s nd sl tu (sc (i + 1)) hm hv) (fun v2 h2 hq2 => ?_)
  obtain ⟨e2, hm2⟩ := hq2
  refine lt_eq (pc := 1270) (tgt := 1325) dL_law_1270 (by decide) (e1.trans e2.symm) ?_
  exact KK _ _ _ (iv_count hv) hc1 hm2
set_option maxHeartbeats 4000000 in
set_option maxRecDepth 100000 in
theorem lw_c39 {N i : Nat} {sc : Nat → Int32} {s : sg} {hX hM' : mh_H} (hN : N ≤ 3072) (hi : i + 6 ≤ N) (hv : IV s) (hc : CP s hX) (hm : MP s hM') (KK : ∀ (s' : sg) (h1 h2 : mh_H), IV s' → CP s' h1 → MP s' h2 → Lt N sc i 1325 [] h1 h2) : Lt N sc i 1275 [] hX hM' := by
  obtain ⟨h, nd, sl, tu, rfl, hm⟩ := hm
  refine lt_a1 (pc := 1275) dL_law_1275 ?_
  refine lt_cXi0 (pc := 1276) vL_175 dL_law_1276 (by decide) hc.1.1 (Nat.le_of_ble_eq_true rfl) (c_X4_finding _ _ s hc) (fun v1 h1 hq1 => ?_)
  obtain ⟨e1, hc1⟩ := hq1
  refine lt_a2 (pc := 1279) dL_law_1279 ?_
  refine lt_cMi0 (pc := 1280) vL_178 dL_law_1280 (by decide) hM_0 (Nat.le_of_ble_eq_true rfl) (c_X5_finding _ h s nd sl tu hm) (fun v2 h2 hq2 => ?_)
  obtain ⟨e2, hm2⟩ := hq2
  refine lt_eq (pc := 1283) (tgt := 1325) dL_law_1283 (by decide) (e1.trans e2.symm) ?_
  exact KK _ _ _ hv hc1 hm2
set_option maxHeartbeats 4000000 in
set_option maxRecDepth 100000 in
theorem lw_c40 {N i : Nat} {sc : Nat → Int32} {s : sg} {hX hM' : mh_H} (hN : N ≤ 3072) (hi : i + 6 ≤ N) (hv : IV s) (hc : CP s hX) (hm : MP s hM') (KK : ∀ (s' : sg) (h1 h2 : mh_H), IV s' → CP s' h1 → MP s' h2 → Lt N sc i 1325 [] h1 h2) : Lt N sc i 1288 [] hX hM' := by
  obtain ⟨h, nd, sl, tu, rfl, hm⟩ := hm
  refine lt_a1 (pc := 1288) dL_law_1288 ?_
  refine lt_arg (q := 1) (pc := 1289) dL_law_1289 dL_law_1290 dL_law_1291 dL_law_1292 dL_law_1293 (by decide) (by omega) (by omega) ?_
  refine lt_cXi1 (pc := 1294) vL_179 dL_law_1294 (by decide) hc.1.1 (Nat.le_of_ble_eq_true rfl) (c_X4_findings _ _ s (sc (i + 1)) hc) (fun v1 h1 hq1 => ?_)
  obtain ⟨e1, hc1⟩ := hq1
  refine lt_a2 (pc := 1297) dL_law_1297 ?_
  refine lt_arg (q := 1) (pc := 1298) dL_law_1298 dL_law_1299 dL_law_1300 dL_law_1301 dL_law_1302 (by decide) (by omega) (by omega) ?_
  refine lt_cMi1 (pc := 1303) vL_182 dL_law_1303 (by decide) hM_0 (Nat.le_of_ble_eq_true rfl) (c_X5_findings _ h s nd sl tu (sc (i + 1)) hm) (fun v2 h2 hq2 => ?_)
  obtain ⟨e2, hm2⟩ := hq2
  refine lt_eq (pc := 1306) (tgt := 1325) dL_law_1306 (by decide) (e1.trans e2.symm) ?_
  exact KK _ _ _ (iv_findings hv) hc1 hm2
set_option maxHeartbeats 4000000 in
set_option maxRecDepth 100000 in
theorem lw_c41 {N i : Nat} {sc : Nat → Int32} {s : sg} {hX hM' : mh_H} (hN : N ≤ 3072) (hi : i + 6 ≤ N) (hv : IV s) (hc : CP s hX) (hm : MP s hM') (KK : ∀ (s' : sg) (h1 h2 : mh_H), IV s' → CP s' h1 → MP s' h2 → Lt N sc i 1325 [] h1 h2) : Lt N sc i 1311 [] hX hM' := by
  obtain ⟨h, nd, sl, tu, rfl, hm⟩ := hm
  refine lt_a1 (pc := 1311) dL_law_1311 ?_
  refine lt_cXl0 (pc := 1312) vL_183 dL_law_1312 (by decide) hc.1.1 (Nat.le_of_ble_eq_true rfl) (c_X4_digest _ _ s hc hv) (fun v1 h1 hq1 => ?_)
  obtain ⟨e1, hc1⟩ := hq1
  refine lt_a2 (pc := 1315) dL_law_1315 ?_
  refine lt_cMl0 (pc := 1316) vL_186 dL_law_1316 (by decide) hM_0 (Nat.le_of_ble_eq_true rfl) (c_X5_digest _ h s nd sl tu hm hv) (fun v2 h2 hq2 => ?_)
  obtain ⟨e2, hm2⟩ := hq2
  rw [e1, e2]
  refine lt_leq (pc := 1319) (tgt := 1325) dL_law_1319 dL_law_1320 (by decide) ?_
  exact KK _ _ _ hv hc1 hm2
