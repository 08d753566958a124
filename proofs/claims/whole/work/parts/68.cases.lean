
/-! ===== the law's forty-eight calls, each of both ===== -/
abbrev VL (pc : Nat) (L : List (Nat × Value)) (S : List Value) (I : IntM) (J : LngM) (Q : LW.ScrT) : Prop := LW.V m_L_law 9 175 2131 175 2131 pc L S SH RF I J Q
def lcL (i : Nat) : List (Nat × Value) := [(1, .ref 0), (2, .ref 146), (3, .int (nI i))]
theorem KV_int {m : Mth} {v : Value} (h : KV m v) (e : m.2.2.2.2 = some .int) : ∃ z : Int32, v = .int z := by
  unfold KV at h
  rw [e] at h
  exact h
theorem KV_long {m : Mth} {v : Value} (h : KV m v) (e : m.2.2.2.2 = some .long) : ∃ z : Int64, v = .long z := by
  unfold KV at h
  rw [e] at h
  exact h
theorem cmp_self (z : Int64) : lg_cmp z z = 0 := lgc_eq.mpr rfl

set_option maxRecDepth 100000 in
set_option maxHeartbeats 4000000 in
theorem lc_0 {I : IntM} {J : LngM} {i : Nat} {Q : LW.ScrT} (h : Inv I J) (hi : i + 6 ≤ Q.2.1) (k : ∀ I' J', Inv I' J' → VL 1527 (lcL i) [] I' J' Q) : VL 240 (lcL i) [] I J Q := by
  obtain ⟨v, hv, hc⟩ := p_row h (Q.2.2 (i + 1)) (Q.2.2 (i + 2))
  obtain ⟨z, rfl⟩ := KV_int hv rfl
  refine LW.V_al i_L_law_240 rfl ?_
  refine LW.V_sld (i := i) (kk := 1) i_L_law_241 i_L_law_242 i_L_law_243 i_L_law_244 i_L_law_245 rfl (by omega) ?_
  refine LW.V_sld (i := i) (kk := 2) i_L_law_246 i_L_law_247 i_L_law_248 i_L_law_249 i_L_law_250 rfl (by omega) ?_
  refine LW.V_callV2 (mc' := 0) (ms' := 0) i_L_law_251 mi_X10_row hc rfl ⟨_, _, rfl⟩ (by decide) (Nat.le_of_ble_eq_true rfl) (by decide) (by decide) (fun _ _ _ _ _ q => by rw [q.1]; rfl) (fun r sh' R' I1 J1 q => ?_)
  obtain ⟨rfl, rfl, rfl, hc2⟩ := q
  show VL 254 (lcL i) [.int z] I1 J1 Q
  refine LW.V_al i_L_law_254 rfl ?_
  refine LW.V_sld (i := i) (kk := 1) i_L_law_255 i_L_law_256 i_L_law_257 i_L_law_258 i_L_law_259 rfl (by omega) ?_
  refine LW.V_sld (i := i) (kk := 2) i_L_law_260 i_L_law_261 i_L_law_262 i_L_law_263 i_L_law_264 rfl (by omega) ?_
  refine LW.V_callV2 (mc' := 0) (ms' := 0) i_L_law_265 mi_X11_row hc2 rfl ⟨_, _, rfl⟩ (by decide) (Nat.le_of_ble_eq_true rfl) (by decide) (by decide) (fun _ _ _ _ _ q => by rw [q.1]; rfl) (fun r sh' R' I2 J2 q => ?_)
  obtain ⟨rfl, rfl, rfl, h2⟩ := q
  show VL 268 (lcL i) [.int z, .int z] I2 J2 Q
  exact LW.V_ic_eq_t i_L_law_268 rfl (k I2 J2 h2)
set_option maxRecDepth 100000 in
set_option maxHeartbeats 4000000 in
theorem lc_1 {I : IntM} {J : LngM} {i : Nat} {Q : LW.ScrT} (h : Inv I J) (hi : i + 6 ≤ Q.2.1) (k : ∀ I' J', Inv I' J' → VL 1527 (lcL i) [] I' J' Q) : VL 273 (lcL i) [] I J Q := by
  obtain ⟨v, hv, hc⟩ := p_lay h (Q.2.2 (i + 1)) (Q.2.2 (i + 2)) (Q.2.2 (i + 3))
  obtain ⟨z, rfl⟩ := KV_int hv rfl
  refine LW.V_al i_L_law_273 rfl ?_
  refine LW.V_sld (i := i) (kk := 1) i_L_law_274 i_L_law_275 i_L_law_276 i_L_law_277 i_L_law_278 rfl (by omega) ?_
  refine LW.V_sld (i := i) (kk := 2) i_L_law_279 i_L_law_280 i_L_law_281 i_L_law_282 i_L_law_283 rfl (by omega) ?_
  refine LW.V_sld (i := i) (kk := 3) i_L_law_284 i_L_law_285 i_L_law_286 i_L_law_287 i_L_law_288 rfl (by omega) ?_
  refine LW.V_callV3 (mc' := 0) (ms' := 0) i_L_law_289 mi_X10_lay hc rfl ⟨_, _, rfl⟩ (by decide) (Nat.le_of_ble_eq_true rfl) (by decide) (by decide) (fun _ _ _ _ _ q => by rw [q.1]; rfl) (fun r sh' R' I1 J1 q => ?_)
  obtain ⟨rfl, rfl, rfl, hc2⟩ := q
  show VL 292 (lcL i) [.int z] I1 J1 Q
  refine LW.V_al i_L_law_292 rfl ?_
  refine LW.V_sld (i := i) (kk := 1) i_L_law_293 i_L_law_294 i_L_law_295 i_L_law_296 i_L_law_297 rfl (by omega) ?_
  refine LW.V_sld (i := i) (kk := 2) i_L_law_298 i_L_law_299 i_L_law_300 i_L_law_301 i_L_law_302 rfl (by omega) ?_
  refine LW.V_sld (i := i) (kk := 3) i_L_law_303 i_L_law_304 i_L_law_305 i_L_law_306 i_L_law_307 rfl (by omega) ?_
  refine LW.V_callV3 (mc' := 0) (ms' := 0) i_L_law_308 mi_X11_lay hc2 rfl ⟨_, _, rfl⟩ (by decide) (Nat.le_of_ble_eq_true rfl) (by decide) (by decide) (fun _ _ _ _ _ q => by rw [q.1]; rfl) (fun r sh' R' I2 J2 q => ?_)
  obtain ⟨rfl, rfl, rfl, h2⟩ := q
  show VL 311 (lcL i) [.int z, .int z] I2 J2 Q
  exact LW.V_ic_eq_t i_L_law_311 rfl (k I2 J2 h2)
set_option maxRecDepth 100000 in
set_option maxHeartbeats 4000000 in
theorem lc_2 {I : IntM} {J : LngM} {i : Nat} {Q : LW.ScrT} (h : Inv I J) (hi : i + 6 ≤ Q.2.1) (k : ∀ I' J', Inv I' J' → VL 1527 (lcL i) [] I' J' Q) : VL 316 (lcL i) [] I J Q := by
  obtain ⟨v, hv, hc⟩ := p_at h (Q.2.2 (i + 1)) (Q.2.2 (i + 2))
  obtain ⟨z, rfl⟩ := KV_int hv rfl
  refine LW.V_al i_L_law_316 rfl ?_
  refine LW.V_sld (i := i) (kk := 1) i_L_law_317 i_L_law_318 i_L_law_319 i_L_law_320 i_L_law_321 rfl (by omega) ?_
  refine LW.V_sld (i := i) (kk := 2) i_L_law_322 i_L_law_323 i_L_law_324 i_L_law_325 i_L_law_326 rfl (by omega) ?_
  refine LW.V_callV2 (mc' := 0) (ms' := 0) i_L_law_327 mi_X10_at hc rfl ⟨_, _, rfl⟩ (by decide) (Nat.le_of_ble_eq_true rfl) (by decide) (by decide) (fun _ _ _ _ _ q => by rw [q.1]; rfl) (fun r sh' R' I1 J1 q => ?_)
  obtain ⟨rfl, rfl, rfl, hc2⟩ := q
  show VL 330 (lcL i) [.int z] I1 J1 Q
  refine LW.V_al i_L_law_330 rfl ?_
  refine LW.V_sld (i := i) (kk := 1) i_L_law_331 i_L_law_332 i_L_law_333 i_L_law_334 i_L_law_335 rfl (by omega) ?_
  refine LW.V_sld (i := i) (kk := 2) i_L_law_336 i_L_law_337 i_L_law_338 i_L_law_339 i_L_law_340 rfl (by omega) ?_
  refine LW.V_callV2 (mc' := 0) (ms' := 0) i_L_law_341 mi_X11_at hc2 rfl ⟨_, _, rfl⟩ (by decide) (Nat.le_of_ble_eq_true rfl) (by decide) (by decide) (fun _ _ _ _ _ q => by rw [q.1]; rfl) (fun r sh' R' I2 J2 q => ?_)
  obtain ⟨rfl, rfl, rfl, h2⟩ := q
  show VL 344 (lcL i) [.int z, .int z] I2 J2 Q
  exact LW.V_ic_eq_t i_L_law_344 rfl (k I2 J2 h2)
set_option maxRecDepth 100000 in
set_option maxHeartbeats 4000000 in
theorem lc_3 {I : IntM} {J : LngM} {i : Nat} {Q : LW.ScrT} (h : Inv I J) (hi : i + 6 ≤ Q.2.1) (k : ∀ I' J', Inv I' J' → VL 1527 (lcL i) [] I' J' Q) : VL 349 (lcL i) [] I J Q := by
  obtain ⟨v, hv, hc⟩ := p_tear h (Q.2.2 (i + 1))
  obtain ⟨z, rfl⟩ := KV_int hv rfl
  refine LW.V_al i_L_law_349 rfl ?_
  refine LW.V_sld (i := i) (kk := 1) i_L_law_350 i_L_law_351 i_L_law_352 i_L_law_353 i_L_law_354 rfl (by omega) ?_
  refine LW.V_callV1 (mc' := 0) (ms' := 0) i_L_law_355 mi_X10_tear hc rfl ⟨_, _, rfl⟩ (by decide) (Nat.le_of_ble_eq_true rfl) (by decide) (by decide) (fun _ _ _ _ _ q => by rw [q.1]; rfl) (fun r sh' R' I1 J1 q => ?_)
  obtain ⟨rfl, rfl, rfl, hc2⟩ := q
  show VL 358 (lcL i) [.int z] I1 J1 Q
  refine LW.V_al i_L_law_358 rfl ?_
  refine LW.V_sld (i := i) (kk := 1) i_L_law_359 i_L_law_360 i_L_law_361 i_L_law_362 i_L_law_363 rfl (by omega) ?_
  refine LW.V_callV1 (mc' := 0) (ms' := 0) i_L_law_364 mi_X11_tear hc2 rfl ⟨_, _, rfl⟩ (by decide) (Nat.le_of_ble_eq_true rfl) (by decide) (by decide) (fun _ _ _ _ _ q => by rw [q.1]; rfl) (fun r sh' R' I2 J2 q => ?_)
  obtain ⟨rfl, rfl, rfl, h2⟩ := q
  show VL 367 (lcL i) [.int z, .int z] I2 J2 Q
  exact LW.V_ic_eq_t i_L_law_367 rfl (k I2 J2 h2)
set_option maxRecDepth 100000 in
set_option maxHeartbeats 4000000 in
theorem lc_4 {I : IntM} {J : LngM} {i : Nat} {Q : LW.ScrT} (h : Inv I J) (hi : i + 6 ≤ Q.2.1) (k : ∀ I' J', Inv I' J' → VL 1527 (lcL i) [] I' J' Q) : VL 372 (lcL i) [] I J Q := by
  obtain ⟨v, hv, hc⟩ := p_copy h (Q.2.2 (i + 1)) (Q.2.2 (i + 2)) (Q.2.2 (i + 3)) (Q.2.2 (i + 4)) (Q.2.2 (i + 5))
  obtain ⟨z, rfl⟩ := KV_int hv rfl
  refine LW.V_al i_L_law_372 rfl ?_
  refine LW.V_sld (i := i) (kk := 1) i_L_law_373 i_L_law_374 i_L_law_375 i_L_law_376 i_L_law_377 rfl (by omega) ?_
  refine LW.V_sld (i := i) (kk := 2) i_L_law_378 i_L_law_379 i_L_law_380 i_L_law_381 i_L_law_382 rfl (by omega) ?_
  refine LW.V_sld (i := i) (kk := 3) i_L_law_383 i_L_law_384 i_L_law_385 i_L_law_386 i_L_law_387 rfl (by omega) ?_
  refine LW.V_sld (i := i) (kk := 4) i_L_law_388 i_L_law_389 i_L_law_390 i_L_law_391 i_L_law_392 rfl (by omega) ?_
  refine LW.V_sld (i := i) (kk := 5) i_L_law_393 i_L_law_394 i_L_law_395 i_L_law_396 i_L_law_397 rfl (by omega) ?_
  refine LW.V_callV5 (mc' := 0) (ms' := 0) i_L_law_398 mi_X10_copy hc rfl ⟨_, _, rfl⟩ (by decide) (Nat.le_of_ble_eq_true rfl) (by decide) (by decide) (fun _ _ _ _ _ q => by rw [q.1]; rfl) (fun r sh' R' I1 J1 q => ?_)
  obtain ⟨rfl, rfl, rfl, hc2⟩ := q
  show VL 401 (lcL i) [.int z] I1 J1 Q
  refine LW.V_al i_L_law_401 rfl ?_
  refine LW.V_sld (i := i) (kk := 1) i_L_law_402 i_L_law_403 i_L_law_404 i_L_law_405 i_L_law_406 rfl (by omega) ?_
  refine LW.V_sld (i := i) (kk := 2) i_L_law_407 i_L_law_408 i_L_law_409 i_L_law_410 i_L_law_411 rfl (by omega) ?_
  refine LW.V_sld (i := i) (kk := 3) i_L_law_412 i_L_law_413 i_L_law_414 i_L_law_415 i_L_law_416 rfl (by omega) ?_
  refine LW.V_sld (i := i) (kk := 4) i_L_law_417 i_L_law_418 i_L_law_419 i_L_law_420 i_L_law_421 rfl (by omega) ?_
  refine LW.V_sld (i := i) (kk := 5) i_L_law_422 i_L_law_423 i_L_law_424 i_L_law_425 i_L_law_426 rfl (by omega) ?_
  refine LW.V_callV5 (mc' := 0) (ms' := 0) i_L_law_427 mi_X11_copy hc2 rfl ⟨_, _, rfl⟩ (by decide) (Nat.le_of_ble_eq_true rfl) (by decide) (by decide) (fun _ _ _ _ _ q => by rw [q.1]; rfl) (fun r sh' R' I2 J2 q => ?_)
  obtain ⟨rfl, rfl, rfl, h2⟩ := q
  show VL 430 (lcL i) [.int z, .int z] I2 J2 Q
  exact LW.V_ic_eq_t i_L_law_430 rfl (k I2 J2 h2)
set_option maxRecDepth 100000 in
set_option maxHeartbeats 4000000 in
theorem lc_5 {I : IntM} {J : LngM} {i : Nat} {Q : LW.ScrT} (h : Inv I J) (hi : i + 6 ≤ Q.2.1) (k : ∀ I' J', Inv I' J' → VL 1527 (lcL i) [] I' J' Q) : VL 435 (lcL i) [] I J Q := by
  obtain ⟨v, hv, hc⟩ := p_mean h (Q.2.2 (i + 1))
  obtain ⟨z, rfl⟩ := KV_int hv rfl
  refine LW.V_al i_L_law_435 rfl ?_
  refine LW.V_sld (i := i) (kk := 1) i_L_law_436 i_L_law_437 i_L_law_438 i_L_law_439 i_L_law_440 rfl (by omega) ?_
  refine LW.V_callV1 (mc' := 0) (ms' := 0) i_L_law_441 mi_X10_mean hc rfl ⟨_, _, rfl⟩ (by decide) (Nat.le_of_ble_eq_true rfl) (by decide) (by decide) (fun _ _ _ _ _ q => by rw [q.1]; rfl) (fun r sh' R' I1 J1 q => ?_)
  obtain ⟨rfl, rfl, rfl, hc2⟩ := q
  show VL 444 (lcL i) [.int z] I1 J1 Q
  refine LW.V_al i_L_law_444 rfl ?_
  refine LW.V_sld (i := i) (kk := 1) i_L_law_445 i_L_law_446 i_L_law_447 i_L_law_448 i_L_law_449 rfl (by omega) ?_
  refine LW.V_callV1 (mc' := 0) (ms' := 0) i_L_law_450 mi_X11_mean hc2 rfl ⟨_, _, rfl⟩ (by decide) (Nat.le_of_ble_eq_true rfl) (by decide) (by decide) (fun _ _ _ _ _ q => by rw [q.1]; rfl) (fun r sh' R' I2 J2 q => ?_)
  obtain ⟨rfl, rfl, rfl, h2⟩ := q
  show VL 453 (lcL i) [.int z, .int z] I2 J2 Q
  exact LW.V_ic_eq_t i_L_law_453 rfl (k I2 J2 h2)
set_option maxRecDepth 100000 in
set_option maxHeartbeats 4000000 in
theorem lc_6 {I : IntM} {J : LngM} {i : Nat} {Q : LW.ScrT} (h : Inv I J) (hi : i + 6 ≤ Q.2.1) (k : ∀ I' J', Inv I' J' → VL 1527 (lcL i) [] I' J' Q) : VL 458 (lcL i) [] I J Q := by
  obtain ⟨v, hv, hc⟩ := p_text h (Q.2.2 (i + 1)) (Q.2.2 (i + 2))
  obtain ⟨z, rfl⟩ := KV_int hv rfl
  refine LW.V_al i_L_law_458 rfl ?_
  refine LW.V_sld (i := i) (kk := 1) i_L_law_459 i_L_law_460 i_L_law_461 i_L_law_462 i_L_law_463 rfl (by omega) ?_
  refine LW.V_sld (i := i) (kk := 2) i_L_law_464 i_L_law_465 i_L_law_466 i_L_law_467 i_L_law_468 rfl (by omega) ?_
  refine LW.V_callV2 (mc' := 0) (ms' := 0) i_L_law_469 mi_X10_text hc rfl ⟨_, _, rfl⟩ (by decide) (Nat.le_of_ble_eq_true rfl) (by decide) (by decide) (fun _ _ _ _ _ q => by rw [q.1]; rfl) (fun r sh' R' I1 J1 q => ?_)
  obtain ⟨rfl, rfl, rfl, hc2⟩ := q
  show VL 472 (lcL i) [.int z] I1 J1 Q
  refine LW.V_al i_L_law_472 rfl ?_
  refine LW.V_sld (i := i) (kk := 1) i_L_law_473 i_L_law_474 i_L_law_475 i_L_law_476 i_L_law_477 rfl (by omega) ?_
  refine LW.V_sld (i := i) (kk := 2) i_L_law_478 i_L_law_479 i_L_law_480 i_L_law_481 i_L_law_482 rfl (by omega) ?_
  refine LW.V_callV2 (mc' := 0) (ms' := 0) i_L_law_483 mi_X11_text hc2 rfl ⟨_, _, rfl⟩ (by decide) (Nat.le_of_ble_eq_true rfl) (by decide) (by decide) (fun _ _ _ _ _ q => by rw [q.1]; rfl) (fun r sh' R' I2 J2 q => ?_)
  obtain ⟨rfl, rfl, rfl, h2⟩ := q
  show VL 486 (lcL i) [.int z, .int z] I2 J2 Q
  exact LW.V_ic_eq_t i_L_law_486 rfl (k I2 J2 h2)
set_option maxRecDepth 100000 in
set_option maxHeartbeats 4000000 in
theorem lc_7 {I : IntM} {J : LngM} {i : Nat} {Q : LW.ScrT} (h : Inv I J) (hi : i + 6 ≤ Q.2.1) (k : ∀ I' J', Inv I' J' → VL 1527 (lcL i) [] I' J' Q) : VL 491 (lcL i) [] I J Q := by
  obtain ⟨v, hv, hc⟩ := p_put h (Q.2.2 (i + 1)) (Q.2.2 (i + 2)) (Q.2.2 (i + 3))
  obtain ⟨z, rfl⟩ := KV_int hv rfl
  refine LW.V_al i_L_law_491 rfl ?_
  refine LW.V_sld (i := i) (kk := 1) i_L_law_492 i_L_law_493 i_L_law_494 i_L_law_495 i_L_law_496 rfl (by omega) ?_
  refine LW.V_sld (i := i) (kk := 2) i_L_law_497 i_L_law_498 i_L_law_499 i_L_law_500 i_L_law_501 rfl (by omega) ?_
  refine LW.V_sld (i := i) (kk := 3) i_L_law_502 i_L_law_503 i_L_law_504 i_L_law_505 i_L_law_506 rfl (by omega) ?_
  refine LW.V_callV3 (mc' := 0) (ms' := 0) i_L_law_507 mi_X10_put hc rfl ⟨_, _, rfl⟩ (by decide) (Nat.le_of_ble_eq_true rfl) (by decide) (by decide) (fun _ _ _ _ _ q => by rw [q.1]; rfl) (fun r sh' R' I1 J1 q => ?_)
  obtain ⟨rfl, rfl, rfl, hc2⟩ := q
  show VL 510 (lcL i) [.int z] I1 J1 Q
  refine LW.V_al i_L_law_510 rfl ?_
  refine LW.V_sld (i := i) (kk := 1) i_L_law_511 i_L_law_512 i_L_law_513 i_L_law_514 i_L_law_515 rfl (by omega) ?_
  refine LW.V_sld (i := i) (kk := 2) i_L_law_516 i_L_law_517 i_L_law_518 i_L_law_519 i_L_law_520 rfl (by omega) ?_
  refine LW.V_sld (i := i) (kk := 3) i_L_law_521 i_L_law_522 i_L_law_523 i_L_law_524 i_L_law_525 rfl (by omega) ?_
  refine LW.V_callV3 (mc' := 0) (ms' := 0) i_L_law_526 mi_X11_put hc2 rfl ⟨_, _, rfl⟩ (by decide) (Nat.le_of_ble_eq_true rfl) (by decide) (by decide) (fun _ _ _ _ _ q => by rw [q.1]; rfl) (fun r sh' R' I2 J2 q => ?_)
  obtain ⟨rfl, rfl, rfl, h2⟩ := q
  show VL 529 (lcL i) [.int z, .int z] I2 J2 Q
  exact LW.V_ic_eq_t i_L_law_529 rfl (k I2 J2 h2)
set_option maxRecDepth 100000 in
set_option maxHeartbeats 4000000 in
theorem lc_8 {I : IntM} {J : LngM} {i : Nat} {Q : LW.ScrT} (h : Inv I J) (hi : i + 6 ≤ Q.2.1) (k : ∀ I' J', Inv I' J' → VL 1527 (lcL i) [] I' J' Q) : VL 534 (lcL i) [] I J Q := by
  obtain ⟨v, hv, hc⟩ := p_fault h (Q.2.2 (i + 1))
  obtain ⟨z, rfl⟩ := KV_int hv rfl
  refine LW.V_al i_L_law_534 rfl ?_
  refine LW.V_sld (i := i) (kk := 1) i_L_law_535 i_L_law_536 i_L_law_537 i_L_law_538 i_L_law_539 rfl (by omega) ?_
  refine LW.V_callV1 (mc' := 0) (ms' := 0) i_L_law_540 mi_X10_fault hc rfl ⟨_, _, rfl⟩ (by decide) (Nat.le_of_ble_eq_true rfl) (by decide) (by decide) (fun _ _ _ _ _ q => by rw [q.1]; rfl) (fun r sh' R' I1 J1 q => ?_)
  obtain ⟨rfl, rfl, rfl, hc2⟩ := q
  show VL 543 (lcL i) [.int z] I1 J1 Q
  refine LW.V_al i_L_law_543 rfl ?_
  refine LW.V_sld (i := i) (kk := 1) i_L_law_544 i_L_law_545 i_L_law_546 i_L_law_547 i_L_law_548 rfl (by omega) ?_
  refine LW.V_callV1 (mc' := 0) (ms' := 0) i_L_law_549 mi_X11_fault hc2 rfl ⟨_, _, rfl⟩ (by decide) (Nat.le_of_ble_eq_true rfl) (by decide) (by decide) (fun _ _ _ _ _ q => by rw [q.1]; rfl) (fun r sh' R' I2 J2 q => ?_)
  obtain ⟨rfl, rfl, rfl, h2⟩ := q
  show VL 552 (lcL i) [.int z, .int z] I2 J2 Q
  exact LW.V_ic_eq_t i_L_law_552 rfl (k I2 J2 h2)
set_option maxRecDepth 100000 in
set_option maxHeartbeats 4000000 in
theorem lc_9 {I : IntM} {J : LngM} {i : Nat} {Q : LW.ScrT} (h : Inv I J) (hi : i + 6 ≤ Q.2.1) (k : ∀ I' J', Inv I' J' → VL 1527 (lcL i) [] I' J' Q) : VL 557 (lcL i) [] I J Q := by
  obtain ⟨v, hv, hc⟩ := p_table h (Q.2.2 (i + 1))
  obtain ⟨z, rfl⟩ := KV_int hv rfl
  refine LW.V_al i_L_law_557 rfl ?_
  refine LW.V_sld (i := i) (kk := 1) i_L_law_558 i_L_law_559 i_L_law_560 i_L_law_561 i_L_law_562 rfl (by omega) ?_
  refine LW.V_callV1 (mc' := 0) (ms' := 0) i_L_law_563 mi_X10_table hc rfl ⟨_, _, rfl⟩ (by decide) (Nat.le_of_ble_eq_true rfl) (by decide) (by decide) (fun _ _ _ _ _ q => by rw [q.1]; rfl) (fun r sh' R' I1 J1 q => ?_)
  obtain ⟨rfl, rfl, rfl, hc2⟩ := q
  show VL 566 (lcL i) [.int z] I1 J1 Q
  refine LW.V_al i_L_law_566 rfl ?_
  refine LW.V_sld (i := i) (kk := 1) i_L_law_567 i_L_law_568 i_L_law_569 i_L_law_570 i_L_law_571 rfl (by omega) ?_
  refine LW.V_callV1 (mc' := 0) (ms' := 0) i_L_law_572 mi_X11_table hc2 rfl ⟨_, _, rfl⟩ (by decide) (Nat.le_of_ble_eq_true rfl) (by decide) (by decide) (fun _ _ _ _ _ q => by rw [q.1]; rfl) (fun r sh' R' I2 J2 q => ?_)
  obtain ⟨rfl, rfl, rfl, h2⟩ := q
  show VL 575 (lcL i) [.int z, .int z] I2 J2 Q
  exact LW.V_ic_eq_t i_L_law_575 rfl (k I2 J2 h2)
set_option maxRecDepth 100000 in
set_option maxHeartbeats 4000000 in
theorem lc_10 {I : IntM} {J : LngM} {i : Nat} {Q : LW.ScrT} (h : Inv I J) (hi : i + 6 ≤ Q.2.1) (k : ∀ I' J', Inv I' J' → VL 1527 (lcL i) [] I' J' Q) : VL 580 (lcL i) [] I J Q := by
  obtain ⟨v, hv, hc⟩ := p_eater h (Q.2.2 (i + 1)) (Q.2.2 (i + 2))
  obtain ⟨z, rfl⟩ := KV_int hv rfl
  refine LW.V_al i_L_law_580 rfl ?_
  refine LW.V_sld (i := i) (kk := 1) i_L_law_581 i_L_law_582 i_L_law_583 i_L_law_584 i_L_law_585 rfl (by omega) ?_
  refine LW.V_sld (i := i) (kk := 2) i_L_law_586 i_L_law_587 i_L_law_588 i_L_law_589 i_L_law_590 rfl (by omega) ?_
  refine LW.V_callV2 (mc' := 0) (ms' := 0) i_L_law_591 mi_X10_eater hc rfl ⟨_, _, rfl⟩ (by decide) (Nat.le_of_ble_eq_true rfl) (by decide) (by decide) (fun _ _ _ _ _ q => by rw [q.1]; rfl) (fun r sh' R' I1 J1 q => ?_)
  obtain ⟨rfl, rfl, rfl, hc2⟩ := q
  show VL 594 (lcL i) [.int z] I1 J1 Q
  refine LW.V_al i_L_law_594 rfl ?_
  refine LW.V_sld (i := i) (kk := 1) i_L_law_595 i_L_law_596 i_L_law_597 i_L_law_598 i_L_law_599 rfl (by omega) ?_
  refine LW.V_sld (i := i) (kk := 2) i_L_law_600 i_L_law_601 i_L_law_602 i_L_law_603 i_L_law_604 rfl (by omega) ?_
  refine LW.V_callV2 (mc' := 0) (ms' := 0) i_L_law_605 mi_X11_eater hc2 rfl ⟨_, _, rfl⟩ (by decide) (Nat.le_of_ble_eq_true rfl) (by decide) (by decide) (fun _ _ _ _ _ q => by rw [q.1]; rfl) (fun r sh' R' I2 J2 q => ?_)
  obtain ⟨rfl, rfl, rfl, h2⟩ := q
  show VL 608 (lcL i) [.int z, .int z] I2 J2 Q
  exact LW.V_ic_eq_t i_L_law_608 rfl (k I2 J2 h2)
set_option maxRecDepth 100000 in
set_option maxHeartbeats 4000000 in
theorem lc_11 {I : IntM} {J : LngM} {i : Nat} {Q : LW.ScrT} (h : Inv I J) (hi : i + 6 ≤ Q.2.1) (k : ∀ I' J', Inv I' J' → VL 1527 (lcL i) [] I' J' Q) : VL 613 (lcL i) [] I J Q := by
  obtain ⟨v, hv, hc⟩ := p_mark h (Q.2.2 (i + 1)) (Q.2.2 (i + 2))
  obtain ⟨z, rfl⟩ := KV_int hv rfl
  refine LW.V_al i_L_law_613 rfl ?_
  refine LW.V_sld (i := i) (kk := 1) i_L_law_614 i_L_law_615 i_L_law_616 i_L_law_617 i_L_law_618 rfl (by omega) ?_
  refine LW.V_sld (i := i) (kk := 2) i_L_law_619 i_L_law_620 i_L_law_621 i_L_law_622 i_L_law_623 rfl (by omega) ?_
  refine LW.V_callV2 (mc' := 0) (ms' := 0) i_L_law_624 mi_X10_mark hc rfl ⟨_, _, rfl⟩ (by decide) (Nat.le_of_ble_eq_true rfl) (by decide) (by decide) (fun _ _ _ _ _ q => by rw [q.1]; rfl) (fun r sh' R' I1 J1 q => ?_)
  obtain ⟨rfl, rfl, rfl, hc2⟩ := q
  show VL 627 (lcL i) [.int z] I1 J1 Q
  refine LW.V_al i_L_law_627 rfl ?_
  refine LW.V_sld (i := i) (kk := 1) i_L_law_628 i_L_law_629 i_L_law_630 i_L_law_631 i_L_law_632 rfl (by omega) ?_
  refine LW.V_sld (i := i) (kk := 2) i_L_law_633 i_L_law_634 i_L_law_635 i_L_law_636 i_L_law_637 rfl (by omega) ?_
  refine LW.V_callV2 (mc' := 0) (ms' := 0) i_L_law_638 mi_X11_mark hc2 rfl ⟨_, _, rfl⟩ (by decide) (Nat.le_of_ble_eq_true rfl) (by decide) (by decide) (fun _ _ _ _ _ q => by rw [q.1]; rfl) (fun r sh' R' I2 J2 q => ?_)
  obtain ⟨rfl, rfl, rfl, h2⟩ := q
  show VL 641 (lcL i) [.int z, .int z] I2 J2 Q
  exact LW.V_ic_eq_t i_L_law_641 rfl (k I2 J2 h2)
set_option maxRecDepth 100000 in
set_option maxHeartbeats 4000000 in
theorem lc_12 {I : IntM} {J : LngM} {i : Nat} {Q : LW.ScrT} (h : Inv I J) (hi : i + 6 ≤ Q.2.1) (k : ∀ I' J', Inv I' J' → VL 1527 (lcL i) [] I' J' Q) : VL 646 (lcL i) [] I J Q := by
  obtain ⟨v, hv, hc⟩ := p_law h (Q.2.2 (i + 1))
  obtain ⟨z, rfl⟩ := KV_int hv rfl
  refine LW.V_al i_L_law_646 rfl ?_
  refine LW.V_sld (i := i) (kk := 1) i_L_law_647 i_L_law_648 i_L_law_649 i_L_law_650 i_L_law_651 rfl (by omega) ?_
  refine LW.V_callV1 (mc' := 0) (ms' := 0) i_L_law_652 mi_X10_law hc rfl ⟨_, _, rfl⟩ (by decide) (Nat.le_of_ble_eq_true rfl) (by decide) (by decide) (fun _ _ _ _ _ q => by rw [q.1]; rfl) (fun r sh' R' I1 J1 q => ?_)
  obtain ⟨rfl, rfl, rfl, hc2⟩ := q
  show VL 655 (lcL i) [.int z] I1 J1 Q
  refine LW.V_al i_L_law_655 rfl ?_
  refine LW.V_sld (i := i) (kk := 1) i_L_law_656 i_L_law_657 i_L_law_658 i_L_law_659 i_L_law_660 rfl (by omega) ?_
  refine LW.V_callV1 (mc' := 0) (ms' := 0) i_L_law_661 mi_X11_law hc2 rfl ⟨_, _, rfl⟩ (by decide) (Nat.le_of_ble_eq_true rfl) (by decide) (by decide) (fun _ _ _ _ _ q => by rw [q.1]; rfl) (fun r sh' R' I2 J2 q => ?_)
  obtain ⟨rfl, rfl, rfl, h2⟩ := q
  show VL 664 (lcL i) [.int z, .int z] I2 J2 Q
  exact LW.V_ic_eq_t i_L_law_664 rfl (k I2 J2 h2)
set_option maxRecDepth 100000 in
set_option maxHeartbeats 4000000 in
theorem lc_13 {I : IntM} {J : LngM} {i : Nat} {Q : LW.ScrT} (h : Inv I J) (hi : i + 6 ≤ Q.2.1) (k : ∀ I' J', Inv I' J' → VL 1527 (lcL i) [] I' J' Q) : VL 669 (lcL i) [] I J Q := by
  obtain ⟨v, hv, hc⟩ := p_pot h (Q.2.2 (i + 1))
  obtain ⟨z, rfl⟩ := KV_int hv rfl
  refine LW.V_al i_L_law_669 rfl ?_
  refine LW.V_sld (i := i) (kk := 1) i_L_law_670 i_L_law_671 i_L_law_672 i_L_law_673 i_L_law_674 rfl (by omega) ?_
  refine LW.V_callV1 (mc' := 0) (ms' := 0) i_L_law_675 mi_X10_pot hc rfl ⟨_, _, rfl⟩ (by decide) (Nat.le_of_ble_eq_true rfl) (by decide) (by decide) (fun _ _ _ _ _ q => by rw [q.1]; rfl) (fun r sh' R' I1 J1 q => ?_)
  obtain ⟨rfl, rfl, rfl, hc2⟩ := q
  show VL 678 (lcL i) [.int z] I1 J1 Q
  refine LW.V_al i_L_law_678 rfl ?_
  refine LW.V_sld (i := i) (kk := 1) i_L_law_679 i_L_law_680 i_L_law_681 i_L_law_682 i_L_law_683 rfl (by omega) ?_
  refine LW.V_callV1 (mc' := 0) (ms' := 0) i_L_law_684 mi_X11_pot hc2 rfl ⟨_, _, rfl⟩ (by decide) (Nat.le_of_ble_eq_true rfl) (by decide) (by decide) (fun _ _ _ _ _ q => by rw [q.1]; rfl) (fun r sh' R' I2 J2 q => ?_)
  obtain ⟨rfl, rfl, rfl, h2⟩ := q
  show VL 687 (lcL i) [.int z, .int z] I2 J2 Q
  exact LW.V_ic_eq_t i_L_law_687 rfl (k I2 J2 h2)
set_option maxRecDepth 100000 in
set_option maxHeartbeats 4000000 in
theorem lc_14 {I : IntM} {J : LngM} {i : Nat} {Q : LW.ScrT} (h : Inv I J) (hi : i + 6 ≤ Q.2.1) (k : ∀ I' J', Inv I' J' → VL 1527 (lcL i) [] I' J' Q) : VL 692 (lcL i) [] I J Q := by
  obtain ⟨v, hv, hc⟩ := p_need h (Q.2.2 (i + 1)) (Q.2.2 (i + 2))
  obtain ⟨z, rfl⟩ := KV_int hv rfl
  refine LW.V_al i_L_law_692 rfl ?_
  refine LW.V_sld (i := i) (kk := 1) i_L_law_693 i_L_law_694 i_L_law_695 i_L_law_696 i_L_law_697 rfl (by omega) ?_
  refine LW.V_sld (i := i) (kk := 2) i_L_law_698 i_L_law_699 i_L_law_700 i_L_law_701 i_L_law_702 rfl (by omega) ?_
  refine LW.V_callV2 (mc' := 0) (ms' := 0) i_L_law_703 mi_X10_need hc rfl ⟨_, _, rfl⟩ (by decide) (Nat.le_of_ble_eq_true rfl) (by decide) (by decide) (fun _ _ _ _ _ q => by rw [q.1]; rfl) (fun r sh' R' I1 J1 q => ?_)
  obtain ⟨rfl, rfl, rfl, hc2⟩ := q
  show VL 706 (lcL i) [.int z] I1 J1 Q
  refine LW.V_al i_L_law_706 rfl ?_
  refine LW.V_sld (i := i) (kk := 1) i_L_law_707 i_L_law_708 i_L_law_709 i_L_law_710 i_L_law_711 rfl (by omega) ?_
  refine LW.V_sld (i := i) (kk := 2) i_L_law_712 i_L_law_713 i_L_law_714 i_L_law_715 i_L_law_716 rfl (by omega) ?_
  refine LW.V_callV2 (mc' := 0) (ms' := 0) i_L_law_717 mi_X11_need hc2 rfl ⟨_, _, rfl⟩ (by decide) (Nat.le_of_ble_eq_true rfl) (by decide) (by decide) (fun _ _ _ _ _ q => by rw [q.1]; rfl) (fun r sh' R' I2 J2 q => ?_)
  obtain ⟨rfl, rfl, rfl, h2⟩ := q
  show VL 720 (lcL i) [.int z, .int z] I2 J2 Q
  exact LW.V_ic_eq_t i_L_law_720 rfl (k I2 J2 h2)
set_option maxRecDepth 100000 in
set_option maxHeartbeats 4000000 in
theorem lc_15 {I : IntM} {J : LngM} {i : Nat} {Q : LW.ScrT} (h : Inv I J) (hi : i + 6 ≤ Q.2.1) (k : ∀ I' J', Inv I' J' → VL 1527 (lcL i) [] I' J' Q) : VL 725 (lcL i) [] I J Q := by
  obtain ⟨v, hv, hc⟩ := p_order h (Q.2.2 (i + 1))
  obtain ⟨z, rfl⟩ := KV_int hv rfl
  refine LW.V_al i_L_law_725 rfl ?_
  refine LW.V_sld (i := i) (kk := 1) i_L_law_726 i_L_law_727 i_L_law_728 i_L_law_729 i_L_law_730 rfl (by omega) ?_
  refine LW.V_callV1 (mc' := 0) (ms' := 0) i_L_law_731 mi_X10_order hc rfl ⟨_, _, rfl⟩ (by decide) (Nat.le_of_ble_eq_true rfl) (by decide) (by decide) (fun _ _ _ _ _ q => by rw [q.1]; rfl) (fun r sh' R' I1 J1 q => ?_)
  obtain ⟨rfl, rfl, rfl, hc2⟩ := q
  show VL 734 (lcL i) [.int z] I1 J1 Q
  refine LW.V_al i_L_law_734 rfl ?_
  refine LW.V_sld (i := i) (kk := 1) i_L_law_735 i_L_law_736 i_L_law_737 i_L_law_738 i_L_law_739 rfl (by omega) ?_
  refine LW.V_callV1 (mc' := 0) (ms' := 0) i_L_law_740 mi_X11_order hc2 rfl ⟨_, _, rfl⟩ (by decide) (Nat.le_of_ble_eq_true rfl) (by decide) (by decide) (fun _ _ _ _ _ q => by rw [q.1]; rfl) (fun r sh' R' I2 J2 q => ?_)
  obtain ⟨rfl, rfl, rfl, h2⟩ := q
  show VL 743 (lcL i) [.int z, .int z] I2 J2 Q
  exact LW.V_ic_eq_t i_L_law_743 rfl (k I2 J2 h2)
set_option maxRecDepth 100000 in
set_option maxHeartbeats 4000000 in
theorem lc_16 {I : IntM} {J : LngM} {i : Nat} {Q : LW.ScrT} (h : Inv I J) (hi : i + 6 ≤ Q.2.1) (k : ∀ I' J', Inv I' J' → VL 1527 (lcL i) [] I' J' Q) : VL 748 (lcL i) [] I J Q := by
  obtain ⟨v, hv, hc⟩ := p_begin h (Q.2.2 (i + 1))
  obtain ⟨z, rfl⟩ := KV_int hv rfl
  refine LW.V_al i_L_law_748 rfl ?_
  refine LW.V_sld (i := i) (kk := 1) i_L_law_749 i_L_law_750 i_L_law_751 i_L_law_752 i_L_law_753 rfl (by omega) ?_
  refine LW.V_callV1 (mc' := 0) (ms' := 0) i_L_law_754 mi_X10_begin hc rfl ⟨_, _, rfl⟩ (by decide) (Nat.le_of_ble_eq_true rfl) (by decide) (by decide) (fun _ _ _ _ _ q => by rw [q.1]; rfl) (fun r sh' R' I1 J1 q => ?_)
  obtain ⟨rfl, rfl, rfl, hc2⟩ := q
  show VL 757 (lcL i) [.int z] I1 J1 Q
  refine LW.V_al i_L_law_757 rfl ?_
  refine LW.V_sld (i := i) (kk := 1) i_L_law_758 i_L_law_759 i_L_law_760 i_L_law_761 i_L_law_762 rfl (by omega) ?_
  refine LW.V_callV1 (mc' := 0) (ms' := 0) i_L_law_763 mi_X11_begin hc2 rfl ⟨_, _, rfl⟩ (by decide) (Nat.le_of_ble_eq_true rfl) (by decide) (by decide) (fun _ _ _ _ _ q => by rw [q.1]; rfl) (fun r sh' R' I2 J2 q => ?_)
  obtain ⟨rfl, rfl, rfl, h2⟩ := q
  show VL 766 (lcL i) [.int z, .int z] I2 J2 Q
  exact LW.V_ic_eq_t i_L_law_766 rfl (k I2 J2 h2)
set_option maxRecDepth 100000 in
set_option maxHeartbeats 4000000 in
theorem lc_17 {I : IntM} {J : LngM} {i : Nat} {Q : LW.ScrT} (h : Inv I J) (hi : i + 6 ≤ Q.2.1) (k : ∀ I' J', Inv I' J' → VL 1527 (lcL i) [] I' J' Q) : VL 771 (lcL i) [] I J Q := by
  obtain ⟨v, hv, hc⟩ := p_eat h
  obtain ⟨z, rfl⟩ := KV_int hv rfl
  refine LW.V_al i_L_law_771 rfl ?_
  refine LW.V_callV0 (mc' := 0) (ms' := 0) i_L_law_772 mi_X10_eat hc rfl ⟨_, _, rfl⟩ (by decide) (Nat.le_of_ble_eq_true rfl) (by decide) (by decide) (fun _ _ _ _ _ q => by rw [q.1]; rfl) (fun r sh' R' I1 J1 q => ?_)
  obtain ⟨rfl, rfl, rfl, hc2⟩ := q
  show VL 775 (lcL i) [.int z] I1 J1 Q
  refine LW.V_al i_L_law_775 rfl ?_
  refine LW.V_callV0 (mc' := 0) (ms' := 0) i_L_law_776 mi_X11_eat hc2 rfl ⟨_, _, rfl⟩ (by decide) (Nat.le_of_ble_eq_true rfl) (by decide) (by decide) (fun _ _ _ _ _ q => by rw [q.1]; rfl) (fun r sh' R' I2 J2 q => ?_)
  obtain ⟨rfl, rfl, rfl, h2⟩ := q
  show VL 779 (lcL i) [.int z, .int z] I2 J2 Q
  exact LW.V_ic_eq_t i_L_law_779 rfl (k I2 J2 h2)
set_option maxRecDepth 100000 in
set_option maxHeartbeats 4000000 in
theorem lc_18 {I : IntM} {J : LngM} {i : Nat} {Q : LW.ScrT} (h : Inv I J) (hi : i + 6 ≤ Q.2.1) (k : ∀ I' J', Inv I' J' → VL 1527 (lcL i) [] I' J' Q) : VL 784 (lcL i) [] I J Q := by
  obtain ⟨v, hv, hc⟩ := p_took h (Q.2.2 (i + 1))
  obtain ⟨z, rfl⟩ := KV_int hv rfl
  refine LW.V_al i_L_law_784 rfl ?_
  refine LW.V_sld (i := i) (kk := 1) i_L_law_785 i_L_law_786 i_L_law_787 i_L_law_788 i_L_law_789 rfl (by omega) ?_
  refine LW.V_callV1 (mc' := 0) (ms' := 0) i_L_law_790 mi_X10_took hc rfl ⟨_, _, rfl⟩ (by decide) (Nat.le_of_ble_eq_true rfl) (by decide) (by decide) (fun _ _ _ _ _ q => by rw [q.1]; rfl) (fun r sh' R' I1 J1 q => ?_)
  obtain ⟨rfl, rfl, rfl, hc2⟩ := q
  show VL 793 (lcL i) [.int z] I1 J1 Q
  refine LW.V_al i_L_law_793 rfl ?_
  refine LW.V_sld (i := i) (kk := 1) i_L_law_794 i_L_law_795 i_L_law_796 i_L_law_797 i_L_law_798 rfl (by omega) ?_
  refine LW.V_callV1 (mc' := 0) (ms' := 0) i_L_law_799 mi_X11_took hc2 rfl ⟨_, _, rfl⟩ (by decide) (Nat.le_of_ble_eq_true rfl) (by decide) (by decide) (fun _ _ _ _ _ q => by rw [q.1]; rfl) (fun r sh' R' I2 J2 q => ?_)
  obtain ⟨rfl, rfl, rfl, h2⟩ := q
  show VL 802 (lcL i) [.int z, .int z] I2 J2 Q
  exact LW.V_ic_eq_t i_L_law_802 rfl (k I2 J2 h2)
set_option maxRecDepth 100000 in
set_option maxHeartbeats 4000000 in
theorem lc_19 {I : IntM} {J : LngM} {i : Nat} {Q : LW.ScrT} (h : Inv I J) (hi : i + 6 ≤ Q.2.1) (k : ∀ I' J', Inv I' J' → VL 1527 (lcL i) [] I' J' Q) : VL 807 (lcL i) [] I J Q := by
  obtain ⟨v, hv, hc⟩ := p_left h
  obtain ⟨z, rfl⟩ := KV_int hv rfl
  refine LW.V_al i_L_law_807 rfl ?_
  refine LW.V_callV0 (mc' := 0) (ms' := 0) i_L_law_808 mi_X10_left hc rfl ⟨_, _, rfl⟩ (by decide) (Nat.le_of_ble_eq_true rfl) (by decide) (by decide) (fun _ _ _ _ _ q => by rw [q.1]; rfl) (fun r sh' R' I1 J1 q => ?_)
  obtain ⟨rfl, rfl, rfl, hc2⟩ := q
  show VL 811 (lcL i) [.int z] I1 J1 Q
  refine LW.V_al i_L_law_811 rfl ?_
  refine LW.V_callV0 (mc' := 0) (ms' := 0) i_L_law_812 mi_X11_left hc2 rfl ⟨_, _, rfl⟩ (by decide) (Nat.le_of_ble_eq_true rfl) (by decide) (by decide) (fun _ _ _ _ _ q => by rw [q.1]; rfl) (fun r sh' R' I2 J2 q => ?_)
  obtain ⟨rfl, rfl, rfl, h2⟩ := q
  show VL 815 (lcL i) [.int z, .int z] I2 J2 Q
  exact LW.V_ic_eq_t i_L_law_815 rfl (k I2 J2 h2)
set_option maxRecDepth 100000 in
set_option maxHeartbeats 4000000 in
theorem lc_20 {I : IntM} {J : LngM} {i : Nat} {Q : LW.ScrT} (h : Inv I J) (hi : i + 6 ≤ Q.2.1) (k : ∀ I' J', Inv I' J' → VL 1527 (lcL i) [] I' J' Q) : VL 820 (lcL i) [] I J Q := by
  obtain ⟨v, hv, hc⟩ := p_fed h
  obtain ⟨z, rfl⟩ := KV_int hv rfl
  refine LW.V_al i_L_law_820 rfl ?_
  refine LW.V_callV0 (mc' := 0) (ms' := 0) i_L_law_821 mi_X10_fed hc rfl ⟨_, _, rfl⟩ (by decide) (Nat.le_of_ble_eq_true rfl) (by decide) (by decide) (fun _ _ _ _ _ q => by rw [q.1]; rfl) (fun r sh' R' I1 J1 q => ?_)
  obtain ⟨rfl, rfl, rfl, hc2⟩ := q
  show VL 824 (lcL i) [.int z] I1 J1 Q
  refine LW.V_al i_L_law_824 rfl ?_
  refine LW.V_callV0 (mc' := 0) (ms' := 0) i_L_law_825 mi_X11_fed hc2 rfl ⟨_, _, rfl⟩ (by decide) (Nat.le_of_ble_eq_true rfl) (by decide) (by decide) (fun _ _ _ _ _ q => by rw [q.1]; rfl) (fun r sh' R' I2 J2 q => ?_)
  obtain ⟨rfl, rfl, rfl, h2⟩ := q
  show VL 828 (lcL i) [.int z, .int z] I2 J2 Q
  exact LW.V_ic_eq_t i_L_law_828 rfl (k I2 J2 h2)
set_option maxRecDepth 100000 in
set_option maxHeartbeats 4000000 in
theorem lc_21 {I : IntM} {J : LngM} {i : Nat} {Q : LW.ScrT} (h : Inv I J) (hi : i + 6 ≤ Q.2.1) (k : ∀ I' J', Inv I' J' → VL 1527 (lcL i) [] I' J' Q) : VL 833 (lcL i) [] I J Q := by
  obtain ⟨v, hv, hc⟩ := p_keep h (Q.2.2 (i + 1))
  obtain ⟨z, rfl⟩ := KV_int hv rfl
  refine LW.V_al i_L_law_833 rfl ?_
  refine LW.V_sld (i := i) (kk := 1) i_L_law_834 i_L_law_835 i_L_law_836 i_L_law_837 i_L_law_838 rfl (by omega) ?_
  refine LW.V_callV1 (mc' := 0) (ms' := 0) i_L_law_839 mi_X10_keep hc rfl ⟨_, _, rfl⟩ (by decide) (Nat.le_of_ble_eq_true rfl) (by decide) (by decide) (fun _ _ _ _ _ q => by rw [q.1]; rfl) (fun r sh' R' I1 J1 q => ?_)
  obtain ⟨rfl, rfl, rfl, hc2⟩ := q
  show VL 842 (lcL i) [.int z] I1 J1 Q
  refine LW.V_al i_L_law_842 rfl ?_
  refine LW.V_sld (i := i) (kk := 1) i_L_law_843 i_L_law_844 i_L_law_845 i_L_law_846 i_L_law_847 rfl (by omega) ?_
  refine LW.V_callV1 (mc' := 0) (ms' := 0) i_L_law_848 mi_X11_keep hc2 rfl ⟨_, _, rfl⟩ (by decide) (Nat.le_of_ble_eq_true rfl) (by decide) (by decide) (fun _ _ _ _ _ q => by rw [q.1]; rfl) (fun r sh' R' I2 J2 q => ?_)
  obtain ⟨rfl, rfl, rfl, h2⟩ := q
  show VL 851 (lcL i) [.int z, .int z] I2 J2 Q
  exact LW.V_ic_eq_t i_L_law_851 rfl (k I2 J2 h2)
set_option maxRecDepth 100000 in
set_option maxHeartbeats 4000000 in
theorem lc_22 {I : IntM} {J : LngM} {i : Nat} {Q : LW.ScrT} (h : Inv I J) (hi : i + 6 ≤ Q.2.1) (k : ∀ I' J', Inv I' J' → VL 1527 (lcL i) [] I' J' Q) : VL 856 (lcL i) [] I J Q := by
  obtain ⟨v, hv, hc⟩ := p_on h (Q.2.2 (i + 1))
  obtain ⟨z, rfl⟩ := KV_int hv rfl
  refine LW.V_al i_L_law_856 rfl ?_
  refine LW.V_sld (i := i) (kk := 1) i_L_law_857 i_L_law_858 i_L_law_859 i_L_law_860 i_L_law_861 rfl (by omega) ?_
  refine LW.V_callV1 (mc' := 0) (ms' := 0) i_L_law_862 mi_X10_on hc rfl ⟨_, _, rfl⟩ (by decide) (Nat.le_of_ble_eq_true rfl) (by decide) (by decide) (fun _ _ _ _ _ q => by rw [q.1]; rfl) (fun r sh' R' I1 J1 q => ?_)
  obtain ⟨rfl, rfl, rfl, hc2⟩ := q
  show VL 865 (lcL i) [.int z] I1 J1 Q
  refine LW.V_al i_L_law_865 rfl ?_
  refine LW.V_sld (i := i) (kk := 1) i_L_law_866 i_L_law_867 i_L_law_868 i_L_law_869 i_L_law_870 rfl (by omega) ?_
  refine LW.V_callV1 (mc' := 0) (ms' := 0) i_L_law_871 mi_X11_on hc2 rfl ⟨_, _, rfl⟩ (by decide) (Nat.le_of_ble_eq_true rfl) (by decide) (by decide) (fun _ _ _ _ _ q => by rw [q.1]; rfl) (fun r sh' R' I2 J2 q => ?_)
  obtain ⟨rfl, rfl, rfl, h2⟩ := q
  show VL 874 (lcL i) [.int z, .int z] I2 J2 Q
  exact LW.V_ic_eq_t i_L_law_874 rfl (k I2 J2 h2)
set_option maxRecDepth 100000 in
set_option maxHeartbeats 4000000 in
theorem lc_23 {I : IntM} {J : LngM} {i : Nat} {Q : LW.ScrT} (h : Inv I J) (hi : i + 6 ≤ Q.2.1) (k : ∀ I' J', Inv I' J' → VL 1527 (lcL i) [] I' J' Q) : VL 879 (lcL i) [] I J Q := by
  obtain ⟨v, hv, hc⟩ := p_evening h (Q.2.2 (i + 1))
  obtain ⟨z, rfl⟩ := KV_int hv rfl
  refine LW.V_al i_L_law_879 rfl ?_
  refine LW.V_sld (i := i) (kk := 1) i_L_law_880 i_L_law_881 i_L_law_882 i_L_law_883 i_L_law_884 rfl (by omega) ?_
  refine LW.V_callV1 (mc' := 0) (ms' := 0) i_L_law_885 mi_X10_evening hc rfl ⟨_, _, rfl⟩ (by decide) (Nat.le_of_ble_eq_true rfl) (by decide) (by decide) (fun _ _ _ _ _ q => by rw [q.1]; rfl) (fun r sh' R' I1 J1 q => ?_)
  obtain ⟨rfl, rfl, rfl, hc2⟩ := q
  show VL 888 (lcL i) [.int z] I1 J1 Q
  refine LW.V_al i_L_law_888 rfl ?_
  refine LW.V_sld (i := i) (kk := 1) i_L_law_889 i_L_law_890 i_L_law_891 i_L_law_892 i_L_law_893 rfl (by omega) ?_
  refine LW.V_callV1 (mc' := 0) (ms' := 0) i_L_law_894 mi_X11_evening hc2 rfl ⟨_, _, rfl⟩ (by decide) (Nat.le_of_ble_eq_true rfl) (by decide) (by decide) (fun _ _ _ _ _ q => by rw [q.1]; rfl) (fun r sh' R' I2 J2 q => ?_)
  obtain ⟨rfl, rfl, rfl, h2⟩ := q
  show VL 897 (lcL i) [.int z, .int z] I2 J2 Q
  exact LW.V_ic_eq_t i_L_law_897 rfl (k I2 J2 h2)
set_option maxRecDepth 100000 in
set_option maxHeartbeats 4000000 in
theorem lc_24 {I : IntM} {J : LngM} {i : Nat} {Q : LW.ScrT} (h : Inv I J) (hi : i + 6 ≤ Q.2.1) (k : ∀ I' J', Inv I' J' → VL 1527 (lcL i) [] I' J' Q) : VL 902 (lcL i) [] I J Q := by
  obtain ⟨v, hv, hc⟩ := p_place h (Q.2.2 (i + 1)) (Q.2.2 (i + 2)) (Q.2.2 (i + 3))
  obtain ⟨z, rfl⟩ := KV_int hv rfl
  refine LW.V_al i_L_law_902 rfl ?_
  refine LW.V_sld (i := i) (kk := 1) i_L_law_903 i_L_law_904 i_L_law_905 i_L_law_906 i_L_law_907 rfl (by omega) ?_
  refine LW.V_sld (i := i) (kk := 2) i_L_law_908 i_L_law_909 i_L_law_910 i_L_law_911 i_L_law_912 rfl (by omega) ?_
  refine LW.V_sld (i := i) (kk := 3) i_L_law_913 i_L_law_914 i_L_law_915 i_L_law_916 i_L_law_917 rfl (by omega) ?_
  refine LW.V_callV3 (mc' := 0) (ms' := 0) i_L_law_918 mi_X10_place hc rfl ⟨_, _, rfl⟩ (by decide) (Nat.le_of_ble_eq_true rfl) (by decide) (by decide) (fun _ _ _ _ _ q => by rw [q.1]; rfl) (fun r sh' R' I1 J1 q => ?_)
  obtain ⟨rfl, rfl, rfl, hc2⟩ := q
  show VL 921 (lcL i) [.int z] I1 J1 Q
  refine LW.V_al i_L_law_921 rfl ?_
  refine LW.V_sld (i := i) (kk := 1) i_L_law_922 i_L_law_923 i_L_law_924 i_L_law_925 i_L_law_926 rfl (by omega) ?_
  refine LW.V_sld (i := i) (kk := 2) i_L_law_927 i_L_law_928 i_L_law_929 i_L_law_930 i_L_law_931 rfl (by omega) ?_
  refine LW.V_sld (i := i) (kk := 3) i_L_law_932 i_L_law_933 i_L_law_934 i_L_law_935 i_L_law_936 rfl (by omega) ?_
  refine LW.V_callV3 (mc' := 0) (ms' := 0) i_L_law_937 mi_X11_place hc2 rfl ⟨_, _, rfl⟩ (by decide) (Nat.le_of_ble_eq_true rfl) (by decide) (by decide) (fun _ _ _ _ _ q => by rw [q.1]; rfl) (fun r sh' R' I2 J2 q => ?_)
  obtain ⟨rfl, rfl, rfl, h2⟩ := q
  show VL 940 (lcL i) [.int z, .int z] I2 J2 Q
  exact LW.V_ic_eq_t i_L_law_940 rfl (k I2 J2 h2)
set_option maxRecDepth 100000 in
set_option maxHeartbeats 4000000 in
theorem lc_25 {I : IntM} {J : LngM} {i : Nat} {Q : LW.ScrT} (h : Inv I J) (hi : i + 6 ≤ Q.2.1) (k : ∀ I' J', Inv I' J' → VL 1527 (lcL i) [] I' J' Q) : VL 945 (lcL i) [] I J Q := by
  obtain ⟨v, hv, hc⟩ := p_favours h (Q.2.2 (i + 1)) (Q.2.2 (i + 2))
  obtain ⟨z, rfl⟩ := KV_int hv rfl
  refine LW.V_al i_L_law_945 rfl ?_
  refine LW.V_sld (i := i) (kk := 1) i_L_law_946 i_L_law_947 i_L_law_948 i_L_law_949 i_L_law_950 rfl (by omega) ?_
  refine LW.V_sld (i := i) (kk := 2) i_L_law_951 i_L_law_952 i_L_law_953 i_L_law_954 i_L_law_955 rfl (by omega) ?_
  refine LW.V_callV2 (mc' := 0) (ms' := 0) i_L_law_956 mi_X10_favours hc rfl ⟨_, _, rfl⟩ (by decide) (Nat.le_of_ble_eq_true rfl) (by decide) (by decide) (fun _ _ _ _ _ q => by rw [q.1]; rfl) (fun r sh' R' I1 J1 q => ?_)
  obtain ⟨rfl, rfl, rfl, hc2⟩ := q
  show VL 959 (lcL i) [.int z] I1 J1 Q
  refine LW.V_al i_L_law_959 rfl ?_
  refine LW.V_sld (i := i) (kk := 1) i_L_law_960 i_L_law_961 i_L_law_962 i_L_law_963 i_L_law_964 rfl (by omega) ?_
  refine LW.V_sld (i := i) (kk := 2) i_L_law_965 i_L_law_966 i_L_law_967 i_L_law_968 i_L_law_969 rfl (by omega) ?_
  refine LW.V_callV2 (mc' := 0) (ms' := 0) i_L_law_970 mi_X11_favours hc2 rfl ⟨_, _, rfl⟩ (by decide) (Nat.le_of_ble_eq_true rfl) (by decide) (by decide) (fun _ _ _ _ _ q => by rw [q.1]; rfl) (fun r sh' R' I2 J2 q => ?_)
  obtain ⟨rfl, rfl, rfl, h2⟩ := q
  show VL 973 (lcL i) [.int z, .int z] I2 J2 Q
  exact LW.V_ic_eq_t i_L_law_973 rfl (k I2 J2 h2)
set_option maxRecDepth 100000 in
set_option maxHeartbeats 4000000 in
theorem lc_26 {I : IntM} {J : LngM} {i : Nat} {Q : LW.ScrT} (h : Inv I J) (hi : i + 6 ≤ Q.2.1) (k : ∀ I' J', Inv I' J' → VL 1527 (lcL i) [] I' J' Q) : VL 978 (lcL i) [] I J Q := by
  obtain ⟨v, hv, hc⟩ := p_least h (Q.2.2 (i + 1))
  obtain ⟨z, rfl⟩ := KV_int hv rfl
  refine LW.V_al i_L_law_978 rfl ?_
  refine LW.V_sld (i := i) (kk := 1) i_L_law_979 i_L_law_980 i_L_law_981 i_L_law_982 i_L_law_983 rfl (by omega) ?_
  refine LW.V_callV1 (mc' := 0) (ms' := 0) i_L_law_984 mi_X10_least hc rfl ⟨_, _, rfl⟩ (by decide) (Nat.le_of_ble_eq_true rfl) (by decide) (by decide) (fun _ _ _ _ _ q => by rw [q.1]; rfl) (fun r sh' R' I1 J1 q => ?_)
  obtain ⟨rfl, rfl, rfl, hc2⟩ := q
  show VL 987 (lcL i) [.int z] I1 J1 Q
  refine LW.V_al i_L_law_987 rfl ?_
  refine LW.V_sld (i := i) (kk := 1) i_L_law_988 i_L_law_989 i_L_law_990 i_L_law_991 i_L_law_992 rfl (by omega) ?_
  refine LW.V_callV1 (mc' := 0) (ms' := 0) i_L_law_993 mi_X11_least hc2 rfl ⟨_, _, rfl⟩ (by decide) (Nat.le_of_ble_eq_true rfl) (by decide) (by decide) (fun _ _ _ _ _ q => by rw [q.1]; rfl) (fun r sh' R' I2 J2 q => ?_)
  obtain ⟨rfl, rfl, rfl, h2⟩ := q
  show VL 996 (lcL i) [.int z, .int z] I2 J2 Q
  exact LW.V_ic_eq_t i_L_law_996 rfl (k I2 J2 h2)
set_option maxRecDepth 100000 in
set_option maxHeartbeats 4000000 in
theorem lc_27 {I : IntM} {J : LngM} {i : Nat} {Q : LW.ScrT} (h : Inv I J) (hi : i + 6 ≤ Q.2.1) (k : ∀ I' J', Inv I' J' → VL 1527 (lcL i) [] I' J' Q) : VL 1001 (lcL i) [] I J Q := by
  obtain ⟨v, hv, hc⟩ := p_best h (Q.2.2 (i + 1)) (Q.2.2 (i + 2))
  obtain ⟨z, rfl⟩ := KV_int hv rfl
  refine LW.V_al i_L_law_1001 rfl ?_
  refine LW.V_sld (i := i) (kk := 1) i_L_law_1002 i_L_law_1003 i_L_law_1004 i_L_law_1005 i_L_law_1006 rfl (by omega) ?_
  refine LW.V_sld (i := i) (kk := 2) i_L_law_1007 i_L_law_1008 i_L_law_1009 i_L_law_1010 i_L_law_1011 rfl (by omega) ?_
  refine LW.V_callV2 (mc' := 0) (ms' := 0) i_L_law_1012 mi_X10_best hc rfl ⟨_, _, rfl⟩ (by decide) (Nat.le_of_ble_eq_true rfl) (by decide) (by decide) (fun _ _ _ _ _ q => by rw [q.1]; rfl) (fun r sh' R' I1 J1 q => ?_)
  obtain ⟨rfl, rfl, rfl, hc2⟩ := q
  show VL 1015 (lcL i) [.int z] I1 J1 Q
  refine LW.V_al i_L_law_1015 rfl ?_
  refine LW.V_sld (i := i) (kk := 1) i_L_law_1016 i_L_law_1017 i_L_law_1018 i_L_law_1019 i_L_law_1020 rfl (by omega) ?_
  refine LW.V_sld (i := i) (kk := 2) i_L_law_1021 i_L_law_1022 i_L_law_1023 i_L_law_1024 i_L_law_1025 rfl (by omega) ?_
  refine LW.V_callV2 (mc' := 0) (ms' := 0) i_L_law_1026 mi_X11_best hc2 rfl ⟨_, _, rfl⟩ (by decide) (Nat.le_of_ble_eq_true rfl) (by decide) (by decide) (fun _ _ _ _ _ q => by rw [q.1]; rfl) (fun r sh' R' I2 J2 q => ?_)
  obtain ⟨rfl, rfl, rfl, h2⟩ := q
  show VL 1029 (lcL i) [.int z, .int z] I2 J2 Q
  exact LW.V_ic_eq_t i_L_law_1029 rfl (k I2 J2 h2)
set_option maxRecDepth 100000 in
set_option maxHeartbeats 4000000 in
theorem lc_28 {I : IntM} {J : LngM} {i : Nat} {Q : LW.ScrT} (h : Inv I J) (hi : i + 6 ≤ Q.2.1) (k : ∀ I' J', Inv I' J' → VL 1527 (lcL i) [] I' J' Q) : VL 1034 (lcL i) [] I J Q := by
  obtain ⟨v, hv, hc⟩ := p_most h (Q.2.2 (i + 1))
  obtain ⟨z, rfl⟩ := KV_int hv rfl
  refine LW.V_al i_L_law_1034 rfl ?_
  refine LW.V_sld (i := i) (kk := 1) i_L_law_1035 i_L_law_1036 i_L_law_1037 i_L_law_1038 i_L_law_1039 rfl (by omega) ?_
  refine LW.V_callV1 (mc' := 0) (ms' := 0) i_L_law_1040 mi_X10_most hc rfl ⟨_, _, rfl⟩ (by decide) (Nat.le_of_ble_eq_true rfl) (by decide) (by decide) (fun _ _ _ _ _ q => by rw [q.1]; rfl) (fun r sh' R' I1 J1 q => ?_)
  obtain ⟨rfl, rfl, rfl, hc2⟩ := q
  show VL 1043 (lcL i) [.int z] I1 J1 Q
  refine LW.V_al i_L_law_1043 rfl ?_
  refine LW.V_sld (i := i) (kk := 1) i_L_law_1044 i_L_law_1045 i_L_law_1046 i_L_law_1047 i_L_law_1048 rfl (by omega) ?_
  refine LW.V_callV1 (mc' := 0) (ms' := 0) i_L_law_1049 mi_X11_most hc2 rfl ⟨_, _, rfl⟩ (by decide) (Nat.le_of_ble_eq_true rfl) (by decide) (by decide) (fun _ _ _ _ _ q => by rw [q.1]; rfl) (fun r sh' R' I2 J2 q => ?_)
  obtain ⟨rfl, rfl, rfl, h2⟩ := q
  show VL 1052 (lcL i) [.int z, .int z] I2 J2 Q
  exact LW.V_ic_eq_t i_L_law_1052 rfl (k I2 J2 h2)
set_option maxRecDepth 100000 in
set_option maxHeartbeats 4000000 in
theorem lc_29 {I : IntM} {J : LngM} {i : Nat} {Q : LW.ScrT} (h : Inv I J) (hi : i + 6 ≤ Q.2.1) (k : ∀ I' J', Inv I' J' → VL 1527 (lcL i) [] I' J' Q) : VL 1057 (lcL i) [] I J Q := by
  obtain ⟨v, hv, hc⟩ := p_kind h (Q.2.2 (i + 1))
  obtain ⟨z, rfl⟩ := KV_int hv rfl
  refine LW.V_al i_L_law_1057 rfl ?_
  refine LW.V_sld (i := i) (kk := 1) i_L_law_1058 i_L_law_1059 i_L_law_1060 i_L_law_1061 i_L_law_1062 rfl (by omega) ?_
  refine LW.V_callV1 (mc' := 0) (ms' := 0) i_L_law_1063 mi_X10_kind hc rfl ⟨_, _, rfl⟩ (by decide) (Nat.le_of_ble_eq_true rfl) (by decide) (by decide) (fun _ _ _ _ _ q => by rw [q.1]; rfl) (fun r sh' R' I1 J1 q => ?_)
  obtain ⟨rfl, rfl, rfl, hc2⟩ := q
  show VL 1066 (lcL i) [.int z] I1 J1 Q
  refine LW.V_al i_L_law_1066 rfl ?_
  refine LW.V_sld (i := i) (kk := 1) i_L_law_1067 i_L_law_1068 i_L_law_1069 i_L_law_1070 i_L_law_1071 rfl (by omega) ?_
  refine LW.V_callV1 (mc' := 0) (ms' := 0) i_L_law_1072 mi_X11_kind hc2 rfl ⟨_, _, rfl⟩ (by decide) (Nat.le_of_ble_eq_true rfl) (by decide) (by decide) (fun _ _ _ _ _ q => by rw [q.1]; rfl) (fun r sh' R' I2 J2 q => ?_)
  obtain ⟨rfl, rfl, rfl, h2⟩ := q
  show VL 1075 (lcL i) [.int z, .int z] I2 J2 Q
  exact LW.V_ic_eq_t i_L_law_1075 rfl (k I2 J2 h2)
set_option maxRecDepth 100000 in
set_option maxHeartbeats 4000000 in
theorem lc_30 {I : IntM} {J : LngM} {i : Nat} {Q : LW.ScrT} (h : Inv I J) (hi : i + 6 ≤ Q.2.1) (k : ∀ I' J', Inv I' J' → VL 1527 (lcL i) [] I' J' Q) : VL 1080 (lcL i) [] I J Q := by
  obtain ⟨v, hv, hc⟩ := p_week h (Q.2.2 (i + 1)) (Q.2.2 (i + 2)) (Q.2.2 (i + 3))
  obtain ⟨z, rfl⟩ := KV_int hv rfl
  refine LW.V_al i_L_law_1080 rfl ?_
  refine LW.V_sld (i := i) (kk := 1) i_L_law_1081 i_L_law_1082 i_L_law_1083 i_L_law_1084 i_L_law_1085 rfl (by omega) ?_
  refine LW.V_sld (i := i) (kk := 2) i_L_law_1086 i_L_law_1087 i_L_law_1088 i_L_law_1089 i_L_law_1090 rfl (by omega) ?_
  refine LW.V_sld (i := i) (kk := 3) i_L_law_1091 i_L_law_1092 i_L_law_1093 i_L_law_1094 i_L_law_1095 rfl (by omega) ?_
  refine LW.V_callV3 (mc' := 0) (ms' := 0) i_L_law_1096 mi_X10_week hc rfl ⟨_, _, rfl⟩ (by decide) (Nat.le_of_ble_eq_true rfl) (by decide) (by decide) (fun _ _ _ _ _ q => by rw [q.1]; rfl) (fun r sh' R' I1 J1 q => ?_)
  obtain ⟨rfl, rfl, rfl, hc2⟩ := q
  show VL 1099 (lcL i) [.int z] I1 J1 Q
  refine LW.V_al i_L_law_1099 rfl ?_
  refine LW.V_sld (i := i) (kk := 1) i_L_law_1100 i_L_law_1101 i_L_law_1102 i_L_law_1103 i_L_law_1104 rfl (by omega) ?_
  refine LW.V_sld (i := i) (kk := 2) i_L_law_1105 i_L_law_1106 i_L_law_1107 i_L_law_1108 i_L_law_1109 rfl (by omega) ?_
  refine LW.V_sld (i := i) (kk := 3) i_L_law_1110 i_L_law_1111 i_L_law_1112 i_L_law_1113 i_L_law_1114 rfl (by omega) ?_
  refine LW.V_callV3 (mc' := 0) (ms' := 0) i_L_law_1115 mi_X11_week hc2 rfl ⟨_, _, rfl⟩ (by decide) (Nat.le_of_ble_eq_true rfl) (by decide) (by decide) (fun _ _ _ _ _ q => by rw [q.1]; rfl) (fun r sh' R' I2 J2 q => ?_)
  obtain ⟨rfl, rfl, rfl, h2⟩ := q
  show VL 1118 (lcL i) [.int z, .int z] I2 J2 Q
  exact LW.V_ic_eq_t i_L_law_1118 rfl (k I2 J2 h2)
set_option maxRecDepth 100000 in
set_option maxHeartbeats 4000000 in
theorem lc_31 {I : IntM} {J : LngM} {i : Nat} {Q : LW.ScrT} (h : Inv I J) (hi : i + 6 ≤ Q.2.1) (k : ∀ I' J', Inv I' J' → VL 1527 (lcL i) [] I' J' Q) : VL 1123 (lcL i) [] I J Q := by
  obtain ⟨v, hv, hc⟩ := p_even h (Q.2.2 (i + 1)) (Q.2.2 (i + 2))
  obtain ⟨z, rfl⟩ := KV_int hv rfl
  refine LW.V_al i_L_law_1123 rfl ?_
  refine LW.V_sld (i := i) (kk := 1) i_L_law_1124 i_L_law_1125 i_L_law_1126 i_L_law_1127 i_L_law_1128 rfl (by omega) ?_
  refine LW.V_sld (i := i) (kk := 2) i_L_law_1129 i_L_law_1130 i_L_law_1131 i_L_law_1132 i_L_law_1133 rfl (by omega) ?_
  refine LW.V_callV2 (mc' := 0) (ms' := 0) i_L_law_1134 mi_X10_even hc rfl ⟨_, _, rfl⟩ (by decide) (Nat.le_of_ble_eq_true rfl) (by decide) (by decide) (fun _ _ _ _ _ q => by rw [q.1]; rfl) (fun r sh' R' I1 J1 q => ?_)
  obtain ⟨rfl, rfl, rfl, hc2⟩ := q
  show VL 1137 (lcL i) [.int z] I1 J1 Q
  refine LW.V_al i_L_law_1137 rfl ?_
  refine LW.V_sld (i := i) (kk := 1) i_L_law_1138 i_L_law_1139 i_L_law_1140 i_L_law_1141 i_L_law_1142 rfl (by omega) ?_
  refine LW.V_sld (i := i) (kk := 2) i_L_law_1143 i_L_law_1144 i_L_law_1145 i_L_law_1146 i_L_law_1147 rfl (by omega) ?_
  refine LW.V_callV2 (mc' := 0) (ms' := 0) i_L_law_1148 mi_X11_even hc2 rfl ⟨_, _, rfl⟩ (by decide) (Nat.le_of_ble_eq_true rfl) (by decide) (by decide) (fun _ _ _ _ _ q => by rw [q.1]; rfl) (fun r sh' R' I2 J2 q => ?_)
  obtain ⟨rfl, rfl, rfl, h2⟩ := q
  show VL 1151 (lcL i) [.int z, .int z] I2 J2 Q
  exact LW.V_ic_eq_t i_L_law_1151 rfl (k I2 J2 h2)
set_option maxRecDepth 100000 in
set_option maxHeartbeats 4000000 in
theorem lc_32 {I : IntM} {J : LngM} {i : Nat} {Q : LW.ScrT} (h : Inv I J) (hi : i + 6 ≤ Q.2.1) (k : ∀ I' J', Inv I' J' → VL 1527 (lcL i) [] I' J' Q) : VL 1156 (lcL i) [] I J Q := by
  obtain ⟨v, hv, hc⟩ := p_two h (Q.2.2 (i + 1))
  obtain ⟨z, rfl⟩ := KV_int hv rfl
  refine LW.V_al i_L_law_1156 rfl ?_
  refine LW.V_sld (i := i) (kk := 1) i_L_law_1157 i_L_law_1158 i_L_law_1159 i_L_law_1160 i_L_law_1161 rfl (by omega) ?_
  refine LW.V_callV1 (mc' := 0) (ms' := 0) i_L_law_1162 mi_X10_two hc rfl ⟨_, _, rfl⟩ (by decide) (Nat.le_of_ble_eq_true rfl) (by decide) (by decide) (fun _ _ _ _ _ q => by rw [q.1]; rfl) (fun r sh' R' I1 J1 q => ?_)
  obtain ⟨rfl, rfl, rfl, hc2⟩ := q
  show VL 1165 (lcL i) [.int z] I1 J1 Q
  refine LW.V_al i_L_law_1165 rfl ?_
  refine LW.V_sld (i := i) (kk := 1) i_L_law_1166 i_L_law_1167 i_L_law_1168 i_L_law_1169 i_L_law_1170 rfl (by omega) ?_
  refine LW.V_callV1 (mc' := 0) (ms' := 0) i_L_law_1171 mi_X11_two hc2 rfl ⟨_, _, rfl⟩ (by decide) (Nat.le_of_ble_eq_true rfl) (by decide) (by decide) (fun _ _ _ _ _ q => by rw [q.1]; rfl) (fun r sh' R' I2 J2 q => ?_)
  obtain ⟨rfl, rfl, rfl, h2⟩ := q
  show VL 1174 (lcL i) [.int z, .int z] I2 J2 Q
  exact LW.V_ic_eq_t i_L_law_1174 rfl (k I2 J2 h2)
set_option maxRecDepth 100000 in
set_option maxHeartbeats 4000000 in
theorem lc_33 {I : IntM} {J : LngM} {i : Nat} {Q : LW.ScrT} (h : Inv I J) (hi : i + 6 ≤ Q.2.1) (k : ∀ I' J', Inv I' J' → VL 1527 (lcL i) [] I' J' Q) : VL 1179 (lcL i) [] I J Q := by
  obtain ⟨v, hv, hc⟩ := p_scales h
  obtain ⟨z, rfl⟩ := KV_int hv rfl
  refine LW.V_al i_L_law_1179 rfl ?_
  refine LW.V_callV0 (mc' := 0) (ms' := 0) i_L_law_1180 mi_X10_scales hc rfl ⟨_, _, rfl⟩ (by decide) (Nat.le_of_ble_eq_true rfl) (by decide) (by decide) (fun _ _ _ _ _ q => by rw [q.1]; rfl) (fun r sh' R' I1 J1 q => ?_)
  obtain ⟨rfl, rfl, rfl, hc2⟩ := q
  show VL 1183 (lcL i) [.int z] I1 J1 Q
  refine LW.V_al i_L_law_1183 rfl ?_
  refine LW.V_callV0 (mc' := 0) (ms' := 0) i_L_law_1184 mi_X11_scales hc2 rfl ⟨_, _, rfl⟩ (by decide) (Nat.le_of_ble_eq_true rfl) (by decide) (by decide) (fun _ _ _ _ _ q => by rw [q.1]; rfl) (fun r sh' R' I2 J2 q => ?_)
  obtain ⟨rfl, rfl, rfl, h2⟩ := q
  show VL 1187 (lcL i) [.int z, .int z] I2 J2 Q
  exact LW.V_ic_eq_t i_L_law_1187 rfl (k I2 J2 h2)
set_option maxRecDepth 100000 in
set_option maxHeartbeats 4000000 in
theorem lc_34 {I : IntM} {J : LngM} {i : Nat} {Q : LW.ScrT} (h : Inv I J) (hi : i + 6 ≤ Q.2.1) (k : ∀ I' J', Inv I' J' → VL 1527 (lcL i) [] I' J' Q) : VL 1192 (lcL i) [] I J Q := by
  obtain ⟨v, hv, hc⟩ := p_cheats h
  obtain ⟨z, rfl⟩ := KV_int hv rfl
  refine LW.V_al i_L_law_1192 rfl ?_
  refine LW.V_callV0 (mc' := 0) (ms' := 0) i_L_law_1193 mi_X10_cheats hc rfl ⟨_, _, rfl⟩ (by decide) (Nat.le_of_ble_eq_true rfl) (by decide) (by decide) (fun _ _ _ _ _ q => by rw [q.1]; rfl) (fun r sh' R' I1 J1 q => ?_)
  obtain ⟨rfl, rfl, rfl, hc2⟩ := q
  show VL 1196 (lcL i) [.int z] I1 J1 Q
  refine LW.V_al i_L_law_1196 rfl ?_
  refine LW.V_callV0 (mc' := 0) (ms' := 0) i_L_law_1197 mi_X11_cheats hc2 rfl ⟨_, _, rfl⟩ (by decide) (Nat.le_of_ble_eq_true rfl) (by decide) (by decide) (fun _ _ _ _ _ q => by rw [q.1]; rfl) (fun r sh' R' I2 J2 q => ?_)
  obtain ⟨rfl, rfl, rfl, h2⟩ := q
  show VL 1200 (lcL i) [.int z, .int z] I2 J2 Q
  exact LW.V_ic_eq_t i_L_law_1200 rfl (k I2 J2 h2)
set_option maxRecDepth 100000 in
set_option maxHeartbeats 4000000 in
theorem lc_35 {I : IntM} {J : LngM} {i : Nat} {Q : LW.ScrT} (h : Inv I J) (hi : i + 6 ≤ Q.2.1) (k : ∀ I' J', Inv I' J' → VL 1527 (lcL i) [] I' J' Q) : VL 1205 (lcL i) [] I J Q := by
  obtain ⟨v, hv, hc⟩ := p_bones h (Q.2.2 (i + 1))
  obtain ⟨z, rfl⟩ := KV_int hv rfl
  refine LW.V_al i_L_law_1205 rfl ?_
  refine LW.V_sld (i := i) (kk := 1) i_L_law_1206 i_L_law_1207 i_L_law_1208 i_L_law_1209 i_L_law_1210 rfl (by omega) ?_
  refine LW.V_callV1 (mc' := 0) (ms' := 0) i_L_law_1211 mi_X10_bones hc rfl ⟨_, _, rfl⟩ (by decide) (Nat.le_of_ble_eq_true rfl) (by decide) (by decide) (fun _ _ _ _ _ q => by rw [q.1]; rfl) (fun r sh' R' I1 J1 q => ?_)
  obtain ⟨rfl, rfl, rfl, hc2⟩ := q
  show VL 1214 (lcL i) [.int z] I1 J1 Q
  refine LW.V_al i_L_law_1214 rfl ?_
  refine LW.V_sld (i := i) (kk := 1) i_L_law_1215 i_L_law_1216 i_L_law_1217 i_L_law_1218 i_L_law_1219 rfl (by omega) ?_
  refine LW.V_callV1 (mc' := 0) (ms' := 0) i_L_law_1220 mi_X11_bones hc2 rfl ⟨_, _, rfl⟩ (by decide) (Nat.le_of_ble_eq_true rfl) (by decide) (by decide) (fun _ _ _ _ _ q => by rw [q.1]; rfl) (fun r sh' R' I2 J2 q => ?_)
  obtain ⟨rfl, rfl, rfl, h2⟩ := q
  show VL 1223 (lcL i) [.int z, .int z] I2 J2 Q
  exact LW.V_ic_eq_t i_L_law_1223 rfl (k I2 J2 h2)
set_option maxRecDepth 100000 in
set_option maxHeartbeats 4000000 in
theorem lc_36 {I : IntM} {J : LngM} {i : Nat} {Q : LW.ScrT} (h : Inv I J) (hi : i + 6 ≤ Q.2.1) (k : ∀ I' J', Inv I' J' → VL 1527 (lcL i) [] I' J' Q) : VL 1228 (lcL i) [] I J Q := by
  obtain ⟨v, hv, hc⟩ := p_last h (Q.2.2 (i + 1))
  obtain ⟨z, rfl⟩ := KV_int hv rfl
  refine LW.V_al i_L_law_1228 rfl ?_
  refine LW.V_sld (i := i) (kk := 1) i_L_law_1229 i_L_law_1230 i_L_law_1231 i_L_law_1232 i_L_law_1233 rfl (by omega) ?_
  refine LW.V_callV1 (mc' := 0) (ms' := 0) i_L_law_1234 mi_X10_last hc rfl ⟨_, _, rfl⟩ (by decide) (Nat.le_of_ble_eq_true rfl) (by decide) (by decide) (fun _ _ _ _ _ q => by rw [q.1]; rfl) (fun r sh' R' I1 J1 q => ?_)
  obtain ⟨rfl, rfl, rfl, hc2⟩ := q
  show VL 1237 (lcL i) [.int z] I1 J1 Q
  refine LW.V_al i_L_law_1237 rfl ?_
  refine LW.V_sld (i := i) (kk := 1) i_L_law_1238 i_L_law_1239 i_L_law_1240 i_L_law_1241 i_L_law_1242 rfl (by omega) ?_
  refine LW.V_callV1 (mc' := 0) (ms' := 0) i_L_law_1243 mi_X11_last hc2 rfl ⟨_, _, rfl⟩ (by decide) (Nat.le_of_ble_eq_true rfl) (by decide) (by decide) (fun _ _ _ _ _ q => by rw [q.1]; rfl) (fun r sh' R' I2 J2 q => ?_)
  obtain ⟨rfl, rfl, rfl, h2⟩ := q
  show VL 1246 (lcL i) [.int z, .int z] I2 J2 Q
  exact LW.V_ic_eq_t i_L_law_1246 rfl (k I2 J2 h2)
set_option maxRecDepth 100000 in
set_option maxHeartbeats 4000000 in
theorem lc_37 {I : IntM} {J : LngM} {i : Nat} {Q : LW.ScrT} (h : Inv I J) (hi : i + 6 ≤ Q.2.1) (k : ∀ I' J', Inv I' J' → VL 1527 (lcL i) [] I' J' Q) : VL 1251 (lcL i) [] I J Q := by
  obtain ⟨v, hv, hc⟩ := p_ahead h (Q.2.2 (i + 1)) (Q.2.2 (i + 2)) (Q.2.2 (i + 3))
  obtain ⟨z, rfl⟩ := KV_int hv rfl
  refine LW.V_al i_L_law_1251 rfl ?_
  refine LW.V_sld (i := i) (kk := 1) i_L_law_1252 i_L_law_1253 i_L_law_1254 i_L_law_1255 i_L_law_1256 rfl (by omega) ?_
  refine LW.V_sld (i := i) (kk := 2) i_L_law_1257 i_L_law_1258 i_L_law_1259 i_L_law_1260 i_L_law_1261 rfl (by omega) ?_
  refine LW.V_sld (i := i) (kk := 3) i_L_law_1262 i_L_law_1263 i_L_law_1264 i_L_law_1265 i_L_law_1266 rfl (by omega) ?_
  refine LW.V_callV3 (mc' := 0) (ms' := 0) i_L_law_1267 mi_X10_ahead hc rfl ⟨_, _, rfl⟩ (by decide) (Nat.le_of_ble_eq_true rfl) (by decide) (by decide) (fun _ _ _ _ _ q => by rw [q.1]; rfl) (fun r sh' R' I1 J1 q => ?_)
  obtain ⟨rfl, rfl, rfl, hc2⟩ := q
  show VL 1270 (lcL i) [.int z] I1 J1 Q
  refine LW.V_al i_L_law_1270 rfl ?_
  refine LW.V_sld (i := i) (kk := 1) i_L_law_1271 i_L_law_1272 i_L_law_1273 i_L_law_1274 i_L_law_1275 rfl (by omega) ?_
  refine LW.V_sld (i := i) (kk := 2) i_L_law_1276 i_L_law_1277 i_L_law_1278 i_L_law_1279 i_L_law_1280 rfl (by omega) ?_
  refine LW.V_sld (i := i) (kk := 3) i_L_law_1281 i_L_law_1282 i_L_law_1283 i_L_law_1284 i_L_law_1285 rfl (by omega) ?_
  refine LW.V_callV3 (mc' := 0) (ms' := 0) i_L_law_1286 mi_X11_ahead hc2 rfl ⟨_, _, rfl⟩ (by decide) (Nat.le_of_ble_eq_true rfl) (by decide) (by decide) (fun _ _ _ _ _ q => by rw [q.1]; rfl) (fun r sh' R' I2 J2 q => ?_)
  obtain ⟨rfl, rfl, rfl, h2⟩ := q
  show VL 1289 (lcL i) [.int z, .int z] I2 J2 Q
  exact LW.V_ic_eq_t i_L_law_1289 rfl (k I2 J2 h2)
set_option maxRecDepth 100000 in
set_option maxHeartbeats 4000000 in
theorem lc_38 {I : IntM} {J : LngM} {i : Nat} {Q : LW.ScrT} (h : Inv I J) (hi : i + 6 ≤ Q.2.1) (k : ∀ I' J', Inv I' J' → VL 1527 (lcL i) [] I' J' Q) : VL 1294 (lcL i) [] I J Q := by
  obtain ⟨v, hv, hc⟩ := p_famine h (Q.2.2 (i + 1)) (Q.2.2 (i + 2))
  obtain ⟨z, rfl⟩ := KV_int hv rfl
  refine LW.V_al i_L_law_1294 rfl ?_
  refine LW.V_sld (i := i) (kk := 1) i_L_law_1295 i_L_law_1296 i_L_law_1297 i_L_law_1298 i_L_law_1299 rfl (by omega) ?_
  refine LW.V_sld (i := i) (kk := 2) i_L_law_1300 i_L_law_1301 i_L_law_1302 i_L_law_1303 i_L_law_1304 rfl (by omega) ?_
  refine LW.V_callV2 (mc' := 0) (ms' := 0) i_L_law_1305 mi_X10_famine hc rfl ⟨_, _, rfl⟩ (by decide) (Nat.le_of_ble_eq_true rfl) (by decide) (by decide) (fun _ _ _ _ _ q => by rw [q.1]; rfl) (fun r sh' R' I1 J1 q => ?_)
  obtain ⟨rfl, rfl, rfl, hc2⟩ := q
  show VL 1308 (lcL i) [.int z] I1 J1 Q
  refine LW.V_al i_L_law_1308 rfl ?_
  refine LW.V_sld (i := i) (kk := 1) i_L_law_1309 i_L_law_1310 i_L_law_1311 i_L_law_1312 i_L_law_1313 rfl (by omega) ?_
  refine LW.V_sld (i := i) (kk := 2) i_L_law_1314 i_L_law_1315 i_L_law_1316 i_L_law_1317 i_L_law_1318 rfl (by omega) ?_
  refine LW.V_callV2 (mc' := 0) (ms' := 0) i_L_law_1319 mi_X11_famine hc2 rfl ⟨_, _, rfl⟩ (by decide) (Nat.le_of_ble_eq_true rfl) (by decide) (by decide) (fun _ _ _ _ _ q => by rw [q.1]; rfl) (fun r sh' R' I2 J2 q => ?_)
  obtain ⟨rfl, rfl, rfl, h2⟩ := q
  show VL 1322 (lcL i) [.int z, .int z] I2 J2 Q
  exact LW.V_ic_eq_t i_L_law_1322 rfl (k I2 J2 h2)
set_option maxRecDepth 100000 in
set_option maxHeartbeats 4000000 in
theorem lc_39 {I : IntM} {J : LngM} {i : Nat} {Q : LW.ScrT} (h : Inv I J) (hi : i + 6 ≤ Q.2.1) (k : ∀ I' J', Inv I' J' → VL 1527 (lcL i) [] I' J' Q) : VL 1327 (lcL i) [] I J Q := by
  obtain ⟨v, hv, hc⟩ := p_kindest h (Q.2.2 (i + 1)) (Q.2.2 (i + 2))
  obtain ⟨z, rfl⟩ := KV_int hv rfl
  refine LW.V_al i_L_law_1327 rfl ?_
  refine LW.V_sld (i := i) (kk := 1) i_L_law_1328 i_L_law_1329 i_L_law_1330 i_L_law_1331 i_L_law_1332 rfl (by omega) ?_
  refine LW.V_sld (i := i) (kk := 2) i_L_law_1333 i_L_law_1334 i_L_law_1335 i_L_law_1336 i_L_law_1337 rfl (by omega) ?_
  refine LW.V_callV2 (mc' := 0) (ms' := 0) i_L_law_1338 mi_X10_kindest hc rfl ⟨_, _, rfl⟩ (by decide) (Nat.le_of_ble_eq_true rfl) (by decide) (by decide) (fun _ _ _ _ _ q => by rw [q.1]; rfl) (fun r sh' R' I1 J1 q => ?_)
  obtain ⟨rfl, rfl, rfl, hc2⟩ := q
  show VL 1341 (lcL i) [.int z] I1 J1 Q
  refine LW.V_al i_L_law_1341 rfl ?_
  refine LW.V_sld (i := i) (kk := 1) i_L_law_1342 i_L_law_1343 i_L_law_1344 i_L_law_1345 i_L_law_1346 rfl (by omega) ?_
  refine LW.V_sld (i := i) (kk := 2) i_L_law_1347 i_L_law_1348 i_L_law_1349 i_L_law_1350 i_L_law_1351 rfl (by omega) ?_
  refine LW.V_callV2 (mc' := 0) (ms' := 0) i_L_law_1352 mi_X11_kindest hc2 rfl ⟨_, _, rfl⟩ (by decide) (Nat.le_of_ble_eq_true rfl) (by decide) (by decide) (fun _ _ _ _ _ q => by rw [q.1]; rfl) (fun r sh' R' I2 J2 q => ?_)
  obtain ⟨rfl, rfl, rfl, h2⟩ := q
  show VL 1355 (lcL i) [.int z, .int z] I2 J2 Q
  exact LW.V_ic_eq_t i_L_law_1355 rfl (k I2 J2 h2)
set_option maxRecDepth 100000 in
set_option maxHeartbeats 4000000 in
theorem lc_40 {I : IntM} {J : LngM} {i : Nat} {Q : LW.ScrT} (h : Inv I J) (hi : i + 6 ≤ Q.2.1) (k : ∀ I' J', Inv I' J' → VL 1527 (lcL i) [] I' J' Q) : VL 1360 (lcL i) [] I J Q := by
  obtain ⟨v, hv, hc⟩ := p_kitchens h (Q.2.2 (i + 1)) (Q.2.2 (i + 2)) (Q.2.2 (i + 3)) (Q.2.2 (i + 4))
  obtain ⟨z, rfl⟩ := KV_int hv rfl
  refine LW.V_al i_L_law_1360 rfl ?_
  refine LW.V_sld (i := i) (kk := 1) i_L_law_1361 i_L_law_1362 i_L_law_1363 i_L_law_1364 i_L_law_1365 rfl (by omega) ?_
  refine LW.V_sld (i := i) (kk := 2) i_L_law_1366 i_L_law_1367 i_L_law_1368 i_L_law_1369 i_L_law_1370 rfl (by omega) ?_
  refine LW.V_sld (i := i) (kk := 3) i_L_law_1371 i_L_law_1372 i_L_law_1373 i_L_law_1374 i_L_law_1375 rfl (by omega) ?_
  refine LW.V_sld (i := i) (kk := 4) i_L_law_1376 i_L_law_1377 i_L_law_1378 i_L_law_1379 i_L_law_1380 rfl (by omega) ?_
  refine LW.V_callV4 (mc' := 0) (ms' := 0) i_L_law_1381 mi_X10_kitchens hc rfl ⟨_, _, rfl⟩ (by decide) (Nat.le_of_ble_eq_true rfl) (by decide) (by decide) (fun _ _ _ _ _ q => by rw [q.1]; rfl) (fun r sh' R' I1 J1 q => ?_)
  obtain ⟨rfl, rfl, rfl, hc2⟩ := q
  show VL 1384 (lcL i) [.int z] I1 J1 Q
  refine LW.V_al i_L_law_1384 rfl ?_
  refine LW.V_sld (i := i) (kk := 1) i_L_law_1385 i_L_law_1386 i_L_law_1387 i_L_law_1388 i_L_law_1389 rfl (by omega) ?_
  refine LW.V_sld (i := i) (kk := 2) i_L_law_1390 i_L_law_1391 i_L_law_1392 i_L_law_1393 i_L_law_1394 rfl (by omega) ?_
  refine LW.V_sld (i := i) (kk := 3) i_L_law_1395 i_L_law_1396 i_L_law_1397 i_L_law_1398 i_L_law_1399 rfl (by omega) ?_
  refine LW.V_sld (i := i) (kk := 4) i_L_law_1400 i_L_law_1401 i_L_law_1402 i_L_law_1403 i_L_law_1404 rfl (by omega) ?_
  refine LW.V_callV4 (mc' := 0) (ms' := 0) i_L_law_1405 mi_X11_kitchens hc2 rfl ⟨_, _, rfl⟩ (by decide) (Nat.le_of_ble_eq_true rfl) (by decide) (by decide) (fun _ _ _ _ _ q => by rw [q.1]; rfl) (fun r sh' R' I2 J2 q => ?_)
  obtain ⟨rfl, rfl, rfl, h2⟩ := q
  show VL 1408 (lcL i) [.int z, .int z] I2 J2 Q
  exact LW.V_ic_eq_t i_L_law_1408 rfl (k I2 J2 h2)
set_option maxRecDepth 100000 in
set_option maxHeartbeats 4000000 in
theorem lc_41 {I : IntM} {J : LngM} {i : Nat} {Q : LW.ScrT} (h : Inv I J) (hi : i + 6 ≤ Q.2.1) (k : ∀ I' J', Inv I' J' → VL 1527 (lcL i) [] I' J' Q) : VL 1413 (lcL i) [] I J Q := by
  obtain ⟨v, hv, hc⟩ := p_asked h
  obtain ⟨z, rfl⟩ := KV_int hv rfl
  refine LW.V_al i_L_law_1413 rfl ?_
  refine LW.V_callV0 (mc' := 0) (ms' := 0) i_L_law_1414 mi_X10_asked hc rfl ⟨_, _, rfl⟩ (by decide) (Nat.le_of_ble_eq_true rfl) (by decide) (by decide) (fun _ _ _ _ _ q => by rw [q.1]; rfl) (fun r sh' R' I1 J1 q => ?_)
  obtain ⟨rfl, rfl, rfl, hc2⟩ := q
  show VL 1417 (lcL i) [.int z] I1 J1 Q
  refine LW.V_al i_L_law_1417 rfl ?_
  refine LW.V_callV0 (mc' := 0) (ms' := 0) i_L_law_1418 mi_X11_asked hc2 rfl ⟨_, _, rfl⟩ (by decide) (Nat.le_of_ble_eq_true rfl) (by decide) (by decide) (fun _ _ _ _ _ q => by rw [q.1]; rfl) (fun r sh' R' I2 J2 q => ?_)
  obtain ⟨rfl, rfl, rfl, h2⟩ := q
  show VL 1421 (lcL i) [.int z, .int z] I2 J2 Q
  exact LW.V_ic_eq_t i_L_law_1421 rfl (k I2 J2 h2)
set_option maxRecDepth 100000 in
set_option maxHeartbeats 4000000 in
theorem lc_42 {I : IntM} {J : LngM} {i : Nat} {Q : LW.ScrT} (h : Inv I J) (hi : i + 6 ≤ Q.2.1) (k : ∀ I' J', Inv I' J' → VL 1527 (lcL i) [] I' J' Q) : VL 1426 (lcL i) [] I J Q := by
  obtain ⟨v, hv, hc⟩ := p_upper h
  obtain ⟨z, rfl⟩ := KV_long hv rfl
  refine LW.V_al i_L_law_1426 rfl ?_
  refine LW.V_callV0 (mc' := 0) (ms' := 0) i_L_law_1427 mi_X10_upper hc rfl ⟨_, _, rfl⟩ (by decide) (Nat.le_of_ble_eq_true rfl) (by decide) (by decide) (fun _ _ _ _ _ q => by rw [q.1]; rfl) (fun r sh' R' I1 J1 q => ?_)
  obtain ⟨rfl, rfl, rfl, hc2⟩ := q
  show VL 1430 (lcL i) [.long z] I1 J1 Q
  refine LW.V_al i_L_law_1430 rfl ?_
  refine LW.V_callV0 (mc' := 0) (ms' := 0) i_L_law_1431 mi_X11_upper hc2 rfl ⟨_, _, rfl⟩ (by decide) (Nat.le_of_ble_eq_true rfl) (by decide) (by decide) (fun _ _ _ _ _ q => by rw [q.1]; rfl) (fun r sh' R' I2 J2 q => ?_)
  obtain ⟨rfl, rfl, rfl, h2⟩ := q
  show VL 1434 (lcL i) [.long z, .long z] I2 J2 Q
  refine LW.V_lcmp i_L_law_1434 ?_
  exact LW.V_if_eq_t i_L_law_1435 (cmp_self z) (k I2 J2 h2)
set_option maxRecDepth 100000 in
set_option maxHeartbeats 4000000 in
theorem lc_43 {I : IntM} {J : LngM} {i : Nat} {Q : LW.ScrT} (h : Inv I J) (hi : i + 6 ≤ Q.2.1) (k : ∀ I' J', Inv I' J' → VL 1527 (lcL i) [] I' J' Q) : VL 1440 (lcL i) [] I J Q := by
  obtain ⟨v, hv, hc⟩ := p_lower h
  obtain ⟨z, rfl⟩ := KV_long hv rfl
  refine LW.V_al i_L_law_1440 rfl ?_
  refine LW.V_callV0 (mc' := 0) (ms' := 0) i_L_law_1441 mi_X10_lower hc rfl ⟨_, _, rfl⟩ (by decide) (Nat.le_of_ble_eq_true rfl) (by decide) (by decide) (fun _ _ _ _ _ q => by rw [q.1]; rfl) (fun r sh' R' I1 J1 q => ?_)
  obtain ⟨rfl, rfl, rfl, hc2⟩ := q
  show VL 1444 (lcL i) [.long z] I1 J1 Q
  refine LW.V_al i_L_law_1444 rfl ?_
  refine LW.V_callV0 (mc' := 0) (ms' := 0) i_L_law_1445 mi_X11_lower hc2 rfl ⟨_, _, rfl⟩ (by decide) (Nat.le_of_ble_eq_true rfl) (by decide) (by decide) (fun _ _ _ _ _ q => by rw [q.1]; rfl) (fun r sh' R' I2 J2 q => ?_)
  obtain ⟨rfl, rfl, rfl, h2⟩ := q
  show VL 1448 (lcL i) [.long z, .long z] I2 J2 Q
  refine LW.V_lcmp i_L_law_1448 ?_
  exact LW.V_if_eq_t i_L_law_1449 (cmp_self z) (k I2 J2 h2)
set_option maxRecDepth 100000 in
set_option maxHeartbeats 4000000 in
theorem lc_44 {I : IntM} {J : LngM} {i : Nat} {Q : LW.ScrT} (h : Inv I J) (hi : i + 6 ≤ Q.2.1) (k : ∀ I' J', Inv I' J' → VL 1527 (lcL i) [] I' J' Q) : VL 1454 (lcL i) [] I J Q := by
  obtain ⟨v, hv, hc⟩ := p_count h (Q.2.2 (i + 1))
  obtain ⟨z, rfl⟩ := KV_int hv rfl
  refine LW.V_al i_L_law_1454 rfl ?_
  refine LW.V_sld (i := i) (kk := 1) i_L_law_1455 i_L_law_1456 i_L_law_1457 i_L_law_1458 i_L_law_1459 rfl (by omega) ?_
  refine LW.V_callV1 (mc' := 0) (ms' := 0) i_L_law_1460 mi_X10_count hc rfl ⟨_, _, rfl⟩ (by decide) (Nat.le_of_ble_eq_true rfl) (by decide) (by decide) (fun _ _ _ _ _ q => by rw [q.1]; rfl) (fun r sh' R' I1 J1 q => ?_)
  obtain ⟨rfl, rfl, rfl, hc2⟩ := q
  show VL 1463 (lcL i) [.int z] I1 J1 Q
  refine LW.V_al i_L_law_1463 rfl ?_
  refine LW.V_sld (i := i) (kk := 1) i_L_law_1464 i_L_law_1465 i_L_law_1466 i_L_law_1467 i_L_law_1468 rfl (by omega) ?_
  refine LW.V_callV1 (mc' := 0) (ms' := 0) i_L_law_1469 mi_X11_count hc2 rfl ⟨_, _, rfl⟩ (by decide) (Nat.le_of_ble_eq_true rfl) (by decide) (by decide) (fun _ _ _ _ _ q => by rw [q.1]; rfl) (fun r sh' R' I2 J2 q => ?_)
  obtain ⟨rfl, rfl, rfl, h2⟩ := q
  show VL 1472 (lcL i) [.int z, .int z] I2 J2 Q
  exact LW.V_ic_eq_t i_L_law_1472 rfl (k I2 J2 h2)
set_option maxRecDepth 100000 in
set_option maxHeartbeats 4000000 in
theorem lc_45 {I : IntM} {J : LngM} {i : Nat} {Q : LW.ScrT} (h : Inv I J) (hi : i + 6 ≤ Q.2.1) (k : ∀ I' J', Inv I' J' → VL 1527 (lcL i) [] I' J' Q) : VL 1477 (lcL i) [] I J Q := by
  obtain ⟨v, hv, hc⟩ := p_finding h
  obtain ⟨z, rfl⟩ := KV_int hv rfl
  refine LW.V_al i_L_law_1477 rfl ?_
  refine LW.V_callV0 (mc' := 0) (ms' := 0) i_L_law_1478 mi_X10_finding hc rfl ⟨_, _, rfl⟩ (by decide) (Nat.le_of_ble_eq_true rfl) (by decide) (by decide) (fun _ _ _ _ _ q => by rw [q.1]; rfl) (fun r sh' R' I1 J1 q => ?_)
  obtain ⟨rfl, rfl, rfl, hc2⟩ := q
  show VL 1481 (lcL i) [.int z] I1 J1 Q
  refine LW.V_al i_L_law_1481 rfl ?_
  refine LW.V_callV0 (mc' := 0) (ms' := 0) i_L_law_1482 mi_X11_finding hc2 rfl ⟨_, _, rfl⟩ (by decide) (Nat.le_of_ble_eq_true rfl) (by decide) (by decide) (fun _ _ _ _ _ q => by rw [q.1]; rfl) (fun r sh' R' I2 J2 q => ?_)
  obtain ⟨rfl, rfl, rfl, h2⟩ := q
  show VL 1485 (lcL i) [.int z, .int z] I2 J2 Q
  exact LW.V_ic_eq_t i_L_law_1485 rfl (k I2 J2 h2)
set_option maxRecDepth 100000 in
set_option maxHeartbeats 4000000 in
theorem lc_46 {I : IntM} {J : LngM} {i : Nat} {Q : LW.ScrT} (h : Inv I J) (hi : i + 6 ≤ Q.2.1) (k : ∀ I' J', Inv I' J' → VL 1527 (lcL i) [] I' J' Q) : VL 1490 (lcL i) [] I J Q := by
  obtain ⟨v, hv, hc⟩ := p_findings h (Q.2.2 (i + 1))
  obtain ⟨z, rfl⟩ := KV_int hv rfl
  refine LW.V_al i_L_law_1490 rfl ?_
  refine LW.V_sld (i := i) (kk := 1) i_L_law_1491 i_L_law_1492 i_L_law_1493 i_L_law_1494 i_L_law_1495 rfl (by omega) ?_
  refine LW.V_callV1 (mc' := 0) (ms' := 0) i_L_law_1496 mi_X10_findings hc rfl ⟨_, _, rfl⟩ (by decide) (Nat.le_of_ble_eq_true rfl) (by decide) (by decide) (fun _ _ _ _ _ q => by rw [q.1]; rfl) (fun r sh' R' I1 J1 q => ?_)
  obtain ⟨rfl, rfl, rfl, hc2⟩ := q
  show VL 1499 (lcL i) [.int z] I1 J1 Q
  refine LW.V_al i_L_law_1499 rfl ?_
  refine LW.V_sld (i := i) (kk := 1) i_L_law_1500 i_L_law_1501 i_L_law_1502 i_L_law_1503 i_L_law_1504 rfl (by omega) ?_
  refine LW.V_callV1 (mc' := 0) (ms' := 0) i_L_law_1505 mi_X11_findings hc2 rfl ⟨_, _, rfl⟩ (by decide) (Nat.le_of_ble_eq_true rfl) (by decide) (by decide) (fun _ _ _ _ _ q => by rw [q.1]; rfl) (fun r sh' R' I2 J2 q => ?_)
  obtain ⟨rfl, rfl, rfl, h2⟩ := q
  show VL 1508 (lcL i) [.int z, .int z] I2 J2 Q
  exact LW.V_ic_eq_t i_L_law_1508 rfl (k I2 J2 h2)
set_option maxRecDepth 100000 in
set_option maxHeartbeats 4000000 in
theorem lc_47 {I : IntM} {J : LngM} {i : Nat} {Q : LW.ScrT} (h : Inv I J) (hi : i + 6 ≤ Q.2.1) (k : ∀ I' J', Inv I' J' → VL 1527 (lcL i) [] I' J' Q) : VL 1513 (lcL i) [] I J Q := by
  obtain ⟨v, hv, hc⟩ := p_digest h
  obtain ⟨z, rfl⟩ := KV_long hv rfl
  refine LW.V_al i_L_law_1513 rfl ?_
  refine LW.V_callV0 (mc' := 0) (ms' := 0) i_L_law_1514 mi_X10_digest hc rfl ⟨_, _, rfl⟩ (by decide) (Nat.le_of_ble_eq_true rfl) (by decide) (by decide) (fun _ _ _ _ _ q => by rw [q.1]; rfl) (fun r sh' R' I1 J1 q => ?_)
  obtain ⟨rfl, rfl, rfl, hc2⟩ := q
  show VL 1517 (lcL i) [.long z] I1 J1 Q
  refine LW.V_al i_L_law_1517 rfl ?_
  refine LW.V_callV0 (mc' := 0) (ms' := 0) i_L_law_1518 mi_X11_digest hc2 rfl ⟨_, _, rfl⟩ (by decide) (Nat.le_of_ble_eq_true rfl) (by decide) (by decide) (fun _ _ _ _ _ q => by rw [q.1]; rfl) (fun r sh' R' I2 J2 q => ?_)
  obtain ⟨rfl, rfl, rfl, h2⟩ := q
  show VL 1521 (lcL i) [.long z, .long z] I2 J2 Q
  refine LW.V_lcmp i_L_law_1521 ?_
  exact LW.V_if_eq_t i_L_law_1522 (cmp_self z) (k I2 J2 h2)
set_option maxRecDepth 100000 in
set_option maxHeartbeats 8000000 in
theorem lc_all {I : IntM} {J : LngM} {i : Nat} {Q : LW.ScrT} (h : Inv I J) (hi : i + 6 ≤ Q.2.1) (x : Int32) (k : ∀ I' J', Inv I' J' → VL 1527 (lcL i) [] I' J' Q) : VL 33 (lcL i) [.int x] I J Q := by
  by_cases hx : x.toInt < 0 ∨ 47 < x.toInt
  · exact LW.V_tswOut i_L_law_33 hx (by decide) (k I J h)
  have e : x.toInt = ((x.toInt.toNat : Nat) : Int) := by omega
  have hn : x.toInt.toNat < 48 := by omega
  generalize x.toInt.toNat = n at e hn
  have key : n = 0 ∨ n = 1 ∨ n = 2 ∨ n = 3 ∨ n = 4 ∨ n = 5 ∨ n = 6 ∨ n = 7 ∨ n = 8 ∨ n = 9 ∨ n = 10 ∨ n = 11 ∨ n = 12 ∨ n = 13 ∨ n = 14 ∨ n = 15 ∨ n = 16 ∨ n = 17 ∨ n = 18 ∨ n = 19 ∨ n = 20 ∨ n = 21 ∨ n = 22 ∨ n = 23 ∨ n = 24 ∨ n = 25 ∨ n = 26 ∨ n = 27 ∨ n = 28 ∨ n = 29 ∨ n = 30 ∨ n = 31 ∨ n = 32 ∨ n = 33 ∨ n = 34 ∨ n = 35 ∨ n = 36 ∨ n = 37 ∨ n = 38 ∨ n = 39 ∨ n = 40 ∨ n = 41 ∨ n = 42 ∨ n = 43 ∨ n = 44 ∨ n = 45 ∨ n = 46 ∨ n = 47 := by omega
  rcases key with rfl | rfl | rfl | rfl | rfl | rfl | rfl | rfl | rfl | rfl | rfl | rfl | rfl | rfl | rfl | rfl | rfl | rfl | rfl | rfl | rfl | rfl | rfl | rfl | rfl | rfl | rfl | rfl | rfl | rfl | rfl | rfl | rfl | rfl | rfl | rfl | rfl | rfl | rfl | rfl | rfl | rfl | rfl | rfl | rfl | rfl | rfl | rfl
  · exact LW.V_tswIn (off := 207) (tgt := 240) i_L_law_33 (by omega) (by omega) (by rw [e]; rfl) (by decide) (lc_0 h hi k)
  · exact LW.V_tswIn (off := 240) (tgt := 273) i_L_law_33 (by omega) (by omega) (by rw [e]; rfl) (by decide) (lc_1 h hi k)
  · exact LW.V_tswIn (off := 283) (tgt := 316) i_L_law_33 (by omega) (by omega) (by rw [e]; rfl) (by decide) (lc_2 h hi k)
  · exact LW.V_tswIn (off := 316) (tgt := 349) i_L_law_33 (by omega) (by omega) (by rw [e]; rfl) (by decide) (lc_3 h hi k)
  · exact LW.V_tswIn (off := 339) (tgt := 372) i_L_law_33 (by omega) (by omega) (by rw [e]; rfl) (by decide) (lc_4 h hi k)
  · exact LW.V_tswIn (off := 402) (tgt := 435) i_L_law_33 (by omega) (by omega) (by rw [e]; rfl) (by decide) (lc_5 h hi k)
  · exact LW.V_tswIn (off := 425) (tgt := 458) i_L_law_33 (by omega) (by omega) (by rw [e]; rfl) (by decide) (lc_6 h hi k)
  · exact LW.V_tswIn (off := 458) (tgt := 491) i_L_law_33 (by omega) (by omega) (by rw [e]; rfl) (by decide) (lc_7 h hi k)
  · exact LW.V_tswIn (off := 501) (tgt := 534) i_L_law_33 (by omega) (by omega) (by rw [e]; rfl) (by decide) (lc_8 h hi k)
  · exact LW.V_tswIn (off := 524) (tgt := 557) i_L_law_33 (by omega) (by omega) (by rw [e]; rfl) (by decide) (lc_9 h hi k)
  · exact LW.V_tswIn (off := 547) (tgt := 580) i_L_law_33 (by omega) (by omega) (by rw [e]; rfl) (by decide) (lc_10 h hi k)
  · exact LW.V_tswIn (off := 580) (tgt := 613) i_L_law_33 (by omega) (by omega) (by rw [e]; rfl) (by decide) (lc_11 h hi k)
  · exact LW.V_tswIn (off := 613) (tgt := 646) i_L_law_33 (by omega) (by omega) (by rw [e]; rfl) (by decide) (lc_12 h hi k)
  · exact LW.V_tswIn (off := 636) (tgt := 669) i_L_law_33 (by omega) (by omega) (by rw [e]; rfl) (by decide) (lc_13 h hi k)
  · exact LW.V_tswIn (off := 659) (tgt := 692) i_L_law_33 (by omega) (by omega) (by rw [e]; rfl) (by decide) (lc_14 h hi k)
  · exact LW.V_tswIn (off := 692) (tgt := 725) i_L_law_33 (by omega) (by omega) (by rw [e]; rfl) (by decide) (lc_15 h hi k)
  · exact LW.V_tswIn (off := 715) (tgt := 748) i_L_law_33 (by omega) (by omega) (by rw [e]; rfl) (by decide) (lc_16 h hi k)
  · exact LW.V_tswIn (off := 738) (tgt := 771) i_L_law_33 (by omega) (by omega) (by rw [e]; rfl) (by decide) (lc_17 h hi k)
  · exact LW.V_tswIn (off := 751) (tgt := 784) i_L_law_33 (by omega) (by omega) (by rw [e]; rfl) (by decide) (lc_18 h hi k)
  · exact LW.V_tswIn (off := 774) (tgt := 807) i_L_law_33 (by omega) (by omega) (by rw [e]; rfl) (by decide) (lc_19 h hi k)
  · exact LW.V_tswIn (off := 787) (tgt := 820) i_L_law_33 (by omega) (by omega) (by rw [e]; rfl) (by decide) (lc_20 h hi k)
  · exact LW.V_tswIn (off := 800) (tgt := 833) i_L_law_33 (by omega) (by omega) (by rw [e]; rfl) (by decide) (lc_21 h hi k)
  · exact LW.V_tswIn (off := 823) (tgt := 856) i_L_law_33 (by omega) (by omega) (by rw [e]; rfl) (by decide) (lc_22 h hi k)
  · exact LW.V_tswIn (off := 846) (tgt := 879) i_L_law_33 (by omega) (by omega) (by rw [e]; rfl) (by decide) (lc_23 h hi k)
  · exact LW.V_tswIn (off := 869) (tgt := 902) i_L_law_33 (by omega) (by omega) (by rw [e]; rfl) (by decide) (lc_24 h hi k)
  · exact LW.V_tswIn (off := 912) (tgt := 945) i_L_law_33 (by omega) (by omega) (by rw [e]; rfl) (by decide) (lc_25 h hi k)
  · exact LW.V_tswIn (off := 945) (tgt := 978) i_L_law_33 (by omega) (by omega) (by rw [e]; rfl) (by decide) (lc_26 h hi k)
  · exact LW.V_tswIn (off := 968) (tgt := 1001) i_L_law_33 (by omega) (by omega) (by rw [e]; rfl) (by decide) (lc_27 h hi k)
  · exact LW.V_tswIn (off := 1001) (tgt := 1034) i_L_law_33 (by omega) (by omega) (by rw [e]; rfl) (by decide) (lc_28 h hi k)
  · exact LW.V_tswIn (off := 1024) (tgt := 1057) i_L_law_33 (by omega) (by omega) (by rw [e]; rfl) (by decide) (lc_29 h hi k)
  · exact LW.V_tswIn (off := 1047) (tgt := 1080) i_L_law_33 (by omega) (by omega) (by rw [e]; rfl) (by decide) (lc_30 h hi k)
  · exact LW.V_tswIn (off := 1090) (tgt := 1123) i_L_law_33 (by omega) (by omega) (by rw [e]; rfl) (by decide) (lc_31 h hi k)
  · exact LW.V_tswIn (off := 1123) (tgt := 1156) i_L_law_33 (by omega) (by omega) (by rw [e]; rfl) (by decide) (lc_32 h hi k)
  · exact LW.V_tswIn (off := 1146) (tgt := 1179) i_L_law_33 (by omega) (by omega) (by rw [e]; rfl) (by decide) (lc_33 h hi k)
  · exact LW.V_tswIn (off := 1159) (tgt := 1192) i_L_law_33 (by omega) (by omega) (by rw [e]; rfl) (by decide) (lc_34 h hi k)
  · exact LW.V_tswIn (off := 1172) (tgt := 1205) i_L_law_33 (by omega) (by omega) (by rw [e]; rfl) (by decide) (lc_35 h hi k)
  · exact LW.V_tswIn (off := 1195) (tgt := 1228) i_L_law_33 (by omega) (by omega) (by rw [e]; rfl) (by decide) (lc_36 h hi k)
  · exact LW.V_tswIn (off := 1218) (tgt := 1251) i_L_law_33 (by omega) (by omega) (by rw [e]; rfl) (by decide) (lc_37 h hi k)
  · exact LW.V_tswIn (off := 1261) (tgt := 1294) i_L_law_33 (by omega) (by omega) (by rw [e]; rfl) (by decide) (lc_38 h hi k)
  · exact LW.V_tswIn (off := 1294) (tgt := 1327) i_L_law_33 (by omega) (by omega) (by rw [e]; rfl) (by decide) (lc_39 h hi k)
  · exact LW.V_tswIn (off := 1327) (tgt := 1360) i_L_law_33 (by omega) (by omega) (by rw [e]; rfl) (by decide) (lc_40 h hi k)
  · exact LW.V_tswIn (off := 1380) (tgt := 1413) i_L_law_33 (by omega) (by omega) (by rw [e]; rfl) (by decide) (lc_41 h hi k)
  · exact LW.V_tswIn (off := 1393) (tgt := 1426) i_L_law_33 (by omega) (by omega) (by rw [e]; rfl) (by decide) (lc_42 h hi k)
  · exact LW.V_tswIn (off := 1407) (tgt := 1440) i_L_law_33 (by omega) (by omega) (by rw [e]; rfl) (by decide) (lc_43 h hi k)
  · exact LW.V_tswIn (off := 1421) (tgt := 1454) i_L_law_33 (by omega) (by omega) (by rw [e]; rfl) (by decide) (lc_44 h hi k)
  · exact LW.V_tswIn (off := 1444) (tgt := 1477) i_L_law_33 (by omega) (by omega) (by rw [e]; rfl) (by decide) (lc_45 h hi k)
  · exact LW.V_tswIn (off := 1457) (tgt := 1490) i_L_law_33 (by omega) (by omega) (by rw [e]; rfl) (by decide) (lc_46 h hi k)
  · exact LW.V_tswIn (off := 1480) (tgt := 1513) i_L_law_33 (by omega) (by omega) (by rw [e]; rfl) (by decide) (lc_47 h hi k)

/-! ===== the loop ===== -/
theorem lp_lt {L i : Nat} (hL : L ≤ 3072) (hi : i ≤ 3078) : Int32.ofNat L - 6 < nI i ↔ ¬ i + 6 ≤ L := by
  have e1 : (Int32.ofNat L).toInt = (L : Int) := nI_toInt (by omega)
  have e2 : (nI i).toInt = (i : Int) := nI_toInt (by omega)
  have e3 : (Int32.ofNat L - 6).toInt = (L : Int) - 6 := by
    rw [Int32.toInt_sub, e1]
    have : (6 : Int32).toInt = 6 := rfl
    rw [this]
    exact Int.bmod_eq_of_le (by omega) (by omega)
  rw [Int32.lt_iff_toInt_lt, e2, e3]
  omega
set_option maxRecDepth 100000 in
set_option maxHeartbeats 4000000 in
theorem lp_law {Q : LW.ScrT} (hL : Q.2.1 ≤ 3072) : ∀ (n i : Nat), i ≤ 3078 → Q.2.1 + 6 ≤ i + n → ∀ (I : IntM) (J : LngM), Inv I J → VL 18 (lcL i) [] I J Q := by
  intro n
  induction n with
  | zero =>
    intro i hi hn I J h
    refine LW.V_il i_L_law_18 rfl ?_
    refine LW.V_slen i_L_law_19 i_L_law_20 ?_
    refine LW.V_c i_L_law_21 ?_
    refine LW.V_isub i_L_law_23 ?_
    refine LW.V_ic_gt_t i_L_law_24 ((lp_lt hL hi).mpr (by omega)) ?_
    refine LW.V_c i_L_law_1533 ?_
    exact LW.V_lret i_L_law_1534 (by decide) (by decide)
  | succ n ih =>
    intro i hi hn I J h
    refine LW.V_il i_L_law_18 rfl ?_
    refine LW.V_slen i_L_law_19 i_L_law_20 ?_
    refine LW.V_c i_L_law_21 ?_
    refine LW.V_isub i_L_law_23 ?_
    by_cases hx : i + 6 ≤ Q.2.1
    · refine LW.V_ic_gt_f i_L_law_24 (fun z => (lp_lt hL hi).mp z hx) ?_
      refine LW.V_sld0 (i := i) i_L_law_27 i_L_law_28 i_L_law_29 rfl (by omega) ?_
      refine LW.V_c i_L_law_30 ?_
      refine LW.V_iand i_L_law_32 ?_
      refine lc_all h hx _ (fun I' J' h' => ?_)
      refine LW.V_iinc (L' := lcL (i + 6)) (n' := 6) i_L_law_1527 (by decide) rfl (by decide) (by decide) ⟨rfl, rfl, ?_, trivial⟩ ?_
      · show some (Value.int (nI i + 6)) = some (Value.int (nI (i + 6)))
        rw [show (6 : Int32) = nI 6 from rfl, nI_add]
      refine LW.V_goto i_L_law_1530 ?_
      exact ih (i + 6) (by omega) (by omega) I' J' h'
    · refine LW.V_ic_gt_t i_L_law_24 ((lp_lt hL hi).mpr hx) ?_
      refine LW.V_c i_L_law_1533 ?_
      exact LW.V_lret i_L_law_1534 (by decide) (by decide)

