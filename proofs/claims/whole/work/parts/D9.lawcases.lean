/-! ===== the law's cases ===== -/
abbrev lLv (b B : Nat) (i : Int) : List (Option Value) := [some (.ref b), some (.ref B), some (.ref (B + 86)), some (.ref (B + 110)), some (vi i), none, none]
/-- the case's end -/
def lEnd (G : zG) (B b L : Nat) (xs : Nat → Int32) (cb sb : Nat) (i : Int) : Prop := ∀ (σ τ σ2 τ2 : zSt) (u : Int) (A : zA), zxR B σ τ A → zmR (B + 86) σ2 τ2 A → gV (lX G B b L xs) (lH G B σ τ σ2 τ2 u cb sb) 2412 (lLv b B i) []
section LL
variable {G : zG} {B b L : Nat} {xs : Nat → Int32} {σ τ σ2 τ2 : zSt} {u : Int} {cb sb : Nat} {i : Int} {A : zA}
/-- feed -/
theorem L_0 (hL : L ≤ 3584) (hi : 0 ≤ i ∧ i + 7 ≤ L) (hx : zxR B σ τ A) (hm : zmR (B + 86) σ2 τ2 A) (hE : lEnd G B b L xs cb sb i) : gV (lX G B b L xs) (lH G B σ τ σ2 τ2 u cb sb) 248 (lLv b B i) [] := by
  refine gv_aload_n 249 rfl dL_law_248 rfl ?_
  refine l_arg 255 rfl dL_law_249 dL_law_250 dL_law_252 dL_law_253 dL_law_254 rfl rfl (by omega) hL ?_
  refine l_arg 261 rfl dL_law_255 dL_law_256 dL_law_258 dL_law_259 dL_law_260 rfl rfl (by omega) hL ?_
  refine l_arg 267 rfl dL_law_261 dL_law_262 dL_law_264 dL_law_265 dL_law_266 rfl rfl (by omega) hL ?_
  refine l_arg 273 rfl dL_law_267 dL_law_268 dL_law_270 dL_law_271 dL_law_272 rfl rfl (by omega) hL ?_
  refine l_arg 279 rfl dL_law_273 dL_law_274 dL_law_276 dL_law_277 dL_law_278 rfl rfl (by omega) hL ?_
  refine l_callx [vi (xs (i + 1).toNat).toInt, vi (xs (i + 2).toNat).toInt, vi (xs (i + 3).toNat).toInt, vi (xs (i + 4).toNat).toInt, vi (xs (i + 5).toNat).toInt] dL_law_279 kL_19 rfl (Nat.le_of_ble_eq_true rfl) (X_feed hx (i32_r _) (i32_r _) (i32_r _) (i32_r _) (i32_r _)) (fun r w1 hq => ?_)
  obtain ⟨rfl, σ1, τ1, rfl, hx1⟩ := hq
  refine ⟨σ1, τ1, rfl, ?_⟩
  refine gv_aload_n 283 rfl dL_law_282 rfl ?_
  refine l_arg 289 rfl dL_law_283 dL_law_284 dL_law_286 dL_law_287 dL_law_288 rfl rfl (by omega) hL ?_
  refine l_arg 295 rfl dL_law_289 dL_law_290 dL_law_292 dL_law_293 dL_law_294 rfl rfl (by omega) hL ?_
  refine l_arg 301 rfl dL_law_295 dL_law_296 dL_law_298 dL_law_299 dL_law_300 rfl rfl (by omega) hL ?_
  refine l_arg 307 rfl dL_law_301 dL_law_302 dL_law_304 dL_law_305 dL_law_306 rfl rfl (by omega) hL ?_
  refine l_arg 313 rfl dL_law_307 dL_law_308 dL_law_310 dL_law_311 dL_law_312 rfl rfl (by omega) hL ?_
  refine l_callm [vi (xs (i + 1).toNat).toInt, vi (xs (i + 2).toNat).toInt, vi (xs (i + 3).toNat).toInt, vi (xs (i + 4).toNat).toInt, vi (xs (i + 5).toNat).toInt] dL_law_313 kL_23 rfl (Nat.le_of_ble_eq_true rfl) (Y_feed hm (i32_r _) (i32_r _) (i32_r _) (i32_r _) (i32_r _)) (fun r w1 hq => ?_)
  obtain ⟨rfl, σ3, τ3, rfl, hm1⟩ := hq
  refine ⟨σ3, τ3, rfl, ?_⟩
  refine gv_same 2412 dL_law_316 rfl ?_
  exact hE _ _ _ _ _ _ hx1 hm1
/-- text -/
theorem L_1 (hL : L ≤ 3584) (hi : 0 ≤ i ∧ i + 7 ≤ L) (hx : zxR B σ τ A) (hm : zmR (B + 86) σ2 τ2 A) (hE : lEnd G B b L xs cb sb i) : gV (lX G B b L xs) (lH G B σ τ σ2 τ2 u cb sb) 321 (lLv b B i) [] := by
  refine gv_aload_n 322 rfl dL_law_321 rfl ?_
  refine l_arg 328 rfl dL_law_322 dL_law_323 dL_law_325 dL_law_326 dL_law_327 rfl rfl (by omega) hL ?_
  refine l_callx [vi (xs (i + 1).toNat).toInt] dL_law_328 kL_24 rfl (Nat.le_of_ble_eq_true rfl) (X_text hx (i32_r _)) (fun r w1 hq => ?_)
  obtain ⟨rfl, σ1, τ1, rfl, hx1⟩ := hq
  refine ⟨σ1, τ1, rfl, ?_⟩
  refine gv_aload_n 332 rfl dL_law_331 rfl ?_
  refine l_arg 338 rfl dL_law_332 dL_law_333 dL_law_335 dL_law_336 dL_law_337 rfl rfl (by omega) hL ?_
  refine l_callm [vi (xs (i + 1).toNat).toInt] dL_law_338 kL_28 rfl (Nat.le_of_ble_eq_true rfl) (Y_text hm (i32_r _)) (fun r w1 hq => ?_)
  obtain ⟨rfl, σ3, τ3, rfl, hm1⟩ := hq
  refine ⟨σ3, τ3, rfl, ?_⟩
  refine gv_same 2412 dL_law_341 rfl ?_
  exact hE _ _ _ _ _ _ hx1 hm1
/-- fault -/
theorem L_2 (hL : L ≤ 3584) (hi : 0 ≤ i ∧ i + 7 ≤ L) (hx : zxR B σ τ A) (hm : zmR (B + 86) σ2 τ2 A) (hE : lEnd G B b L xs cb sb i) : gV (lX G B b L xs) (lH G B σ τ σ2 τ2 u cb sb) 346 (lLv b B i) [] := by
  refine gv_aload_n 347 rfl dL_law_346 rfl ?_
  refine l_callx [] dL_law_347 kL_29 rfl (Nat.le_of_ble_eq_true rfl) (X_fault hx) (fun r w1 hq => ?_)
  obtain ⟨rfl, σ1, τ1, rfl, hx1⟩ := hq
  refine ⟨σ1, τ1, rfl, ?_⟩
  refine gv_aload_n 351 rfl dL_law_350 rfl ?_
  refine l_callm [] dL_law_351 kL_33 rfl (Nat.le_of_ble_eq_true rfl) (Y_fault hm) (fun r w1 hq => ?_)
  obtain ⟨rfl, σ3, τ3, rfl, hm1⟩ := hq
  refine ⟨σ3, τ3, rfl, ?_⟩
  refine gv_same 2412 dL_law_354 rfl ?_
  exact hE _ _ _ _ _ _ hx1 hm1
/-- where -/
theorem L_3 (hL : L ≤ 3584) (hi : 0 ≤ i ∧ i + 7 ≤ L) (hx : zxR B σ τ A) (hm : zmR (B + 86) σ2 τ2 A) (hE : lEnd G B b L xs cb sb i) : gV (lX G B b L xs) (lH G B σ τ σ2 τ2 u cb sb) 359 (lLv b B i) [] := by
  refine gv_aload_n 360 rfl dL_law_359 rfl ?_
  refine l_callx [] dL_law_360 kL_34 rfl (Nat.le_of_ble_eq_true rfl) (X_where hx) (fun r w1 hq => ?_)
  obtain ⟨rfl, σ1, τ1, rfl, hx1⟩ := hq
  refine ⟨σ1, τ1, rfl, ?_⟩
  refine gv_aload_n 364 rfl dL_law_363 rfl ?_
  refine l_callm [] dL_law_364 kL_37 rfl (Nat.le_of_ble_eq_true rfl) (Y_where hm) (fun r w1 hq => ?_)
  obtain ⟨rfl, σ3, τ3, rfl, hm1⟩ := hq
  refine ⟨σ3, τ3, rfl, ?_⟩
  refine gv_same 2412 dL_law_367 rfl ?_
  exact hE _ _ _ _ _ _ hx1 hm1
/-- about -/
theorem L_4 (hL : L ≤ 3584) (hi : 0 ≤ i ∧ i + 7 ≤ L) (hx : zxR B σ τ A) (hm : zmR (B + 86) σ2 τ2 A) (hE : lEnd G B b L xs cb sb i) : gV (lX G B b L xs) (lH G B σ τ σ2 τ2 u cb sb) 372 (lLv b B i) [] := by
  refine gv_aload_n 373 rfl dL_law_372 rfl ?_
  refine l_arg 379 rfl dL_law_373 dL_law_374 dL_law_376 dL_law_377 dL_law_378 rfl rfl (by omega) hL ?_
  refine l_arg 385 rfl dL_law_379 dL_law_380 dL_law_382 dL_law_383 dL_law_384 rfl rfl (by omega) hL ?_
  refine l_callx [vi (xs (i + 1).toNat).toInt, vi (xs (i + 2).toNat).toInt] dL_law_385 kL_38 rfl (Nat.le_of_ble_eq_true rfl) (X_about hx (i32_r _) (i32_r _)) (fun r w1 hq => ?_)
  obtain ⟨rfl, σ1, τ1, rfl, hx1⟩ := hq
  refine ⟨σ1, τ1, rfl, ?_⟩
  refine gv_aload_n 389 rfl dL_law_388 rfl ?_
  refine l_arg 395 rfl dL_law_389 dL_law_390 dL_law_392 dL_law_393 dL_law_394 rfl rfl (by omega) hL ?_
  refine l_arg 401 rfl dL_law_395 dL_law_396 dL_law_398 dL_law_399 dL_law_400 rfl rfl (by omega) hL ?_
  refine l_callm [vi (xs (i + 1).toNat).toInt, vi (xs (i + 2).toNat).toInt] dL_law_401 kL_41 rfl (Nat.le_of_ble_eq_true rfl) (Y_about hm (i32_r _) (i32_r _)) (fun r w1 hq => ?_)
  obtain ⟨rfl, σ3, τ3, rfl, hm1⟩ := hq
  refine ⟨σ3, τ3, rfl, ?_⟩
  refine gv_same 2412 dL_law_404 rfl ?_
  exact hE _ _ _ _ _ _ hx1 hm1
/-- dot -/
theorem L_5 (hL : L ≤ 3584) (hi : 0 ≤ i ∧ i + 7 ≤ L) (hx : zxR B σ τ A) (hm : zmR (B + 86) σ2 τ2 A) (hE : lEnd G B b L xs cb sb i) : gV (lX G B b L xs) (lH G B σ τ σ2 τ2 u cb sb) 409 (lLv b B i) [] := by
  refine gv_aload_n 410 rfl dL_law_409 rfl ?_
  refine l_arg 416 rfl dL_law_410 dL_law_411 dL_law_413 dL_law_414 dL_law_415 rfl rfl (by omega) hL ?_
  refine l_arg 422 rfl dL_law_416 dL_law_417 dL_law_419 dL_law_420 dL_law_421 rfl rfl (by omega) hL ?_
  refine l_arg 428 rfl dL_law_422 dL_law_423 dL_law_425 dL_law_426 dL_law_427 rfl rfl (by omega) hL ?_
  refine l_callx [vi (xs (i + 1).toNat).toInt, vi (xs (i + 2).toNat).toInt, vi (xs (i + 3).toNat).toInt] dL_law_428 kL_42 rfl (Nat.le_of_ble_eq_true rfl) (X_dot hx (i32_r _) (i32_r _) (i32_r _)) (fun r w1 hq => ?_)
  obtain ⟨rfl, σ1, τ1, rfl, hx1⟩ := hq
  refine ⟨σ1, τ1, rfl, ?_⟩
  refine gv_aload_n 432 rfl dL_law_431 rfl ?_
  refine l_arg 438 rfl dL_law_432 dL_law_433 dL_law_435 dL_law_436 dL_law_437 rfl rfl (by omega) hL ?_
  refine l_arg 444 rfl dL_law_438 dL_law_439 dL_law_441 dL_law_442 dL_law_443 rfl rfl (by omega) hL ?_
  refine l_arg 450 rfl dL_law_444 dL_law_445 dL_law_447 dL_law_448 dL_law_449 rfl rfl (by omega) hL ?_
  refine l_callm [vi (xs (i + 1).toNat).toInt, vi (xs (i + 2).toNat).toInt, vi (xs (i + 3).toNat).toInt] dL_law_450 kL_46 rfl (Nat.le_of_ble_eq_true rfl) (Y_dot hm (i32_r _) (i32_r _) (i32_r _)) (fun r w1 hq => ?_)
  obtain ⟨rfl, σ3, τ3, rfl, hm1⟩ := hq
  refine ⟨σ3, τ3, rfl, ?_⟩
  refine gv_same 2412 dL_law_453 rfl ?_
  exact hE _ _ _ _ _ _ hx1 hm1
/-- often -/
theorem L_6 (hL : L ≤ 3584) (hi : 0 ≤ i ∧ i + 7 ≤ L) (hx : zxR B σ τ A) (hm : zmR (B + 86) σ2 τ2 A) (hE : lEnd G B b L xs cb sb i) : gV (lX G B b L xs) (lH G B σ τ σ2 τ2 u cb sb) 458 (lLv b B i) [] := by
  refine gv_aload_n 459 rfl dL_law_458 rfl ?_
  refine l_arg 465 rfl dL_law_459 dL_law_460 dL_law_462 dL_law_463 dL_law_464 rfl rfl (by omega) hL ?_
  refine l_arg 471 rfl dL_law_465 dL_law_466 dL_law_468 dL_law_469 dL_law_470 rfl rfl (by omega) hL ?_
  refine l_callx [vi (xs (i + 1).toNat).toInt, vi (xs (i + 2).toNat).toInt] dL_law_471 kL_47 rfl (Nat.le_of_ble_eq_true rfl) (X_often hx (i32_r _) (i32_r _)) (fun r w1 hq => ?_)
  obtain ⟨rfl, σ1, τ1, rfl, hx1⟩ := hq
  refine ⟨σ1, τ1, rfl, ?_⟩
  refine gv_aload_n 475 rfl dL_law_474 rfl ?_
  refine l_arg 481 rfl dL_law_475 dL_law_476 dL_law_478 dL_law_479 dL_law_480 rfl rfl (by omega) hL ?_
  refine l_arg 487 rfl dL_law_481 dL_law_482 dL_law_484 dL_law_485 dL_law_486 rfl rfl (by omega) hL ?_
  refine l_callm [vi (xs (i + 1).toNat).toInt, vi (xs (i + 2).toNat).toInt] dL_law_487 kL_50 rfl (Nat.le_of_ble_eq_true rfl) (Y_often hm (i32_r _) (i32_r _)) (fun r w1 hq => ?_)
  obtain ⟨rfl, σ3, τ3, rfl, hm1⟩ := hq
  refine ⟨σ3, τ3, rfl, ?_⟩
  refine gv_same 2412 dL_law_490 rfl ?_
  exact hE _ _ _ _ _ _ hx1 hm1
/-- set -/
theorem L_7 (hL : L ≤ 3584) (hi : 0 ≤ i ∧ i + 7 ≤ L) (hx : zxR B σ τ A) (hm : zmR (B + 86) σ2 τ2 A) (hE : lEnd G B b L xs cb sb i) : gV (lX G B b L xs) (lH G B σ τ σ2 τ2 u cb sb) 495 (lLv b B i) [] := by
  refine gv_aload_n 496 rfl dL_law_495 rfl ?_
  refine l_arg 502 rfl dL_law_496 dL_law_497 dL_law_499 dL_law_500 dL_law_501 rfl rfl (by omega) hL ?_
  refine l_arg 508 rfl dL_law_502 dL_law_503 dL_law_505 dL_law_506 dL_law_507 rfl rfl (by omega) hL ?_
  refine l_arg 514 rfl dL_law_508 dL_law_509 dL_law_511 dL_law_512 dL_law_513 rfl rfl (by omega) hL ?_
  refine l_arg 520 rfl dL_law_514 dL_law_515 dL_law_517 dL_law_518 dL_law_519 rfl rfl (by omega) hL ?_
  refine l_callx [vi (xs (i + 1).toNat).toInt, vi (xs (i + 2).toNat).toInt, vi (xs (i + 3).toNat).toInt, vi (xs (i + 4).toNat).toInt] dL_law_520 kL_51 rfl (Nat.le_of_ble_eq_true rfl) (X_set hx (i32_r _) (i32_r _) (i32_r _) (i32_r _)) (fun r w1 hq => ?_)
  obtain ⟨rfl, σ1, τ1, rfl, hx1⟩ := hq
  refine ⟨σ1, τ1, rfl, ?_⟩
  refine gv_aload_n 524 rfl dL_law_523 rfl ?_
  refine l_arg 530 rfl dL_law_524 dL_law_525 dL_law_527 dL_law_528 dL_law_529 rfl rfl (by omega) hL ?_
  refine l_arg 536 rfl dL_law_530 dL_law_531 dL_law_533 dL_law_534 dL_law_535 rfl rfl (by omega) hL ?_
  refine l_arg 542 rfl dL_law_536 dL_law_537 dL_law_539 dL_law_540 dL_law_541 rfl rfl (by omega) hL ?_
  refine l_arg 548 rfl dL_law_542 dL_law_543 dL_law_545 dL_law_546 dL_law_547 rfl rfl (by omega) hL ?_
  refine l_callm [vi (xs (i + 1).toNat).toInt, vi (xs (i + 2).toNat).toInt, vi (xs (i + 3).toNat).toInt, vi (xs (i + 4).toNat).toInt] dL_law_548 kL_55 rfl (Nat.le_of_ble_eq_true rfl) (Y_set hm (i32_r _) (i32_r _) (i32_r _) (i32_r _)) (fun r w1 hq => ?_)
  obtain ⟨rfl, σ3, τ3, rfl, hm1⟩ := hq
  refine ⟨σ3, τ3, rfl, ?_⟩
  refine gv_same 2412 dL_law_551 rfl ?_
  exact hE _ _ _ _ _ _ hx1 hm1
/-- fill -/
theorem L_8 (hL : L ≤ 3584) (hi : 0 ≤ i ∧ i + 7 ≤ L) (hx : zxR B σ τ A) (hm : zmR (B + 86) σ2 τ2 A) (hE : lEnd G B b L xs cb sb i) : gV (lX G B b L xs) (lH G B σ τ σ2 τ2 u cb sb) 556 (lLv b B i) [] := by
  refine gv_aload_n 557 rfl dL_law_556 rfl ?_
  refine l_arg 563 rfl dL_law_557 dL_law_558 dL_law_560 dL_law_561 dL_law_562 rfl rfl (by omega) hL ?_
  refine l_arg 569 rfl dL_law_563 dL_law_564 dL_law_566 dL_law_567 dL_law_568 rfl rfl (by omega) hL ?_
  refine l_arg 575 rfl dL_law_569 dL_law_570 dL_law_572 dL_law_573 dL_law_574 rfl rfl (by omega) hL ?_
  refine l_arg 581 rfl dL_law_575 dL_law_576 dL_law_578 dL_law_579 dL_law_580 rfl rfl (by omega) hL ?_
  refine l_callx [vi (xs (i + 1).toNat).toInt, vi (xs (i + 2).toNat).toInt, vi (xs (i + 3).toNat).toInt, vi (xs (i + 4).toNat).toInt] dL_law_581 kL_56 rfl (Nat.le_of_ble_eq_true rfl) (X_fill hx (i32_r _) (i32_r _) (i32_r _) (i32_r _)) (fun r w1 hq => ?_)
  obtain ⟨rfl, σ1, τ1, rfl, hx1⟩ := hq
  refine ⟨σ1, τ1, rfl, ?_⟩
  refine gv_aload_n 585 rfl dL_law_584 rfl ?_
  refine l_arg 591 rfl dL_law_585 dL_law_586 dL_law_588 dL_law_589 dL_law_590 rfl rfl (by omega) hL ?_
  refine l_arg 597 rfl dL_law_591 dL_law_592 dL_law_594 dL_law_595 dL_law_596 rfl rfl (by omega) hL ?_
  refine l_arg 603 rfl dL_law_597 dL_law_598 dL_law_600 dL_law_601 dL_law_602 rfl rfl (by omega) hL ?_
  refine l_arg 609 rfl dL_law_603 dL_law_604 dL_law_606 dL_law_607 dL_law_608 rfl rfl (by omega) hL ?_
  refine l_callm [vi (xs (i + 1).toNat).toInt, vi (xs (i + 2).toNat).toInt, vi (xs (i + 3).toNat).toInt, vi (xs (i + 4).toNat).toInt] dL_law_609 kL_60 rfl (Nat.le_of_ble_eq_true rfl) (Y_fill hm (i32_r _) (i32_r _) (i32_r _) (i32_r _)) (fun r w1 hq => ?_)
  obtain ⟨rfl, σ3, τ3, rfl, hm1⟩ := hq
  refine ⟨σ3, τ3, rfl, ?_⟩
  refine gv_same 2412 dL_law_612 rfl ?_
  exact hE _ _ _ _ _ _ hx1 hm1
/-- turn -/
theorem L_9 (hL : L ≤ 3584) (hi : 0 ≤ i ∧ i + 7 ≤ L) (hx : zxR B σ τ A) (hm : zmR (B + 86) σ2 τ2 A) (hE : lEnd G B b L xs cb sb i) : gV (lX G B b L xs) (lH G B σ τ σ2 τ2 u cb sb) 617 (lLv b B i) [] := by
  refine gv_aload_n 618 rfl dL_law_617 rfl ?_
  refine l_arg 624 rfl dL_law_618 dL_law_619 dL_law_621 dL_law_622 dL_law_623 rfl rfl (by omega) hL ?_
  refine l_arg 630 rfl dL_law_624 dL_law_625 dL_law_627 dL_law_628 dL_law_629 rfl rfl (by omega) hL ?_
  refine l_arg 636 rfl dL_law_630 dL_law_631 dL_law_633 dL_law_634 dL_law_635 rfl rfl (by omega) hL ?_
  refine l_callx [vi (xs (i + 1).toNat).toInt, vi (xs (i + 2).toNat).toInt, vi (xs (i + 3).toNat).toInt] dL_law_636 kL_61 rfl (Nat.le_of_ble_eq_true rfl) (X_turn hx (i32_r _) (i32_r _) (i32_r _)) (fun r w1 hq => ?_)
  obtain ⟨rfl, σ1, τ1, rfl, hx1⟩ := hq
  refine ⟨σ1, τ1, rfl, ?_⟩
  refine gv_aload_n 640 rfl dL_law_639 rfl ?_
  refine l_arg 646 rfl dL_law_640 dL_law_641 dL_law_643 dL_law_644 dL_law_645 rfl rfl (by omega) hL ?_
  refine l_arg 652 rfl dL_law_646 dL_law_647 dL_law_649 dL_law_650 dL_law_651 rfl rfl (by omega) hL ?_
  refine l_arg 658 rfl dL_law_652 dL_law_653 dL_law_655 dL_law_656 dL_law_657 rfl rfl (by omega) hL ?_
  refine l_callm [vi (xs (i + 1).toNat).toInt, vi (xs (i + 2).toNat).toInt, vi (xs (i + 3).toNat).toInt] dL_law_658 kL_65 rfl (Nat.le_of_ble_eq_true rfl) (Y_turn hm (i32_r _) (i32_r _) (i32_r _)) (fun r w1 hq => ?_)
  obtain ⟨rfl, σ3, τ3, rfl, hm1⟩ := hq
  refine ⟨σ3, τ3, rfl, ?_⟩
  refine gv_same 2412 dL_law_661 rfl ?_
  exact hE _ _ _ _ _ _ hx1 hm1
/-- part -/
theorem L_10 (hL : L ≤ 3584) (hi : 0 ≤ i ∧ i + 7 ≤ L) (hx : zxR B σ τ A) (hm : zmR (B + 86) σ2 τ2 A) (hE : lEnd G B b L xs cb sb i) : gV (lX G B b L xs) (lH G B σ τ σ2 τ2 u cb sb) 666 (lLv b B i) [] := by
  refine gv_aload_n 667 rfl dL_law_666 rfl ?_
  refine l_arg 673 rfl dL_law_667 dL_law_668 dL_law_670 dL_law_671 dL_law_672 rfl rfl (by omega) hL ?_
  refine l_arg 679 rfl dL_law_673 dL_law_674 dL_law_676 dL_law_677 dL_law_678 rfl rfl (by omega) hL ?_
  refine l_arg 685 rfl dL_law_679 dL_law_680 dL_law_682 dL_law_683 dL_law_684 rfl rfl (by omega) hL ?_
  refine l_arg 691 rfl dL_law_685 dL_law_686 dL_law_688 dL_law_689 dL_law_690 rfl rfl (by omega) hL ?_
  refine l_arg 697 rfl dL_law_691 dL_law_692 dL_law_694 dL_law_695 dL_law_696 rfl rfl (by omega) hL ?_
  refine l_arg6 704 rfl dL_law_697 dL_law_698 dL_law_700 rfl dL_law_702 dL_law_703 rfl rfl (by omega) hL ?_
  refine l_callx [vi (xs (i + 1).toNat).toInt, vi (xs (i + 2).toNat).toInt, vi (xs (i + 3).toNat).toInt, vi (xs (i + 4).toNat).toInt, vi (xs (i + 5).toNat).toInt, vi (xs (i + 6).toNat).toInt] dL_law_704 kL_66 rfl (Nat.le_of_ble_eq_true rfl) (X_part hx (i32_r _) (i32_r _) (i32_r _) (i32_r _) (i32_r _) (i32_r _)) (fun r w1 hq => ?_)
  obtain ⟨rfl, σ1, τ1, rfl, hx1⟩ := hq
  refine ⟨σ1, τ1, rfl, ?_⟩
  refine gv_aload_n 708 rfl dL_law_707 rfl ?_
  refine l_arg 714 rfl dL_law_708 dL_law_709 dL_law_711 dL_law_712 dL_law_713 rfl rfl (by omega) hL ?_
  refine l_arg 720 rfl dL_law_714 dL_law_715 dL_law_717 dL_law_718 dL_law_719 rfl rfl (by omega) hL ?_
  refine l_arg 726 rfl dL_law_720 dL_law_721 dL_law_723 dL_law_724 dL_law_725 rfl rfl (by omega) hL ?_
  refine l_arg 732 rfl dL_law_726 dL_law_727 dL_law_729 dL_law_730 dL_law_731 rfl rfl (by omega) hL ?_
  refine l_arg 738 rfl dL_law_732 dL_law_733 dL_law_735 dL_law_736 dL_law_737 rfl rfl (by omega) hL ?_
  refine l_arg6 745 rfl dL_law_738 dL_law_739 dL_law_741 rfl dL_law_743 dL_law_744 rfl rfl (by omega) hL ?_
  refine l_callm [vi (xs (i + 1).toNat).toInt, vi (xs (i + 2).toNat).toInt, vi (xs (i + 3).toNat).toInt, vi (xs (i + 4).toNat).toInt, vi (xs (i + 5).toNat).toInt, vi (xs (i + 6).toNat).toInt] dL_law_745 kL_70 rfl (Nat.le_of_ble_eq_true rfl) (Y_part hm (i32_r _) (i32_r _) (i32_r _) (i32_r _) (i32_r _) (i32_r _)) (fun r w1 hq => ?_)
  obtain ⟨rfl, σ3, τ3, rfl, hm1⟩ := hq
  refine ⟨σ3, τ3, rfl, ?_⟩
  refine gv_same 2412 dL_law_748 rfl ?_
  exact hE _ _ _ _ _ _ hx1 hm1
/-- noise -/
theorem L_11 (hL : L ≤ 3584) (hi : 0 ≤ i ∧ i + 7 ≤ L) (hx : zxR B σ τ A) (hm : zmR (B + 86) σ2 τ2 A) (hE : lEnd G B b L xs cb sb i) : gV (lX G B b L xs) (lH G B σ τ σ2 τ2 u cb sb) 753 (lLv b B i) [] := by
  refine gv_aload_n 754 rfl dL_law_753 rfl ?_
  refine l_arg 760 rfl dL_law_754 dL_law_755 dL_law_757 dL_law_758 dL_law_759 rfl rfl (by omega) hL ?_
  refine l_arg 766 rfl dL_law_760 dL_law_761 dL_law_763 dL_law_764 dL_law_765 rfl rfl (by omega) hL ?_
  refine l_arg 772 rfl dL_law_766 dL_law_767 dL_law_769 dL_law_770 dL_law_771 rfl rfl (by omega) hL ?_
  refine l_callx [vi (xs (i + 1).toNat).toInt, vi (xs (i + 2).toNat).toInt, vi (xs (i + 3).toNat).toInt] dL_law_772 kL_71 rfl (Nat.le_of_ble_eq_true rfl) (X_noise hx (i32_r _) (i32_r _) (i32_r _)) (fun r w1 hq => ?_)
  obtain ⟨rfl, σ1, τ1, rfl, hx1⟩ := hq
  refine ⟨σ1, τ1, rfl, ?_⟩
  refine gv_aload_n 776 rfl dL_law_775 rfl ?_
  refine l_arg 782 rfl dL_law_776 dL_law_777 dL_law_779 dL_law_780 dL_law_781 rfl rfl (by omega) hL ?_
  refine l_arg 788 rfl dL_law_782 dL_law_783 dL_law_785 dL_law_786 dL_law_787 rfl rfl (by omega) hL ?_
  refine l_arg 794 rfl dL_law_788 dL_law_789 dL_law_791 dL_law_792 dL_law_793 rfl rfl (by omega) hL ?_
  refine l_callm [vi (xs (i + 1).toNat).toInt, vi (xs (i + 2).toNat).toInt, vi (xs (i + 3).toNat).toInt] dL_law_794 kL_74 rfl (Nat.le_of_ble_eq_true rfl) (Y_noise hm (i32_r _) (i32_r _) (i32_r _)) (fun r w1 hq => ?_)
  obtain ⟨rfl, σ3, τ3, rfl, hm1⟩ := hq
  refine ⟨σ3, τ3, rfl, ?_⟩
  refine gv_same 2412 dL_law_797 rfl ?_
  exact hE _ _ _ _ _ _ hx1 hm1
/-- grid -/
theorem L_12 (hL : L ≤ 3584) (hi : 0 ≤ i ∧ i + 7 ≤ L) (hx : zxR B σ τ A) (hm : zmR (B + 86) σ2 τ2 A) (hE : lEnd G B b L xs cb sb i) : gV (lX G B b L xs) (lH G B σ τ σ2 τ2 u cb sb) 802 (lLv b B i) [] := by
  refine gv_aload_n 803 rfl dL_law_802 rfl ?_
  refine l_arg 809 rfl dL_law_803 dL_law_804 dL_law_806 dL_law_807 dL_law_808 rfl rfl (by omega) hL ?_
  refine l_arg 815 rfl dL_law_809 dL_law_810 dL_law_812 dL_law_813 dL_law_814 rfl rfl (by omega) hL ?_
  refine l_arg 821 rfl dL_law_815 dL_law_816 dL_law_818 dL_law_819 dL_law_820 rfl rfl (by omega) hL ?_
  refine l_arg 827 rfl dL_law_821 dL_law_822 dL_law_824 dL_law_825 dL_law_826 rfl rfl (by omega) hL ?_
  refine l_callx [vi (xs (i + 1).toNat).toInt, vi (xs (i + 2).toNat).toInt, vi (xs (i + 3).toNat).toInt, vi (xs (i + 4).toNat).toInt] dL_law_827 kL_75 rfl (Nat.le_of_ble_eq_true rfl) (X_grid hx (i32_r _) (i32_r _) (i32_r _) (i32_r _)) (fun r w1 hq => ?_)
  obtain ⟨rfl, σ1, τ1, rfl, hx1⟩ := hq
  refine ⟨σ1, τ1, rfl, ?_⟩
  refine gv_aload_n 831 rfl dL_law_830 rfl ?_
  refine l_arg 837 rfl dL_law_831 dL_law_832 dL_law_834 dL_law_835 dL_law_836 rfl rfl (by omega) hL ?_
  refine l_arg 843 rfl dL_law_837 dL_law_838 dL_law_840 dL_law_841 dL_law_842 rfl rfl (by omega) hL ?_
  refine l_arg 849 rfl dL_law_843 dL_law_844 dL_law_846 dL_law_847 dL_law_848 rfl rfl (by omega) hL ?_
  refine l_arg 855 rfl dL_law_849 dL_law_850 dL_law_852 dL_law_853 dL_law_854 rfl rfl (by omega) hL ?_
  refine l_callm [vi (xs (i + 1).toNat).toInt, vi (xs (i + 2).toNat).toInt, vi (xs (i + 3).toNat).toInt, vi (xs (i + 4).toNat).toInt] dL_law_855 kL_78 rfl (Nat.le_of_ble_eq_true rfl) (Y_grid hm (i32_r _) (i32_r _) (i32_r _) (i32_r _)) (fun r w1 hq => ?_)
  obtain ⟨rfl, σ3, τ3, rfl, hm1⟩ := hq
  refine ⟨σ3, τ3, rfl, ?_⟩
  refine gv_same 2412 dL_law_858 rfl ?_
  exact hE _ _ _ _ _ _ hx1 hm1
/-- gridded -/
theorem L_13 (hL : L ≤ 3584) (hi : 0 ≤ i ∧ i + 7 ≤ L) (hx : zxR B σ τ A) (hm : zmR (B + 86) σ2 τ2 A) (hE : lEnd G B b L xs cb sb i) : gV (lX G B b L xs) (lH G B σ τ σ2 τ2 u cb sb) 863 (lLv b B i) [] := by
  refine gv_aload_n 864 rfl dL_law_863 rfl ?_
  refine l_arg 870 rfl dL_law_864 dL_law_865 dL_law_867 dL_law_868 dL_law_869 rfl rfl (by omega) hL ?_
  refine l_callx [vi (xs (i + 1).toNat).toInt] dL_law_870 kL_79 rfl (Nat.le_of_ble_eq_true rfl) (X_gridded hx (i32_r _)) (fun r w1 hq => ?_)
  obtain ⟨rfl, σ1, τ1, rfl, hx1⟩ := hq
  refine ⟨σ1, τ1, rfl, ?_⟩
  refine gv_aload_n 874 rfl dL_law_873 rfl ?_
  refine l_arg 880 rfl dL_law_874 dL_law_875 dL_law_877 dL_law_878 dL_law_879 rfl rfl (by omega) hL ?_
  refine l_callm [vi (xs (i + 1).toNat).toInt] dL_law_880 kL_82 rfl (Nat.le_of_ble_eq_true rfl) (Y_gridded hm (i32_r _)) (fun r w1 hq => ?_)
  obtain ⟨rfl, σ3, τ3, rfl, hm1⟩ := hq
  refine ⟨σ3, τ3, rfl, ?_⟩
  refine gv_same 2412 dL_law_883 rfl ?_
  exact hE _ _ _ _ _ _ hx1 hm1
/-- node -/
theorem L_14 (hL : L ≤ 3584) (hi : 0 ≤ i ∧ i + 7 ≤ L) (hx : zxR B σ τ A) (hm : zmR (B + 86) σ2 τ2 A) (hE : lEnd G B b L xs cb sb i) : gV (lX G B b L xs) (lH G B σ τ σ2 τ2 u cb sb) 888 (lLv b B i) [] := by
  refine gv_aload_n 889 rfl dL_law_888 rfl ?_
  refine l_arg 895 rfl dL_law_889 dL_law_890 dL_law_892 dL_law_893 dL_law_894 rfl rfl (by omega) hL ?_
  refine l_arg 901 rfl dL_law_895 dL_law_896 dL_law_898 dL_law_899 dL_law_900 rfl rfl (by omega) hL ?_
  refine l_arg 907 rfl dL_law_901 dL_law_902 dL_law_904 dL_law_905 dL_law_906 rfl rfl (by omega) hL ?_
  refine l_arg 913 rfl dL_law_907 dL_law_908 dL_law_910 dL_law_911 dL_law_912 rfl rfl (by omega) hL ?_
  refine l_callx [vi (xs (i + 1).toNat).toInt, vi (xs (i + 2).toNat).toInt, vi (xs (i + 3).toNat).toInt, vi (xs (i + 4).toNat).toInt] dL_law_913 kL_83 rfl (Nat.le_of_ble_eq_true rfl) (X_node hx (i32_r _) (i32_r _) (i32_r _) (i32_r _)) (fun r w1 hq => ?_)
  obtain ⟨rfl, σ1, τ1, rfl, hx1⟩ := hq
  refine ⟨σ1, τ1, rfl, ?_⟩
  refine gv_aload_n 917 rfl dL_law_916 rfl ?_
  refine l_arg 923 rfl dL_law_917 dL_law_918 dL_law_920 dL_law_921 dL_law_922 rfl rfl (by omega) hL ?_
  refine l_arg 929 rfl dL_law_923 dL_law_924 dL_law_926 dL_law_927 dL_law_928 rfl rfl (by omega) hL ?_
  refine l_arg 935 rfl dL_law_929 dL_law_930 dL_law_932 dL_law_933 dL_law_934 rfl rfl (by omega) hL ?_
  refine l_arg 941 rfl dL_law_935 dL_law_936 dL_law_938 dL_law_939 dL_law_940 rfl rfl (by omega) hL ?_
  refine l_callm [vi (xs (i + 1).toNat).toInt, vi (xs (i + 2).toNat).toInt, vi (xs (i + 3).toNat).toInt, vi (xs (i + 4).toNat).toInt] dL_law_941 kL_87 rfl (Nat.le_of_ble_eq_true rfl) (Y_node hm (i32_r _) (i32_r _) (i32_r _) (i32_r _)) (fun r w1 hq => ?_)
  obtain ⟨rfl, σ3, τ3, rfl, hm1⟩ := hq
  refine ⟨σ3, τ3, rfl, ?_⟩
  refine gv_samel 945 rfl dL_law_944 ?_
  refine gv_if_eq 2412 948 rfl dL_law_945 rfl (by decide) (fun _ => ?_) (fun h => absurd rfl h)
  exact hE _ _ _ _ _ _ hx1 hm1
/-- nth -/
theorem L_15 (hL : L ≤ 3584) (hi : 0 ≤ i ∧ i + 7 ≤ L) (hx : zxR B σ τ A) (hm : zmR (B + 86) σ2 τ2 A) (hE : lEnd G B b L xs cb sb i) : gV (lX G B b L xs) (lH G B σ τ σ2 τ2 u cb sb) 950 (lLv b B i) [] := by
  refine gv_aload_n 951 rfl dL_law_950 rfl ?_
  refine l_arg 957 rfl dL_law_951 dL_law_952 dL_law_954 dL_law_955 dL_law_956 rfl rfl (by omega) hL ?_
  refine l_arg 963 rfl dL_law_957 dL_law_958 dL_law_960 dL_law_961 dL_law_962 rfl rfl (by omega) hL ?_
  refine l_callx [vi (xs (i + 1).toNat).toInt, vi (xs (i + 2).toNat).toInt] dL_law_963 kL_88 rfl (Nat.le_of_ble_eq_true rfl) (X_nth hx (i32_r _) (i32_r _)) (fun r w1 hq => ?_)
  obtain ⟨rfl, σ1, τ1, rfl, hx1⟩ := hq
  refine ⟨σ1, τ1, rfl, ?_⟩
  refine gv_aload_n 967 rfl dL_law_966 rfl ?_
  refine l_arg 973 rfl dL_law_967 dL_law_968 dL_law_970 dL_law_971 dL_law_972 rfl rfl (by omega) hL ?_
  refine l_arg 979 rfl dL_law_973 dL_law_974 dL_law_976 dL_law_977 dL_law_978 rfl rfl (by omega) hL ?_
  refine l_callm [vi (xs (i + 1).toNat).toInt, vi (xs (i + 2).toNat).toInt] dL_law_979 kL_91 rfl (Nat.le_of_ble_eq_true rfl) (Y_nth hm (i32_r _) (i32_r _)) (fun r w1 hq => ?_)
  obtain ⟨rfl, σ3, τ3, rfl, hm1⟩ := hq
  refine ⟨σ3, τ3, rfl, ?_⟩
  refine gv_same 2412 dL_law_982 rfl ?_
  exact hE _ _ _ _ _ _ hx1 hm1
/-- total -/
theorem L_16 (hL : L ≤ 3584) (hi : 0 ≤ i ∧ i + 7 ≤ L) (hx : zxR B σ τ A) (hm : zmR (B + 86) σ2 τ2 A) (hE : lEnd G B b L xs cb sb i) : gV (lX G B b L xs) (lH G B σ τ σ2 τ2 u cb sb) 987 (lLv b B i) [] := by
  refine gv_aload_n 988 rfl dL_law_987 rfl ?_
  refine l_arg 994 rfl dL_law_988 dL_law_989 dL_law_991 dL_law_992 dL_law_993 rfl rfl (by omega) hL ?_
  refine l_callx [vi (xs (i + 1).toNat).toInt] dL_law_994 kL_92 rfl (Nat.le_of_ble_eq_true rfl) (X_total hx (i32_r _)) (fun r w1 hq => ?_)
  obtain ⟨rfl, σ1, τ1, rfl, hx1⟩ := hq
  refine ⟨σ1, τ1, rfl, ?_⟩
  refine gv_aload_n 998 rfl dL_law_997 rfl ?_
  refine l_arg 1004 rfl dL_law_998 dL_law_999 dL_law_1001 dL_law_1002 dL_law_1003 rfl rfl (by omega) hL ?_
  refine l_callm [vi (xs (i + 1).toNat).toInt] dL_law_1004 kL_96 rfl (Nat.le_of_ble_eq_true rfl) (Y_total hm (i32_r _)) (fun r w1 hq => ?_)
  obtain ⟨rfl, σ3, τ3, rfl, hm1⟩ := hq
  refine ⟨σ3, τ3, rfl, ?_⟩
  refine gv_samel 1008 rfl dL_law_1007 ?_
  refine gv_if_eq 2412 1011 rfl dL_law_1008 rfl (by decide) (fun _ => ?_) (fun h => absurd rfl h)
  exact hE _ _ _ _ _ _ hx1 hm1
/-- blur -/
theorem L_17 (hL : L ≤ 3584) (hi : 0 ≤ i ∧ i + 7 ≤ L) (hx : zxR B σ τ A) (hm : zmR (B + 86) σ2 τ2 A) (hE : lEnd G B b L xs cb sb i) : gV (lX G B b L xs) (lH G B σ τ σ2 τ2 u cb sb) 1013 (lLv b B i) [] := by
  refine gv_aload_n 1014 rfl dL_law_1013 rfl ?_
  refine l_arg 1020 rfl dL_law_1014 dL_law_1015 dL_law_1017 dL_law_1018 dL_law_1019 rfl rfl (by omega) hL ?_
  refine l_callx [vi (xs (i + 1).toNat).toInt] dL_law_1020 kL_97 rfl (Nat.le_of_ble_eq_true rfl) (X_blur hx (i32_r _)) (fun r w1 hq => ?_)
  obtain ⟨rfl, σ1, τ1, rfl, hx1⟩ := hq
  refine ⟨σ1, τ1, rfl, ?_⟩
  refine gv_aload_n 1024 rfl dL_law_1023 rfl ?_
  refine l_arg 1030 rfl dL_law_1024 dL_law_1025 dL_law_1027 dL_law_1028 dL_law_1029 rfl rfl (by omega) hL ?_
  refine l_callm [vi (xs (i + 1).toNat).toInt] dL_law_1030 kL_100 rfl (Nat.le_of_ble_eq_true rfl) (Y_blur hm (i32_r _)) (fun r w1 hq => ?_)
  obtain ⟨rfl, σ3, τ3, rfl, hm1⟩ := hq
  refine ⟨σ3, τ3, rfl, ?_⟩
  refine gv_same 2412 dL_law_1033 rfl ?_
  exact hE _ _ _ _ _ _ hx1 hm1
/-- read -/
theorem L_18 (hL : L ≤ 3584) (hi : 0 ≤ i ∧ i + 7 ≤ L) (hx : zxR B σ τ A) (hm : zmR (B + 86) σ2 τ2 A) (hE : lEnd G B b L xs cb sb i) : gV (lX G B b L xs) (lH G B σ τ σ2 τ2 u cb sb) 1038 (lLv b B i) [] := by
  refine gv_aload_n 1039 rfl dL_law_1038 rfl ?_
  refine l_arg 1045 rfl dL_law_1039 dL_law_1040 dL_law_1042 dL_law_1043 dL_law_1044 rfl rfl (by omega) hL ?_
  refine l_arg 1051 rfl dL_law_1045 dL_law_1046 dL_law_1048 dL_law_1049 dL_law_1050 rfl rfl (by omega) hL ?_
  refine l_arg 1057 rfl dL_law_1051 dL_law_1052 dL_law_1054 dL_law_1055 dL_law_1056 rfl rfl (by omega) hL ?_
  refine l_arg 1063 rfl dL_law_1057 dL_law_1058 dL_law_1060 dL_law_1061 dL_law_1062 rfl rfl (by omega) hL ?_
  refine l_callx [vi (xs (i + 1).toNat).toInt, vi (xs (i + 2).toNat).toInt, vi (xs (i + 3).toNat).toInt, vi (xs (i + 4).toNat).toInt] dL_law_1063 kL_101 rfl (Nat.le_of_ble_eq_true rfl) (X_read hx (i32_r _) (i32_r _) (i32_r _) (i32_r _)) (fun r w1 hq => ?_)
  obtain ⟨rfl, σ1, τ1, rfl, hx1⟩ := hq
  refine ⟨σ1, τ1, rfl, ?_⟩
  refine gv_aload_n 1067 rfl dL_law_1066 rfl ?_
  refine l_arg 1073 rfl dL_law_1067 dL_law_1068 dL_law_1070 dL_law_1071 dL_law_1072 rfl rfl (by omega) hL ?_
  refine l_arg 1079 rfl dL_law_1073 dL_law_1074 dL_law_1076 dL_law_1077 dL_law_1078 rfl rfl (by omega) hL ?_
  refine l_arg 1085 rfl dL_law_1079 dL_law_1080 dL_law_1082 dL_law_1083 dL_law_1084 rfl rfl (by omega) hL ?_
  refine l_arg 1091 rfl dL_law_1085 dL_law_1086 dL_law_1088 dL_law_1089 dL_law_1090 rfl rfl (by omega) hL ?_
  refine l_callm [vi (xs (i + 1).toNat).toInt, vi (xs (i + 2).toNat).toInt, vi (xs (i + 3).toNat).toInt, vi (xs (i + 4).toNat).toInt] dL_law_1091 kL_104 rfl (Nat.le_of_ble_eq_true rfl) (Y_read hm (i32_r _) (i32_r _) (i32_r _) (i32_r _)) (fun r w1 hq => ?_)
  obtain ⟨rfl, σ3, τ3, rfl, hm1⟩ := hq
  refine ⟨σ3, τ3, rfl, ?_⟩
  refine gv_samel 1095 rfl dL_law_1094 ?_
  refine gv_if_eq 2412 1098 rfl dL_law_1095 rfl (by decide) (fun _ => ?_) (fun h => absurd rfl h)
  exact hE _ _ _ _ _ _ hx1 hm1
/-- readShade -/
theorem L_19 (hL : L ≤ 3584) (hi : 0 ≤ i ∧ i + 7 ≤ L) (hx : zxR B σ τ A) (hm : zmR (B + 86) σ2 τ2 A) (hE : lEnd G B b L xs cb sb i) : gV (lX G B b L xs) (lH G B σ τ σ2 τ2 u cb sb) 1100 (lLv b B i) [] := by
  refine gv_aload_n 1101 rfl dL_law_1100 rfl ?_
  refine l_arg 1107 rfl dL_law_1101 dL_law_1102 dL_law_1104 dL_law_1105 dL_law_1106 rfl rfl (by omega) hL ?_
  refine l_arg 1113 rfl dL_law_1107 dL_law_1108 dL_law_1110 dL_law_1111 dL_law_1112 rfl rfl (by omega) hL ?_
  refine l_callx [vi (xs (i + 1).toNat).toInt, vi (xs (i + 2).toNat).toInt] dL_law_1113 kL_105 rfl (Nat.le_of_ble_eq_true rfl) (X_readShade hx (i32_r _) (i32_r _)) (fun r w1 hq => ?_)
  obtain ⟨rfl, σ1, τ1, rfl, hx1⟩ := hq
  refine ⟨σ1, τ1, rfl, ?_⟩
  refine gv_aload_n 1117 rfl dL_law_1116 rfl ?_
  refine l_arg 1123 rfl dL_law_1117 dL_law_1118 dL_law_1120 dL_law_1121 dL_law_1122 rfl rfl (by omega) hL ?_
  refine l_arg 1129 rfl dL_law_1123 dL_law_1124 dL_law_1126 dL_law_1127 dL_law_1128 rfl rfl (by omega) hL ?_
  refine l_callm [vi (xs (i + 1).toNat).toInt, vi (xs (i + 2).toNat).toInt] dL_law_1129 kL_108 rfl (Nat.le_of_ble_eq_true rfl) (Y_readShade hm (i32_r _) (i32_r _)) (fun r w1 hq => ?_)
  obtain ⟨rfl, σ3, τ3, rfl, hm1⟩ := hq
  refine ⟨σ3, τ3, rfl, ?_⟩
  refine gv_same 2412 dL_law_1132 rfl ?_
  exact hE _ _ _ _ _ _ hx1 hm1
/-- smooth -/
theorem L_20 (hL : L ≤ 3584) (hi : 0 ≤ i ∧ i + 7 ≤ L) (hx : zxR B σ τ A) (hm : zmR (B + 86) σ2 τ2 A) (hE : lEnd G B b L xs cb sb i) : gV (lX G B b L xs) (lH G B σ τ σ2 τ2 u cb sb) 1137 (lLv b B i) [] := by
  refine gv_aload_n 1138 rfl dL_law_1137 rfl ?_
  refine l_arg 1144 rfl dL_law_1138 dL_law_1139 dL_law_1141 dL_law_1142 dL_law_1143 rfl rfl (by omega) hL ?_
  refine l_arg 1150 rfl dL_law_1144 dL_law_1145 dL_law_1147 dL_law_1148 dL_law_1149 rfl rfl (by omega) hL ?_
  refine l_arg 1156 rfl dL_law_1150 dL_law_1151 dL_law_1153 dL_law_1154 dL_law_1155 rfl rfl (by omega) hL ?_
  refine l_arg 1162 rfl dL_law_1156 dL_law_1157 dL_law_1159 dL_law_1160 dL_law_1161 rfl rfl (by omega) hL ?_
  refine l_arg 1168 rfl dL_law_1162 dL_law_1163 dL_law_1165 dL_law_1166 dL_law_1167 rfl rfl (by omega) hL ?_
  refine l_arg6 1175 rfl dL_law_1168 dL_law_1169 dL_law_1171 rfl dL_law_1173 dL_law_1174 rfl rfl (by omega) hL ?_
  refine l_callx [vi (xs (i + 1).toNat).toInt, vi (xs (i + 2).toNat).toInt, vi (xs (i + 3).toNat).toInt, vi (xs (i + 4).toNat).toInt, vi (xs (i + 5).toNat).toInt, vi (xs (i + 6).toNat).toInt] dL_law_1175 kL_109 rfl (Nat.le_of_ble_eq_true rfl) (X_smooth hx (i32_r _) (i32_r _) (i32_r _) (i32_r _) (i32_r _) (i32_r _)) (fun r w1 hq => ?_)
  obtain ⟨rfl, σ1, τ1, rfl, hx1⟩ := hq
  refine ⟨σ1, τ1, rfl, ?_⟩
  refine gv_aload_n 1179 rfl dL_law_1178 rfl ?_
  refine l_arg 1185 rfl dL_law_1179 dL_law_1180 dL_law_1182 dL_law_1183 dL_law_1184 rfl rfl (by omega) hL ?_
  refine l_arg 1191 rfl dL_law_1185 dL_law_1186 dL_law_1188 dL_law_1189 dL_law_1190 rfl rfl (by omega) hL ?_
  refine l_arg 1197 rfl dL_law_1191 dL_law_1192 dL_law_1194 dL_law_1195 dL_law_1196 rfl rfl (by omega) hL ?_
  refine l_arg 1203 rfl dL_law_1197 dL_law_1198 dL_law_1200 dL_law_1201 dL_law_1202 rfl rfl (by omega) hL ?_
  refine l_arg 1209 rfl dL_law_1203 dL_law_1204 dL_law_1206 dL_law_1207 dL_law_1208 rfl rfl (by omega) hL ?_
  refine l_arg6 1216 rfl dL_law_1209 dL_law_1210 dL_law_1212 rfl dL_law_1214 dL_law_1215 rfl rfl (by omega) hL ?_
  refine l_callm [vi (xs (i + 1).toNat).toInt, vi (xs (i + 2).toNat).toInt, vi (xs (i + 3).toNat).toInt, vi (xs (i + 4).toNat).toInt, vi (xs (i + 5).toNat).toInt, vi (xs (i + 6).toNat).toInt] dL_law_1216 kL_113 rfl (Nat.le_of_ble_eq_true rfl) (Y_smooth hm (i32_r _) (i32_r _) (i32_r _) (i32_r _) (i32_r _) (i32_r _)) (fun r w1 hq => ?_)
  obtain ⟨rfl, σ3, τ3, rfl, hm1⟩ := hq
  refine ⟨σ3, τ3, rfl, ?_⟩
  refine gv_same 2412 dL_law_1219 rfl ?_
  exact hE _ _ _ _ _ _ hx1 hm1
/-- box -/
theorem L_21 (hL : L ≤ 3584) (hi : 0 ≤ i ∧ i + 7 ≤ L) (hx : zxR B σ τ A) (hm : zmR (B + 86) σ2 τ2 A) (hE : lEnd G B b L xs cb sb i) : gV (lX G B b L xs) (lH G B σ τ σ2 τ2 u cb sb) 1224 (lLv b B i) [] := by
  refine gv_aload_n 1225 rfl dL_law_1224 rfl ?_
  refine l_arg 1231 rfl dL_law_1225 dL_law_1226 dL_law_1228 dL_law_1229 dL_law_1230 rfl rfl (by omega) hL ?_
  refine l_arg 1237 rfl dL_law_1231 dL_law_1232 dL_law_1234 dL_law_1235 dL_law_1236 rfl rfl (by omega) hL ?_
  refine l_arg 1243 rfl dL_law_1237 dL_law_1238 dL_law_1240 dL_law_1241 dL_law_1242 rfl rfl (by omega) hL ?_
  refine l_callx [vi (xs (i + 1).toNat).toInt, vi (xs (i + 2).toNat).toInt, vi (xs (i + 3).toNat).toInt] dL_law_1243 kL_114 rfl (Nat.le_of_ble_eq_true rfl) (X_box hx (i32_r _) (i32_r _) (i32_r _)) (fun r w1 hq => ?_)
  obtain ⟨rfl, σ1, τ1, rfl, hx1⟩ := hq
  refine ⟨σ1, τ1, rfl, ?_⟩
  refine gv_aload_n 1247 rfl dL_law_1246 rfl ?_
  refine l_arg 1253 rfl dL_law_1247 dL_law_1248 dL_law_1250 dL_law_1251 dL_law_1252 rfl rfl (by omega) hL ?_
  refine l_arg 1259 rfl dL_law_1253 dL_law_1254 dL_law_1256 dL_law_1257 dL_law_1258 rfl rfl (by omega) hL ?_
  refine l_arg 1265 rfl dL_law_1259 dL_law_1260 dL_law_1262 dL_law_1263 dL_law_1264 rfl rfl (by omega) hL ?_
  refine l_callm [vi (xs (i + 1).toNat).toInt, vi (xs (i + 2).toNat).toInt, vi (xs (i + 3).toNat).toInt] dL_law_1265 kL_117 rfl (Nat.le_of_ble_eq_true rfl) (Y_box hm (i32_r _) (i32_r _) (i32_r _)) (fun r w1 hq => ?_)
  obtain ⟨rfl, σ3, τ3, rfl, hm1⟩ := hq
  refine ⟨σ3, τ3, rfl, ?_⟩
  refine gv_same 2412 dL_law_1268 rfl ?_
  exact hE _ _ _ _ _ _ hx1 hm1
/-- median -/
theorem L_22 (hL : L ≤ 3584) (hi : 0 ≤ i ∧ i + 7 ≤ L) (hx : zxR B σ τ A) (hm : zmR (B + 86) σ2 τ2 A) (hE : lEnd G B b L xs cb sb i) : gV (lX G B b L xs) (lH G B σ τ σ2 τ2 u cb sb) 1273 (lLv b B i) [] := by
  refine gv_aload_n 1274 rfl dL_law_1273 rfl ?_
  refine l_arg 1280 rfl dL_law_1274 dL_law_1275 dL_law_1277 dL_law_1278 dL_law_1279 rfl rfl (by omega) hL ?_
  refine l_arg 1286 rfl dL_law_1280 dL_law_1281 dL_law_1283 dL_law_1284 dL_law_1285 rfl rfl (by omega) hL ?_
  refine l_arg 1292 rfl dL_law_1286 dL_law_1287 dL_law_1289 dL_law_1290 dL_law_1291 rfl rfl (by omega) hL ?_
  refine l_callx [vi (xs (i + 1).toNat).toInt, vi (xs (i + 2).toNat).toInt, vi (xs (i + 3).toNat).toInt] dL_law_1292 kL_118 rfl (Nat.le_of_ble_eq_true rfl) (X_median hx (i32_r _) (i32_r _) (i32_r _)) (fun r w1 hq => ?_)
  obtain ⟨rfl, σ1, τ1, rfl, hx1⟩ := hq
  refine ⟨σ1, τ1, rfl, ?_⟩
  refine gv_aload_n 1296 rfl dL_law_1295 rfl ?_
  refine l_arg 1302 rfl dL_law_1296 dL_law_1297 dL_law_1299 dL_law_1300 dL_law_1301 rfl rfl (by omega) hL ?_
  refine l_arg 1308 rfl dL_law_1302 dL_law_1303 dL_law_1305 dL_law_1306 dL_law_1307 rfl rfl (by omega) hL ?_
  refine l_arg 1314 rfl dL_law_1308 dL_law_1309 dL_law_1311 dL_law_1312 dL_law_1313 rfl rfl (by omega) hL ?_
  refine l_callm [vi (xs (i + 1).toNat).toInt, vi (xs (i + 2).toNat).toInt, vi (xs (i + 3).toNat).toInt] dL_law_1314 kL_121 rfl (Nat.le_of_ble_eq_true rfl) (Y_median hm (i32_r _) (i32_r _) (i32_r _)) (fun r w1 hq => ?_)
  obtain ⟨rfl, σ3, τ3, rfl, hm1⟩ := hq
  refine ⟨σ3, τ3, rfl, ?_⟩
  refine gv_same 2412 dL_law_1317 rfl ?_
  exact hE _ _ _ _ _ _ hx1 hm1
/-- mix -/
theorem L_23 (hL : L ≤ 3584) (hi : 0 ≤ i ∧ i + 7 ≤ L) (hx : zxR B σ τ A) (hm : zmR (B + 86) σ2 τ2 A) (hE : lEnd G B b L xs cb sb i) : gV (lX G B b L xs) (lH G B σ τ σ2 τ2 u cb sb) 1322 (lLv b B i) [] := by
  refine gv_aload_n 1323 rfl dL_law_1322 rfl ?_
  refine l_arg 1329 rfl dL_law_1323 dL_law_1324 dL_law_1326 dL_law_1327 dL_law_1328 rfl rfl (by omega) hL ?_
  refine l_arg 1335 rfl dL_law_1329 dL_law_1330 dL_law_1332 dL_law_1333 dL_law_1334 rfl rfl (by omega) hL ?_
  refine l_arg 1341 rfl dL_law_1335 dL_law_1336 dL_law_1338 dL_law_1339 dL_law_1340 rfl rfl (by omega) hL ?_
  refine l_arg 1347 rfl dL_law_1341 dL_law_1342 dL_law_1344 dL_law_1345 dL_law_1346 rfl rfl (by omega) hL ?_
  refine l_callx [vi (xs (i + 1).toNat).toInt, vi (xs (i + 2).toNat).toInt, vi (xs (i + 3).toNat).toInt, vi (xs (i + 4).toNat).toInt] dL_law_1347 kL_122 rfl (Nat.le_of_ble_eq_true rfl) (X_mix hx (i32_r _) (i32_r _) (i32_r _) (i32_r _)) (fun r w1 hq => ?_)
  obtain ⟨rfl, σ1, τ1, rfl, hx1⟩ := hq
  refine ⟨σ1, τ1, rfl, ?_⟩
  refine gv_aload_n 1351 rfl dL_law_1350 rfl ?_
  refine l_arg 1357 rfl dL_law_1351 dL_law_1352 dL_law_1354 dL_law_1355 dL_law_1356 rfl rfl (by omega) hL ?_
  refine l_arg 1363 rfl dL_law_1357 dL_law_1358 dL_law_1360 dL_law_1361 dL_law_1362 rfl rfl (by omega) hL ?_
  refine l_arg 1369 rfl dL_law_1363 dL_law_1364 dL_law_1366 dL_law_1367 dL_law_1368 rfl rfl (by omega) hL ?_
  refine l_arg 1375 rfl dL_law_1369 dL_law_1370 dL_law_1372 dL_law_1373 dL_law_1374 rfl rfl (by omega) hL ?_
  refine l_callm [vi (xs (i + 1).toNat).toInt, vi (xs (i + 2).toNat).toInt, vi (xs (i + 3).toNat).toInt, vi (xs (i + 4).toNat).toInt] dL_law_1375 kL_125 rfl (Nat.le_of_ble_eq_true rfl) (Y_mix hm (i32_r _) (i32_r _) (i32_r _) (i32_r _)) (fun r w1 hq => ?_)
  obtain ⟨rfl, σ3, τ3, rfl, hm1⟩ := hq
  refine ⟨σ3, τ3, rfl, ?_⟩
  refine gv_same 2412 dL_law_1378 rfl ?_
  exact hE _ _ _ _ _ _ hx1 hm1
/-- above -/
theorem L_24 (hL : L ≤ 3584) (hi : 0 ≤ i ∧ i + 7 ≤ L) (hx : zxR B σ τ A) (hm : zmR (B + 86) σ2 τ2 A) (hE : lEnd G B b L xs cb sb i) : gV (lX G B b L xs) (lH G B σ τ σ2 τ2 u cb sb) 1383 (lLv b B i) [] := by
  refine gv_aload_n 1384 rfl dL_law_1383 rfl ?_
  refine l_arg 1390 rfl dL_law_1384 dL_law_1385 dL_law_1387 dL_law_1388 dL_law_1389 rfl rfl (by omega) hL ?_
  refine l_arg 1396 rfl dL_law_1390 dL_law_1391 dL_law_1393 dL_law_1394 dL_law_1395 rfl rfl (by omega) hL ?_
  refine l_arg 1402 rfl dL_law_1396 dL_law_1397 dL_law_1399 dL_law_1400 dL_law_1401 rfl rfl (by omega) hL ?_
  refine l_callx [vi (xs (i + 1).toNat).toInt, vi (xs (i + 2).toNat).toInt, vi (xs (i + 3).toNat).toInt] dL_law_1402 kL_126 rfl (Nat.le_of_ble_eq_true rfl) (X_above hx (i32_r _) (i32_r _) (i32_r _)) (fun r w1 hq => ?_)
  obtain ⟨rfl, σ1, τ1, rfl, hx1⟩ := hq
  refine ⟨σ1, τ1, rfl, ?_⟩
  refine gv_aload_n 1406 rfl dL_law_1405 rfl ?_
  refine l_arg 1412 rfl dL_law_1406 dL_law_1407 dL_law_1409 dL_law_1410 dL_law_1411 rfl rfl (by omega) hL ?_
  refine l_arg 1418 rfl dL_law_1412 dL_law_1413 dL_law_1415 dL_law_1416 dL_law_1417 rfl rfl (by omega) hL ?_
  refine l_arg 1424 rfl dL_law_1418 dL_law_1419 dL_law_1421 dL_law_1422 dL_law_1423 rfl rfl (by omega) hL ?_
  refine l_callm [vi (xs (i + 1).toNat).toInt, vi (xs (i + 2).toNat).toInt, vi (xs (i + 3).toNat).toInt] dL_law_1424 kL_129 rfl (Nat.le_of_ble_eq_true rfl) (Y_above hm (i32_r _) (i32_r _) (i32_r _)) (fun r w1 hq => ?_)
  obtain ⟨rfl, σ3, τ3, rfl, hm1⟩ := hq
  refine ⟨σ3, τ3, rfl, ?_⟩
  refine gv_same 2412 dL_law_1427 rfl ?_
  exact hE _ _ _ _ _ _ hx1 hm1
/-- levels -/
theorem L_25 (hL : L ≤ 3584) (hi : 0 ≤ i ∧ i + 7 ≤ L) (hx : zxR B σ τ A) (hm : zmR (B + 86) σ2 τ2 A) (hE : lEnd G B b L xs cb sb i) : gV (lX G B b L xs) (lH G B σ τ σ2 τ2 u cb sb) 1432 (lLv b B i) [] := by
  refine gv_aload_n 1433 rfl dL_law_1432 rfl ?_
  refine l_arg 1439 rfl dL_law_1433 dL_law_1434 dL_law_1436 dL_law_1437 dL_law_1438 rfl rfl (by omega) hL ?_
  refine l_arg 1445 rfl dL_law_1439 dL_law_1440 dL_law_1442 dL_law_1443 dL_law_1444 rfl rfl (by omega) hL ?_
  refine l_arg 1451 rfl dL_law_1445 dL_law_1446 dL_law_1448 dL_law_1449 dL_law_1450 rfl rfl (by omega) hL ?_
  refine l_callx [vi (xs (i + 1).toNat).toInt, vi (xs (i + 2).toNat).toInt, vi (xs (i + 3).toNat).toInt] dL_law_1451 kL_130 rfl (Nat.le_of_ble_eq_true rfl) (X_levels hx (i32_r _) (i32_r _) (i32_r _)) (fun r w1 hq => ?_)
  obtain ⟨rfl, σ1, τ1, rfl, hx1⟩ := hq
  refine ⟨σ1, τ1, rfl, ?_⟩
  refine gv_aload_n 1455 rfl dL_law_1454 rfl ?_
  refine l_arg 1461 rfl dL_law_1455 dL_law_1456 dL_law_1458 dL_law_1459 dL_law_1460 rfl rfl (by omega) hL ?_
  refine l_arg 1467 rfl dL_law_1461 dL_law_1462 dL_law_1464 dL_law_1465 dL_law_1466 rfl rfl (by omega) hL ?_
  refine l_arg 1473 rfl dL_law_1467 dL_law_1468 dL_law_1470 dL_law_1471 dL_law_1472 rfl rfl (by omega) hL ?_
  refine l_callm [vi (xs (i + 1).toNat).toInt, vi (xs (i + 2).toNat).toInt, vi (xs (i + 3).toNat).toInt] dL_law_1473 kL_133 rfl (Nat.le_of_ble_eq_true rfl) (Y_levels hm (i32_r _) (i32_r _) (i32_r _)) (fun r w1 hq => ?_)
  obtain ⟨rfl, σ3, τ3, rfl, hm1⟩ := hq
  refine ⟨σ3, τ3, rfl, ?_⟩
  refine gv_same 2412 dL_law_1476 rfl ?_
  exact hE _ _ _ _ _ _ hx1 hm1
/-- stretch -/
theorem L_26 (hL : L ≤ 3584) (hi : 0 ≤ i ∧ i + 7 ≤ L) (hx : zxR B σ τ A) (hm : zmR (B + 86) σ2 τ2 A) (hE : lEnd G B b L xs cb sb i) : gV (lX G B b L xs) (lH G B σ τ σ2 τ2 u cb sb) 1481 (lLv b B i) [] := by
  refine gv_aload_n 1482 rfl dL_law_1481 rfl ?_
  refine l_arg 1488 rfl dL_law_1482 dL_law_1483 dL_law_1485 dL_law_1486 dL_law_1487 rfl rfl (by omega) hL ?_
  refine l_arg 1494 rfl dL_law_1488 dL_law_1489 dL_law_1491 dL_law_1492 dL_law_1493 rfl rfl (by omega) hL ?_
  refine l_callx [vi (xs (i + 1).toNat).toInt, vi (xs (i + 2).toNat).toInt] dL_law_1494 kL_134 rfl (Nat.le_of_ble_eq_true rfl) (X_stretch hx (i32_r _) (i32_r _)) (fun r w1 hq => ?_)
  obtain ⟨rfl, σ1, τ1, rfl, hx1⟩ := hq
  refine ⟨σ1, τ1, rfl, ?_⟩
  refine gv_aload_n 1498 rfl dL_law_1497 rfl ?_
  refine l_arg 1504 rfl dL_law_1498 dL_law_1499 dL_law_1501 dL_law_1502 dL_law_1503 rfl rfl (by omega) hL ?_
  refine l_arg 1510 rfl dL_law_1504 dL_law_1505 dL_law_1507 dL_law_1508 dL_law_1509 rfl rfl (by omega) hL ?_
  refine l_callm [vi (xs (i + 1).toNat).toInt, vi (xs (i + 2).toNat).toInt] dL_law_1510 kL_137 rfl (Nat.le_of_ble_eq_true rfl) (Y_stretch hm (i32_r _) (i32_r _)) (fun r w1 hq => ?_)
  obtain ⟨rfl, σ3, τ3, rfl, hm1⟩ := hq
  refine ⟨σ3, τ3, rfl, ?_⟩
  refine gv_same 2412 dL_law_1513 rfl ?_
  exact hE _ _ _ _ _ _ hx1 hm1
/-- larger -/
theorem L_27 (hL : L ≤ 3584) (hi : 0 ≤ i ∧ i + 7 ≤ L) (hx : zxR B σ τ A) (hm : zmR (B + 86) σ2 τ2 A) (hE : lEnd G B b L xs cb sb i) : gV (lX G B b L xs) (lH G B σ τ σ2 τ2 u cb sb) 1518 (lLv b B i) [] := by
  refine gv_aload_n 1519 rfl dL_law_1518 rfl ?_
  refine l_arg 1525 rfl dL_law_1519 dL_law_1520 dL_law_1522 dL_law_1523 dL_law_1524 rfl rfl (by omega) hL ?_
  refine l_arg 1531 rfl dL_law_1525 dL_law_1526 dL_law_1528 dL_law_1529 dL_law_1530 rfl rfl (by omega) hL ?_
  refine l_arg 1537 rfl dL_law_1531 dL_law_1532 dL_law_1534 dL_law_1535 dL_law_1536 rfl rfl (by omega) hL ?_
  refine l_callx [vi (xs (i + 1).toNat).toInt, vi (xs (i + 2).toNat).toInt, vi (xs (i + 3).toNat).toInt] dL_law_1537 kL_138 rfl (Nat.le_of_ble_eq_true rfl) (X_larger hx (i32_r _) (i32_r _) (i32_r _)) (fun r w1 hq => ?_)
  obtain ⟨rfl, σ1, τ1, rfl, hx1⟩ := hq
  refine ⟨σ1, τ1, rfl, ?_⟩
  refine gv_aload_n 1541 rfl dL_law_1540 rfl ?_
  refine l_arg 1547 rfl dL_law_1541 dL_law_1542 dL_law_1544 dL_law_1545 dL_law_1546 rfl rfl (by omega) hL ?_
  refine l_arg 1553 rfl dL_law_1547 dL_law_1548 dL_law_1550 dL_law_1551 dL_law_1552 rfl rfl (by omega) hL ?_
  refine l_arg 1559 rfl dL_law_1553 dL_law_1554 dL_law_1556 dL_law_1557 dL_law_1558 rfl rfl (by omega) hL ?_
  refine l_callm [vi (xs (i + 1).toNat).toInt, vi (xs (i + 2).toNat).toInt, vi (xs (i + 3).toNat).toInt] dL_law_1559 kL_141 rfl (Nat.le_of_ble_eq_true rfl) (Y_larger hm (i32_r _) (i32_r _) (i32_r _)) (fun r w1 hq => ?_)
  obtain ⟨rfl, σ3, τ3, rfl, hm1⟩ := hq
  refine ⟨σ3, τ3, rfl, ?_⟩
  refine gv_same 2412 dL_law_1562 rfl ?_
  exact hE _ _ _ _ _ _ hx1 hm1
/-- smaller -/
theorem L_28 (hL : L ≤ 3584) (hi : 0 ≤ i ∧ i + 7 ≤ L) (hx : zxR B σ τ A) (hm : zmR (B + 86) σ2 τ2 A) (hE : lEnd G B b L xs cb sb i) : gV (lX G B b L xs) (lH G B σ τ σ2 τ2 u cb sb) 1567 (lLv b B i) [] := by
  refine gv_aload_n 1568 rfl dL_law_1567 rfl ?_
  refine l_arg 1574 rfl dL_law_1568 dL_law_1569 dL_law_1571 dL_law_1572 dL_law_1573 rfl rfl (by omega) hL ?_
  refine l_arg 1580 rfl dL_law_1574 dL_law_1575 dL_law_1577 dL_law_1578 dL_law_1579 rfl rfl (by omega) hL ?_
  refine l_arg 1586 rfl dL_law_1580 dL_law_1581 dL_law_1583 dL_law_1584 dL_law_1585 rfl rfl (by omega) hL ?_
  refine l_callx [vi (xs (i + 1).toNat).toInt, vi (xs (i + 2).toNat).toInt, vi (xs (i + 3).toNat).toInt] dL_law_1586 kL_142 rfl (Nat.le_of_ble_eq_true rfl) (X_smaller hx (i32_r _) (i32_r _) (i32_r _)) (fun r w1 hq => ?_)
  obtain ⟨rfl, σ1, τ1, rfl, hx1⟩ := hq
  refine ⟨σ1, τ1, rfl, ?_⟩
  refine gv_aload_n 1590 rfl dL_law_1589 rfl ?_
  refine l_arg 1596 rfl dL_law_1590 dL_law_1591 dL_law_1593 dL_law_1594 dL_law_1595 rfl rfl (by omega) hL ?_
  refine l_arg 1602 rfl dL_law_1596 dL_law_1597 dL_law_1599 dL_law_1600 dL_law_1601 rfl rfl (by omega) hL ?_
  refine l_arg 1608 rfl dL_law_1602 dL_law_1603 dL_law_1605 dL_law_1606 dL_law_1607 rfl rfl (by omega) hL ?_
  refine l_callm [vi (xs (i + 1).toNat).toInt, vi (xs (i + 2).toNat).toInt, vi (xs (i + 3).toNat).toInt] dL_law_1608 kL_145 rfl (Nat.le_of_ble_eq_true rfl) (Y_smaller hm (i32_r _) (i32_r _) (i32_r _)) (fun r w1 hq => ?_)
  obtain ⟨rfl, σ3, τ3, rfl, hm1⟩ := hq
  refine ⟨σ3, τ3, rfl, ?_⟩
  refine gv_same 2412 dL_law_1611 rfl ?_
  exact hE _ _ _ _ _ _ hx1 hm1
/-- rests -/
theorem L_29 (hL : L ≤ 3584) (hi : 0 ≤ i ∧ i + 7 ≤ L) (hx : zxR B σ τ A) (hm : zmR (B + 86) σ2 τ2 A) (hE : lEnd G B b L xs cb sb i) : gV (lX G B b L xs) (lH G B σ τ σ2 τ2 u cb sb) 1616 (lLv b B i) [] := by
  refine gv_aload_n 1617 rfl dL_law_1616 rfl ?_
  refine l_arg 1623 rfl dL_law_1617 dL_law_1618 dL_law_1620 dL_law_1621 dL_law_1622 rfl rfl (by omega) hL ?_
  refine l_arg 1629 rfl dL_law_1623 dL_law_1624 dL_law_1626 dL_law_1627 dL_law_1628 rfl rfl (by omega) hL ?_
  refine l_arg 1635 rfl dL_law_1629 dL_law_1630 dL_law_1632 dL_law_1633 dL_law_1634 rfl rfl (by omega) hL ?_
  refine l_arg 1641 rfl dL_law_1635 dL_law_1636 dL_law_1638 dL_law_1639 dL_law_1640 rfl rfl (by omega) hL ?_
  refine l_callx [vi (xs (i + 1).toNat).toInt, vi (xs (i + 2).toNat).toInt, vi (xs (i + 3).toNat).toInt, vi (xs (i + 4).toNat).toInt] dL_law_1641 kL_146 rfl (Nat.le_of_ble_eq_true rfl) (X_rests hx (i32_r _) (i32_r _) (i32_r _) (i32_r _)) (fun r w1 hq => ?_)
  obtain ⟨rfl, σ1, τ1, rfl, hx1⟩ := hq
  refine ⟨σ1, τ1, rfl, ?_⟩
  refine gv_aload_n 1645 rfl dL_law_1644 rfl ?_
  refine l_arg 1651 rfl dL_law_1645 dL_law_1646 dL_law_1648 dL_law_1649 dL_law_1650 rfl rfl (by omega) hL ?_
  refine l_arg 1657 rfl dL_law_1651 dL_law_1652 dL_law_1654 dL_law_1655 dL_law_1656 rfl rfl (by omega) hL ?_
  refine l_arg 1663 rfl dL_law_1657 dL_law_1658 dL_law_1660 dL_law_1661 dL_law_1662 rfl rfl (by omega) hL ?_
  refine l_arg 1669 rfl dL_law_1663 dL_law_1664 dL_law_1666 dL_law_1667 dL_law_1668 rfl rfl (by omega) hL ?_
  refine l_callm [vi (xs (i + 1).toNat).toInt, vi (xs (i + 2).toNat).toInt, vi (xs (i + 3).toNat).toInt, vi (xs (i + 4).toNat).toInt] dL_law_1669 kL_149 rfl (Nat.le_of_ble_eq_true rfl) (Y_rests hm (i32_r _) (i32_r _) (i32_r _) (i32_r _)) (fun r w1 hq => ?_)
  obtain ⟨rfl, σ3, τ3, rfl, hm1⟩ := hq
  refine ⟨σ3, τ3, rfl, ?_⟩
  refine gv_same 2412 dL_law_1672 rfl ?_
  exact hE _ _ _ _ _ _ hx1 hm1
/-- edges -/
theorem L_30 (hL : L ≤ 3584) (hi : 0 ≤ i ∧ i + 7 ≤ L) (hx : zxR B σ τ A) (hm : zmR (B + 86) σ2 τ2 A) (hE : lEnd G B b L xs cb sb i) : gV (lX G B b L xs) (lH G B σ τ σ2 τ2 u cb sb) 1677 (lLv b B i) [] := by
  refine gv_aload_n 1678 rfl dL_law_1677 rfl ?_
  refine l_arg 1684 rfl dL_law_1678 dL_law_1679 dL_law_1681 dL_law_1682 dL_law_1683 rfl rfl (by omega) hL ?_
  refine l_arg 1690 rfl dL_law_1684 dL_law_1685 dL_law_1687 dL_law_1688 dL_law_1689 rfl rfl (by omega) hL ?_
  refine l_callx [vi (xs (i + 1).toNat).toInt, vi (xs (i + 2).toNat).toInt] dL_law_1690 kL_150 rfl (Nat.le_of_ble_eq_true rfl) (X_edges hx (i32_r _) (i32_r _)) (fun r w1 hq => ?_)
  obtain ⟨rfl, σ1, τ1, rfl, hx1⟩ := hq
  refine ⟨σ1, τ1, rfl, ?_⟩
  refine gv_aload_n 1694 rfl dL_law_1693 rfl ?_
  refine l_arg 1700 rfl dL_law_1694 dL_law_1695 dL_law_1697 dL_law_1698 dL_law_1699 rfl rfl (by omega) hL ?_
  refine l_arg 1706 rfl dL_law_1700 dL_law_1701 dL_law_1703 dL_law_1704 dL_law_1705 rfl rfl (by omega) hL ?_
  refine l_callm [vi (xs (i + 1).toNat).toInt, vi (xs (i + 2).toNat).toInt] dL_law_1706 kL_153 rfl (Nat.le_of_ble_eq_true rfl) (Y_edges hm (i32_r _) (i32_r _)) (fun r w1 hq => ?_)
  obtain ⟨rfl, σ3, τ3, rfl, hm1⟩ := hq
  refine ⟨σ3, τ3, rfl, ?_⟩
  refine gv_same 2412 dL_law_1709 rfl ?_
  exact hE _ _ _ _ _ _ hx1 hm1
/-- kept -/
theorem L_31 (hL : L ≤ 3584) (hi : 0 ≤ i ∧ i + 7 ≤ L) (hx : zxR B σ τ A) (hm : zmR (B + 86) σ2 τ2 A) (hE : lEnd G B b L xs cb sb i) : gV (lX G B b L xs) (lH G B σ τ σ2 τ2 u cb sb) 1714 (lLv b B i) [] := by
  refine gv_aload_n 1715 rfl dL_law_1714 rfl ?_
  refine l_arg 1721 rfl dL_law_1715 dL_law_1716 dL_law_1718 dL_law_1719 dL_law_1720 rfl rfl (by omega) hL ?_
  refine l_arg 1727 rfl dL_law_1721 dL_law_1722 dL_law_1724 dL_law_1725 dL_law_1726 rfl rfl (by omega) hL ?_
  refine l_arg 1733 rfl dL_law_1727 dL_law_1728 dL_law_1730 dL_law_1731 dL_law_1732 rfl rfl (by omega) hL ?_
  refine l_arg 1739 rfl dL_law_1733 dL_law_1734 dL_law_1736 dL_law_1737 dL_law_1738 rfl rfl (by omega) hL ?_
  refine l_arg 1745 rfl dL_law_1739 dL_law_1740 dL_law_1742 dL_law_1743 dL_law_1744 rfl rfl (by omega) hL ?_
  refine l_arg6 1752 rfl dL_law_1745 dL_law_1746 dL_law_1748 rfl dL_law_1750 dL_law_1751 rfl rfl (by omega) hL ?_
  refine l_callx [vi (xs (i + 1).toNat).toInt, vi (xs (i + 2).toNat).toInt, vi (xs (i + 3).toNat).toInt, vi (xs (i + 4).toNat).toInt, vi (xs (i + 5).toNat).toInt, vi (xs (i + 6).toNat).toInt] dL_law_1752 kL_154 rfl (Nat.le_of_ble_eq_true rfl) (X_kept hx (i32_r _) (i32_r _) (i32_r _) (i32_r _) (i32_r _) (i32_r _)) (fun r w1 hq => ?_)
  obtain ⟨rfl, σ1, τ1, rfl, hx1⟩ := hq
  refine ⟨σ1, τ1, rfl, ?_⟩
  refine gv_aload_n 1756 rfl dL_law_1755 rfl ?_
  refine l_arg 1762 rfl dL_law_1756 dL_law_1757 dL_law_1759 dL_law_1760 dL_law_1761 rfl rfl (by omega) hL ?_
  refine l_arg 1768 rfl dL_law_1762 dL_law_1763 dL_law_1765 dL_law_1766 dL_law_1767 rfl rfl (by omega) hL ?_
  refine l_arg 1774 rfl dL_law_1768 dL_law_1769 dL_law_1771 dL_law_1772 dL_law_1773 rfl rfl (by omega) hL ?_
  refine l_arg 1780 rfl dL_law_1774 dL_law_1775 dL_law_1777 dL_law_1778 dL_law_1779 rfl rfl (by omega) hL ?_
  refine l_arg 1786 rfl dL_law_1780 dL_law_1781 dL_law_1783 dL_law_1784 dL_law_1785 rfl rfl (by omega) hL ?_
  refine l_arg6 1793 rfl dL_law_1786 dL_law_1787 dL_law_1789 rfl dL_law_1791 dL_law_1792 rfl rfl (by omega) hL ?_
  refine l_callm [vi (xs (i + 1).toNat).toInt, vi (xs (i + 2).toNat).toInt, vi (xs (i + 3).toNat).toInt, vi (xs (i + 4).toNat).toInt, vi (xs (i + 5).toNat).toInt, vi (xs (i + 6).toNat).toInt] dL_law_1793 kL_157 rfl (Nat.le_of_ble_eq_true rfl) (Y_kept hm (i32_r _) (i32_r _) (i32_r _) (i32_r _) (i32_r _) (i32_r _)) (fun r w1 hq => ?_)
  obtain ⟨rfl, σ3, τ3, rfl, hm1⟩ := hq
  refine ⟨σ3, τ3, rfl, ?_⟩
  refine gv_same 2412 dL_law_1796 rfl ?_
  exact hE _ _ _ _ _ _ hx1 hm1
/-- flat -/
theorem L_32 (hL : L ≤ 3584) (hi : 0 ≤ i ∧ i + 7 ≤ L) (hx : zxR B σ τ A) (hm : zmR (B + 86) σ2 τ2 A) (hE : lEnd G B b L xs cb sb i) : gV (lX G B b L xs) (lH G B σ τ σ2 τ2 u cb sb) 1801 (lLv b B i) [] := by
  refine gv_aload_n 1802 rfl dL_law_1801 rfl ?_
  refine l_arg 1808 rfl dL_law_1802 dL_law_1803 dL_law_1805 dL_law_1806 dL_law_1807 rfl rfl (by omega) hL ?_
  refine l_arg 1814 rfl dL_law_1808 dL_law_1809 dL_law_1811 dL_law_1812 dL_law_1813 rfl rfl (by omega) hL ?_
  refine l_arg 1820 rfl dL_law_1814 dL_law_1815 dL_law_1817 dL_law_1818 dL_law_1819 rfl rfl (by omega) hL ?_
  refine l_arg 1826 rfl dL_law_1820 dL_law_1821 dL_law_1823 dL_law_1824 dL_law_1825 rfl rfl (by omega) hL ?_
  refine l_callx [vi (xs (i + 1).toNat).toInt, vi (xs (i + 2).toNat).toInt, vi (xs (i + 3).toNat).toInt, vi (xs (i + 4).toNat).toInt] dL_law_1826 kL_158 rfl (Nat.le_of_ble_eq_true rfl) (X_flat hx (i32_r _) (i32_r _) (i32_r _) (i32_r _)) (fun r w1 hq => ?_)
  obtain ⟨rfl, σ1, τ1, rfl, hx1⟩ := hq
  refine ⟨σ1, τ1, rfl, ?_⟩
  refine gv_aload_n 1830 rfl dL_law_1829 rfl ?_
  refine l_arg 1836 rfl dL_law_1830 dL_law_1831 dL_law_1833 dL_law_1834 dL_law_1835 rfl rfl (by omega) hL ?_
  refine l_arg 1842 rfl dL_law_1836 dL_law_1837 dL_law_1839 dL_law_1840 dL_law_1841 rfl rfl (by omega) hL ?_
  refine l_arg 1848 rfl dL_law_1842 dL_law_1843 dL_law_1845 dL_law_1846 dL_law_1847 rfl rfl (by omega) hL ?_
  refine l_arg 1854 rfl dL_law_1848 dL_law_1849 dL_law_1851 dL_law_1852 dL_law_1853 rfl rfl (by omega) hL ?_
  refine l_callm [vi (xs (i + 1).toNat).toInt, vi (xs (i + 2).toNat).toInt, vi (xs (i + 3).toNat).toInt, vi (xs (i + 4).toNat).toInt] dL_law_1854 kL_161 rfl (Nat.le_of_ble_eq_true rfl) (Y_flat hm (i32_r _) (i32_r _) (i32_r _) (i32_r _)) (fun r w1 hq => ?_)
  obtain ⟨rfl, σ3, τ3, rfl, hm1⟩ := hq
  refine ⟨σ3, τ3, rfl, ?_⟩
  refine gv_same 2412 dL_law_1857 rfl ?_
  exact hE _ _ _ _ _ _ hx1 hm1
/-- apart -/
theorem L_33 (hL : L ≤ 3584) (hi : 0 ≤ i ∧ i + 7 ≤ L) (hx : zxR B σ τ A) (hm : zmR (B + 86) σ2 τ2 A) (hE : lEnd G B b L xs cb sb i) : gV (lX G B b L xs) (lH G B σ τ σ2 τ2 u cb sb) 1862 (lLv b B i) [] := by
  refine gv_aload_n 1863 rfl dL_law_1862 rfl ?_
  refine l_arg 1869 rfl dL_law_1863 dL_law_1864 dL_law_1866 dL_law_1867 dL_law_1868 rfl rfl (by omega) hL ?_
  refine l_arg 1875 rfl dL_law_1869 dL_law_1870 dL_law_1872 dL_law_1873 dL_law_1874 rfl rfl (by omega) hL ?_
  refine l_arg 1881 rfl dL_law_1875 dL_law_1876 dL_law_1878 dL_law_1879 dL_law_1880 rfl rfl (by omega) hL ?_
  refine l_callx [vi (xs (i + 1).toNat).toInt, vi (xs (i + 2).toNat).toInt, vi (xs (i + 3).toNat).toInt] dL_law_1881 kL_162 rfl (Nat.le_of_ble_eq_true rfl) (X_apart hx (i32_r _) (i32_r _) (i32_r _)) (fun r w1 hq => ?_)
  obtain ⟨rfl, σ1, τ1, rfl, hx1⟩ := hq
  refine ⟨σ1, τ1, rfl, ?_⟩
  refine gv_aload_n 1885 rfl dL_law_1884 rfl ?_
  refine l_arg 1891 rfl dL_law_1885 dL_law_1886 dL_law_1888 dL_law_1889 dL_law_1890 rfl rfl (by omega) hL ?_
  refine l_arg 1897 rfl dL_law_1891 dL_law_1892 dL_law_1894 dL_law_1895 dL_law_1896 rfl rfl (by omega) hL ?_
  refine l_arg 1903 rfl dL_law_1897 dL_law_1898 dL_law_1900 dL_law_1901 dL_law_1902 rfl rfl (by omega) hL ?_
  refine l_callm [vi (xs (i + 1).toNat).toInt, vi (xs (i + 2).toNat).toInt, vi (xs (i + 3).toNat).toInt] dL_law_1903 kL_165 rfl (Nat.le_of_ble_eq_true rfl) (Y_apart hm (i32_r _) (i32_r _) (i32_r _)) (fun r w1 hq => ?_)
  obtain ⟨rfl, σ3, τ3, rfl, hm1⟩ := hq
  refine ⟨σ3, τ3, rfl, ?_⟩
  refine gv_same 2412 dL_law_1906 rfl ?_
  exact hE _ _ _ _ _ _ hx1 hm1
/-- regions -/
theorem L_34 (hL : L ≤ 3584) (hi : 0 ≤ i ∧ i + 7 ≤ L) (hx : zxR B σ τ A) (hm : zmR (B + 86) σ2 τ2 A) (hE : lEnd G B b L xs cb sb i) : gV (lX G B b L xs) (lH G B σ τ σ2 τ2 u cb sb) 1911 (lLv b B i) [] := by
  refine gv_aload_n 1912 rfl dL_law_1911 rfl ?_
  refine l_arg 1918 rfl dL_law_1912 dL_law_1913 dL_law_1915 dL_law_1916 dL_law_1917 rfl rfl (by omega) hL ?_
  refine l_arg 1924 rfl dL_law_1918 dL_law_1919 dL_law_1921 dL_law_1922 dL_law_1923 rfl rfl (by omega) hL ?_
  refine l_callx [vi (xs (i + 1).toNat).toInt, vi (xs (i + 2).toNat).toInt] dL_law_1924 kL_166 rfl (Nat.le_of_ble_eq_true rfl) (X_regions hx (i32_r _) (i32_r _)) (fun r w1 hq => ?_)
  obtain ⟨rfl, σ1, τ1, rfl, hx1⟩ := hq
  refine ⟨σ1, τ1, rfl, ?_⟩
  refine gv_aload_n 1928 rfl dL_law_1927 rfl ?_
  refine l_arg 1934 rfl dL_law_1928 dL_law_1929 dL_law_1931 dL_law_1932 dL_law_1933 rfl rfl (by omega) hL ?_
  refine l_arg 1940 rfl dL_law_1934 dL_law_1935 dL_law_1937 dL_law_1938 dL_law_1939 rfl rfl (by omega) hL ?_
  refine l_callm [vi (xs (i + 1).toNat).toInt, vi (xs (i + 2).toNat).toInt] dL_law_1940 kL_169 rfl (Nat.le_of_ble_eq_true rfl) (Y_regions hm (i32_r _) (i32_r _)) (fun r w1 hq => ?_)
  obtain ⟨rfl, σ3, τ3, rfl, hm1⟩ := hq
  refine ⟨σ3, τ3, rfl, ?_⟩
  refine gv_same 2412 dL_law_1943 rfl ?_
  exact hE _ _ _ _ _ _ hx1 hm1
/-- region -/
theorem L_35 (hL : L ≤ 3584) (hi : 0 ≤ i ∧ i + 7 ≤ L) (hx : zxR B σ τ A) (hm : zmR (B + 86) σ2 τ2 A) (hE : lEnd G B b L xs cb sb i) : gV (lX G B b L xs) (lH G B σ τ σ2 τ2 u cb sb) 1948 (lLv b B i) [] := by
  refine gv_aload_n 1949 rfl dL_law_1948 rfl ?_
  refine l_arg 1955 rfl dL_law_1949 dL_law_1950 dL_law_1952 dL_law_1953 dL_law_1954 rfl rfl (by omega) hL ?_
  refine l_arg 1961 rfl dL_law_1955 dL_law_1956 dL_law_1958 dL_law_1959 dL_law_1960 rfl rfl (by omega) hL ?_
  refine l_arg 1967 rfl dL_law_1961 dL_law_1962 dL_law_1964 dL_law_1965 dL_law_1966 rfl rfl (by omega) hL ?_
  refine l_arg 1973 rfl dL_law_1967 dL_law_1968 dL_law_1970 dL_law_1971 dL_law_1972 rfl rfl (by omega) hL ?_
  refine l_callx [vi (xs (i + 1).toNat).toInt, vi (xs (i + 2).toNat).toInt, vi (xs (i + 3).toNat).toInt, vi (xs (i + 4).toNat).toInt] dL_law_1973 kL_170 rfl (Nat.le_of_ble_eq_true rfl) (X_region hx (i32_r _) (i32_r _) (i32_r _) (i32_r _)) (fun r w1 hq => ?_)
  obtain ⟨rfl, σ1, τ1, rfl, hx1⟩ := hq
  refine ⟨σ1, τ1, rfl, ?_⟩
  refine gv_aload_n 1977 rfl dL_law_1976 rfl ?_
  refine l_arg 1983 rfl dL_law_1977 dL_law_1978 dL_law_1980 dL_law_1981 dL_law_1982 rfl rfl (by omega) hL ?_
  refine l_arg 1989 rfl dL_law_1983 dL_law_1984 dL_law_1986 dL_law_1987 dL_law_1988 rfl rfl (by omega) hL ?_
  refine l_arg 1995 rfl dL_law_1989 dL_law_1990 dL_law_1992 dL_law_1993 dL_law_1994 rfl rfl (by omega) hL ?_
  refine l_arg 2001 rfl dL_law_1995 dL_law_1996 dL_law_1998 dL_law_1999 dL_law_2000 rfl rfl (by omega) hL ?_
  refine l_callm [vi (xs (i + 1).toNat).toInt, vi (xs (i + 2).toNat).toInt, vi (xs (i + 3).toNat).toInt, vi (xs (i + 4).toNat).toInt] dL_law_2001 kL_173 rfl (Nat.le_of_ble_eq_true rfl) (Y_region hm (i32_r _) (i32_r _) (i32_r _) (i32_r _)) (fun r w1 hq => ?_)
  obtain ⟨rfl, σ3, τ3, rfl, hm1⟩ := hq
  refine ⟨σ3, τ3, rfl, ?_⟩
  refine gv_same 2412 dL_law_2004 rfl ?_
  exact hE _ _ _ _ _ _ hx1 hm1
/-- regionAt -/
theorem L_36 (hL : L ≤ 3584) (hi : 0 ≤ i ∧ i + 7 ≤ L) (hx : zxR B σ τ A) (hm : zmR (B + 86) σ2 τ2 A) (hE : lEnd G B b L xs cb sb i) : gV (lX G B b L xs) (lH G B σ τ σ2 τ2 u cb sb) 2009 (lLv b B i) [] := by
  refine gv_aload_n 2010 rfl dL_law_2009 rfl ?_
  refine l_arg 2016 rfl dL_law_2010 dL_law_2011 dL_law_2013 dL_law_2014 dL_law_2015 rfl rfl (by omega) hL ?_
  refine l_arg 2022 rfl dL_law_2016 dL_law_2017 dL_law_2019 dL_law_2020 dL_law_2021 rfl rfl (by omega) hL ?_
  refine l_arg 2028 rfl dL_law_2022 dL_law_2023 dL_law_2025 dL_law_2026 dL_law_2027 rfl rfl (by omega) hL ?_
  refine l_arg 2034 rfl dL_law_2028 dL_law_2029 dL_law_2031 dL_law_2032 dL_law_2033 rfl rfl (by omega) hL ?_
  refine l_callx [vi (xs (i + 1).toNat).toInt, vi (xs (i + 2).toNat).toInt, vi (xs (i + 3).toNat).toInt, vi (xs (i + 4).toNat).toInt] dL_law_2034 kL_174 rfl (Nat.le_of_ble_eq_true rfl) (X_regionAt hx (i32_r _) (i32_r _) (i32_r _) (i32_r _)) (fun r w1 hq => ?_)
  obtain ⟨rfl, σ1, τ1, rfl, hx1⟩ := hq
  refine ⟨σ1, τ1, rfl, ?_⟩
  refine gv_aload_n 2038 rfl dL_law_2037 rfl ?_
  refine l_arg 2044 rfl dL_law_2038 dL_law_2039 dL_law_2041 dL_law_2042 dL_law_2043 rfl rfl (by omega) hL ?_
  refine l_arg 2050 rfl dL_law_2044 dL_law_2045 dL_law_2047 dL_law_2048 dL_law_2049 rfl rfl (by omega) hL ?_
  refine l_arg 2056 rfl dL_law_2050 dL_law_2051 dL_law_2053 dL_law_2054 dL_law_2055 rfl rfl (by omega) hL ?_
  refine l_arg 2062 rfl dL_law_2056 dL_law_2057 dL_law_2059 dL_law_2060 dL_law_2061 rfl rfl (by omega) hL ?_
  refine l_callm [vi (xs (i + 1).toNat).toInt, vi (xs (i + 2).toNat).toInt, vi (xs (i + 3).toNat).toInt, vi (xs (i + 4).toNat).toInt] dL_law_2062 kL_177 rfl (Nat.le_of_ble_eq_true rfl) (Y_regionAt hm (i32_r _) (i32_r _) (i32_r _) (i32_r _)) (fun r w1 hq => ?_)
  obtain ⟨rfl, σ3, τ3, rfl, hm1⟩ := hq
  refine ⟨σ3, τ3, rfl, ?_⟩
  refine gv_same 2412 dL_law_2065 rfl ?_
  exact hE _ _ _ _ _ _ hx1 hm1
/-- steep -/
theorem L_37 (hL : L ≤ 3584) (hi : 0 ≤ i ∧ i + 7 ≤ L) (hx : zxR B σ τ A) (hm : zmR (B + 86) σ2 τ2 A) (hE : lEnd G B b L xs cb sb i) : gV (lX G B b L xs) (lH G B σ τ σ2 τ2 u cb sb) 2070 (lLv b B i) [] := by
  refine gv_aload_n 2071 rfl dL_law_2070 rfl ?_
  refine l_arg 2077 rfl dL_law_2071 dL_law_2072 dL_law_2074 dL_law_2075 dL_law_2076 rfl rfl (by omega) hL ?_
  refine l_arg 2083 rfl dL_law_2077 dL_law_2078 dL_law_2080 dL_law_2081 dL_law_2082 rfl rfl (by omega) hL ?_
  refine l_callx [vi (xs (i + 1).toNat).toInt, vi (xs (i + 2).toNat).toInt] dL_law_2083 kL_178 rfl (Nat.le_of_ble_eq_true rfl) (X_steep hx (i32_r _) (i32_r _)) (fun r w1 hq => ?_)
  obtain ⟨rfl, σ1, τ1, rfl, hx1⟩ := hq
  refine ⟨σ1, τ1, rfl, ?_⟩
  refine gv_aload_n 2087 rfl dL_law_2086 rfl ?_
  refine l_arg 2093 rfl dL_law_2087 dL_law_2088 dL_law_2090 dL_law_2091 dL_law_2092 rfl rfl (by omega) hL ?_
  refine l_arg 2099 rfl dL_law_2093 dL_law_2094 dL_law_2096 dL_law_2097 dL_law_2098 rfl rfl (by omega) hL ?_
  refine l_callm [vi (xs (i + 1).toNat).toInt, vi (xs (i + 2).toNat).toInt] dL_law_2099 kL_181 rfl (Nat.le_of_ble_eq_true rfl) (Y_steep hm (i32_r _) (i32_r _)) (fun r w1 hq => ?_)
  obtain ⟨rfl, σ3, τ3, rfl, hm1⟩ := hq
  refine ⟨σ3, τ3, rfl, ?_⟩
  refine gv_same 2412 dL_law_2102 rfl ?_
  exact hE _ _ _ _ _ _ hx1 hm1
/-- ranked -/
theorem L_38 (hL : L ≤ 3584) (hi : 0 ≤ i ∧ i + 7 ≤ L) (hx : zxR B σ τ A) (hm : zmR (B + 86) σ2 τ2 A) (hE : lEnd G B b L xs cb sb i) : gV (lX G B b L xs) (lH G B σ τ σ2 τ2 u cb sb) 2107 (lLv b B i) [] := by
  refine gv_aload_n 2108 rfl dL_law_2107 rfl ?_
  refine l_arg 2114 rfl dL_law_2108 dL_law_2109 dL_law_2111 dL_law_2112 dL_law_2113 rfl rfl (by omega) hL ?_
  refine l_arg 2120 rfl dL_law_2114 dL_law_2115 dL_law_2117 dL_law_2118 dL_law_2119 rfl rfl (by omega) hL ?_
  refine l_callx [vi (xs (i + 1).toNat).toInt, vi (xs (i + 2).toNat).toInt] dL_law_2120 kL_182 rfl (Nat.le_of_ble_eq_true rfl) (X_ranked hx (i32_r _) (i32_r _)) (fun r w1 hq => ?_)
  obtain ⟨rfl, σ1, τ1, rfl, hx1⟩ := hq
  refine ⟨σ1, τ1, rfl, ?_⟩
  refine gv_aload_n 2124 rfl dL_law_2123 rfl ?_
  refine l_arg 2130 rfl dL_law_2124 dL_law_2125 dL_law_2127 dL_law_2128 dL_law_2129 rfl rfl (by omega) hL ?_
  refine l_arg 2136 rfl dL_law_2130 dL_law_2131 dL_law_2133 dL_law_2134 dL_law_2135 rfl rfl (by omega) hL ?_
  refine l_callm [vi (xs (i + 1).toNat).toInt, vi (xs (i + 2).toNat).toInt] dL_law_2136 kL_185 rfl (Nat.le_of_ble_eq_true rfl) (Y_ranked hm (i32_r _) (i32_r _)) (fun r w1 hq => ?_)
  obtain ⟨rfl, σ3, τ3, rfl, hm1⟩ := hq
  refine ⟨σ3, τ3, rfl, ?_⟩
  refine gv_same 2412 dL_law_2139 rfl ?_
  exact hE _ _ _ _ _ _ hx1 hm1
/-- line -/
theorem L_39 (hL : L ≤ 3584) (hi : 0 ≤ i ∧ i + 7 ≤ L) (hx : zxR B σ τ A) (hm : zmR (B + 86) σ2 τ2 A) (hE : lEnd G B b L xs cb sb i) : gV (lX G B b L xs) (lH G B σ τ σ2 τ2 u cb sb) 2144 (lLv b B i) [] := by
  refine gv_aload_n 2145 rfl dL_law_2144 rfl ?_
  refine l_arg 2151 rfl dL_law_2145 dL_law_2146 dL_law_2148 dL_law_2149 dL_law_2150 rfl rfl (by omega) hL ?_
  refine l_arg 2157 rfl dL_law_2151 dL_law_2152 dL_law_2154 dL_law_2155 dL_law_2156 rfl rfl (by omega) hL ?_
  refine l_arg 2163 rfl dL_law_2157 dL_law_2158 dL_law_2160 dL_law_2161 dL_law_2162 rfl rfl (by omega) hL ?_
  refine l_callx [vi (xs (i + 1).toNat).toInt, vi (xs (i + 2).toNat).toInt, vi (xs (i + 3).toNat).toInt] dL_law_2163 kL_186 rfl (Nat.le_of_ble_eq_true rfl) (X_line hx (i32_r _) (i32_r _) (i32_r _)) (fun r w1 hq => ?_)
  obtain ⟨rfl, σ1, τ1, rfl, hx1⟩ := hq
  refine ⟨σ1, τ1, rfl, ?_⟩
  refine gv_aload_n 2167 rfl dL_law_2166 rfl ?_
  refine l_arg 2173 rfl dL_law_2167 dL_law_2168 dL_law_2170 dL_law_2171 dL_law_2172 rfl rfl (by omega) hL ?_
  refine l_arg 2179 rfl dL_law_2173 dL_law_2174 dL_law_2176 dL_law_2177 dL_law_2178 rfl rfl (by omega) hL ?_
  refine l_arg 2185 rfl dL_law_2179 dL_law_2180 dL_law_2182 dL_law_2183 dL_law_2184 rfl rfl (by omega) hL ?_
  refine l_callm [vi (xs (i + 1).toNat).toInt, vi (xs (i + 2).toNat).toInt, vi (xs (i + 3).toNat).toInt] dL_law_2185 kL_189 rfl (Nat.le_of_ble_eq_true rfl) (Y_line hm (i32_r _) (i32_r _) (i32_r _)) (fun r w1 hq => ?_)
  obtain ⟨rfl, σ3, τ3, rfl, hm1⟩ := hq
  refine ⟨σ3, τ3, rfl, ?_⟩
  refine gv_same 2412 dL_law_2188 rfl ?_
  exact hE _ _ _ _ _ _ hx1 hm1
/-- pairs -/
theorem L_40 (hL : L ≤ 3584) (hi : 0 ≤ i ∧ i + 7 ≤ L) (hx : zxR B σ τ A) (hm : zmR (B + 86) σ2 τ2 A) (hE : lEnd G B b L xs cb sb i) : gV (lX G B b L xs) (lH G B σ τ σ2 τ2 u cb sb) 2193 (lLv b B i) [] := by
  refine gv_aload_n 2194 rfl dL_law_2193 rfl ?_
  refine l_arg 2200 rfl dL_law_2194 dL_law_2195 dL_law_2197 dL_law_2198 dL_law_2199 rfl rfl (by omega) hL ?_
  refine l_callx [vi (xs (i + 1).toNat).toInt] dL_law_2200 kL_190 rfl (Nat.le_of_ble_eq_true rfl) (X_pairs hx (i32_r _)) (fun r w1 hq => ?_)
  obtain ⟨rfl, σ1, τ1, rfl, hx1⟩ := hq
  refine ⟨σ1, τ1, rfl, ?_⟩
  refine gv_aload_n 2204 rfl dL_law_2203 rfl ?_
  refine l_arg 2210 rfl dL_law_2204 dL_law_2205 dL_law_2207 dL_law_2208 dL_law_2209 rfl rfl (by omega) hL ?_
  refine l_callm [vi (xs (i + 1).toNat).toInt] dL_law_2210 kL_193 rfl (Nat.le_of_ble_eq_true rfl) (Y_pairs hm (i32_r _)) (fun r w1 hq => ?_)
  obtain ⟨rfl, σ3, τ3, rfl, hm1⟩ := hq
  refine ⟨σ3, τ3, rfl, ?_⟩
  refine gv_same 2412 dL_law_2213 rfl ?_
  exact hE _ _ _ _ _ _ hx1 hm1
/-- pair -/
theorem L_41 (hL : L ≤ 3584) (hi : 0 ≤ i ∧ i + 7 ≤ L) (hx : zxR B σ τ A) (hm : zmR (B + 86) σ2 τ2 A) (hE : lEnd G B b L xs cb sb i) : gV (lX G B b L xs) (lH G B σ τ σ2 τ2 u cb sb) 2218 (lLv b B i) [] := by
  refine gv_aload_n 2219 rfl dL_law_2218 rfl ?_
  refine l_arg 2225 rfl dL_law_2219 dL_law_2220 dL_law_2222 dL_law_2223 dL_law_2224 rfl rfl (by omega) hL ?_
  refine l_arg 2231 rfl dL_law_2225 dL_law_2226 dL_law_2228 dL_law_2229 dL_law_2230 rfl rfl (by omega) hL ?_
  refine l_callx [vi (xs (i + 1).toNat).toInt, vi (xs (i + 2).toNat).toInt] dL_law_2231 kL_194 rfl (Nat.le_of_ble_eq_true rfl) (X_pair hx (i32_r _) (i32_r _)) (fun r w1 hq => ?_)
  obtain ⟨rfl, σ1, τ1, rfl, hx1⟩ := hq
  refine ⟨σ1, τ1, rfl, ?_⟩
  refine gv_aload_n 2235 rfl dL_law_2234 rfl ?_
  refine l_arg 2241 rfl dL_law_2235 dL_law_2236 dL_law_2238 dL_law_2239 dL_law_2240 rfl rfl (by omega) hL ?_
  refine l_arg 2247 rfl dL_law_2241 dL_law_2242 dL_law_2244 dL_law_2245 dL_law_2246 rfl rfl (by omega) hL ?_
  refine l_callm [vi (xs (i + 1).toNat).toInt, vi (xs (i + 2).toNat).toInt] dL_law_2247 kL_197 rfl (Nat.le_of_ble_eq_true rfl) (Y_pair hm (i32_r _) (i32_r _)) (fun r w1 hq => ?_)
  obtain ⟨rfl, σ3, τ3, rfl, hm1⟩ := hq
  refine ⟨σ3, τ3, rfl, ?_⟩
  refine gv_same 2412 dL_law_2250 rfl ?_
  exact hE _ _ _ _ _ _ hx1 hm1
/-- undo -/
theorem L_42 (hL : L ≤ 3584) (hi : 0 ≤ i ∧ i + 7 ≤ L) (hx : zxR B σ τ A) (hm : zmR (B + 86) σ2 τ2 A) (hE : lEnd G B b L xs cb sb i) : gV (lX G B b L xs) (lH G B σ τ σ2 τ2 u cb sb) 2255 (lLv b B i) [] := by
  refine gv_aload_n 2256 rfl dL_law_2255 rfl ?_
  refine l_callx [] dL_law_2256 kL_198 rfl (Nat.le_of_ble_eq_true rfl) (X_undo hx) (fun r w1 hq => ?_)
  obtain ⟨rfl, σ1, τ1, rfl, hx1⟩ := hq
  refine ⟨σ1, τ1, rfl, ?_⟩
  refine gv_aload_n 2260 rfl dL_law_2259 rfl ?_
  refine l_callm [] dL_law_2260 kL_201 rfl (Nat.le_of_ble_eq_true rfl) (Y_undo hm) (fun r w1 hq => ?_)
  obtain ⟨rfl, σ3, τ3, rfl, hm1⟩ := hq
  refine ⟨σ3, τ3, rfl, ?_⟩
  refine gv_same 2412 dL_law_2263 rfl ?_
  exact hE _ _ _ _ _ _ hx1 hm1
/-- write -/
theorem L_43 (hL : L ≤ 3584) (hi : 0 ≤ i ∧ i + 7 ≤ L) (hx : zxR B σ τ A) (hm : zmR (B + 86) σ2 τ2 A) (hE : lEnd G B b L xs cb sb i) : gV (lX G B b L xs) (lH G B σ τ σ2 τ2 u cb sb) 2268 (lLv b B i) [] := by
  refine gv_aload_n 2269 rfl dL_law_2268 rfl ?_
  refine l_arg 2275 rfl dL_law_2269 dL_law_2270 dL_law_2272 dL_law_2273 dL_law_2274 rfl rfl (by omega) hL ?_
  refine l_callx [vi (xs (i + 1).toNat).toInt] dL_law_2275 kL_202 rfl (Nat.le_of_ble_eq_true rfl) (X_write hx (i32_r _)) (fun r w1 hq => ?_)
  obtain ⟨rfl, σ1, τ1, rfl, hx1⟩ := hq
  refine ⟨σ1, τ1, rfl, ?_⟩
  refine gv_aload_n 2279 rfl dL_law_2278 rfl ?_
  refine l_arg 2285 rfl dL_law_2279 dL_law_2280 dL_law_2282 dL_law_2283 dL_law_2284 rfl rfl (by omega) hL ?_
  refine l_callm [vi (xs (i + 1).toNat).toInt] dL_law_2285 kL_205 rfl (Nat.le_of_ble_eq_true rfl) (Y_write hm (i32_r _)) (fun r w1 hq => ?_)
  obtain ⟨rfl, σ3, τ3, rfl, hm1⟩ := hq
  refine ⟨σ3, τ3, rfl, ?_⟩
  refine gv_same 2412 dL_law_2288 rfl ?_
  exact hE _ _ _ _ _ _ hx1 hm1
/-- octet -/
theorem L_44 (hL : L ≤ 3584) (hi : 0 ≤ i ∧ i + 7 ≤ L) (hx : zxR B σ τ A) (hm : zmR (B + 86) σ2 τ2 A) (hE : lEnd G B b L xs cb sb i) : gV (lX G B b L xs) (lH G B σ τ σ2 τ2 u cb sb) 2293 (lLv b B i) [] := by
  refine gv_aload_n 2294 rfl dL_law_2293 rfl ?_
  refine l_arg 2300 rfl dL_law_2294 dL_law_2295 dL_law_2297 dL_law_2298 dL_law_2299 rfl rfl (by omega) hL ?_
  refine l_callx [vi (xs (i + 1).toNat).toInt] dL_law_2300 kL_206 rfl (Nat.le_of_ble_eq_true rfl) (X_octet hx (i32_r _)) (fun r w1 hq => ?_)
  obtain ⟨rfl, σ1, τ1, rfl, hx1⟩ := hq
  refine ⟨σ1, τ1, rfl, ?_⟩
  refine gv_aload_n 2304 rfl dL_law_2303 rfl ?_
  refine l_arg 2310 rfl dL_law_2304 dL_law_2305 dL_law_2307 dL_law_2308 dL_law_2309 rfl rfl (by omega) hL ?_
  refine l_callm [vi (xs (i + 1).toNat).toInt] dL_law_2310 kL_209 rfl (Nat.le_of_ble_eq_true rfl) (Y_octet hm (i32_r _)) (fun r w1 hq => ?_)
  obtain ⟨rfl, σ3, τ3, rfl, hm1⟩ := hq
  refine ⟨σ3, τ3, rfl, ?_⟩
  refine gv_same 2412 dL_law_2313 rfl ?_
  exact hE _ _ _ _ _ _ hx1 hm1
/-- bytes -/
theorem L_46 (hL : L ≤ 3584) (hi : 0 ≤ i ∧ i + 7 ≤ L) (hx : zxR B σ τ A) (hm : zmR (B + 86) σ2 τ2 A) (hE : lEnd G B b L xs cb sb i) : gV (lX G B b L xs) (lH G B σ τ σ2 τ2 u cb sb) 2386 (lLv b B i) [] := by
  refine gv_aload_n 2387 rfl dL_law_2386 rfl ?_
  refine l_callx [] dL_law_2387 kL_219 rfl (Nat.le_of_ble_eq_true rfl) (X_bytes hx) (fun r w1 hq => ?_)
  obtain ⟨rfl, σ1, τ1, rfl, hx1⟩ := hq
  refine ⟨σ1, τ1, rfl, ?_⟩
  refine gv_aload_n 2391 rfl dL_law_2390 rfl ?_
  refine l_callm [] dL_law_2391 kL_222 rfl (Nat.le_of_ble_eq_true rfl) (Y_bytes hm) (fun r w1 hq => ?_)
  obtain ⟨rfl, σ3, τ3, rfl, hm1⟩ := hq
  refine ⟨σ3, τ3, rfl, ?_⟩
  refine gv_same 2412 dL_law_2394 rfl ?_
  exact hE _ _ _ _ _ _ hx1 hm1
/-- trouble -/
theorem L_47 (hL : L ≤ 3584) (hi : 0 ≤ i ∧ i + 7 ≤ L) (hx : zxR B σ τ A) (hm : zmR (B + 86) σ2 τ2 A) (hE : lEnd G B b L xs cb sb i) : gV (lX G B b L xs) (lH G B σ τ σ2 τ2 u cb sb) 2399 (lLv b B i) [] := by
  refine gv_aload_n 2400 rfl dL_law_2399 rfl ?_
  refine l_callx [] dL_law_2400 kL_223 rfl (Nat.le_of_ble_eq_true rfl) (X_trouble hx) (fun r w1 hq => ?_)
  obtain ⟨rfl, σ1, τ1, rfl, hx1⟩ := hq
  refine ⟨σ1, τ1, rfl, ?_⟩
  refine gv_aload_n 2404 rfl dL_law_2403 rfl ?_
  refine l_callm [] dL_law_2404 kL_226 rfl (Nat.le_of_ble_eq_true rfl) (Y_trouble hm) (fun r w1 hq => ?_)
  obtain ⟨rfl, σ3, τ3, rfl, hm1⟩ := hq
  refine ⟨σ3, τ3, rfl, ?_⟩
  refine gv_same 2412 dL_law_2407 rfl ?_
  exact hE _ _ _ _ _ _ hx1 hm1
end LL
