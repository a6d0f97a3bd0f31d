-- ===== the rounds of the law's loop =====
section C74
variable {p : Program} {l : Launch} {e : Env} {s : State} {m : MethodId} {args : Array Value} {below : List Frame} {meth : Method} {c : Code} {H : Heap} {locs : List Loc} {cells slots : Nat} {Q : State → Prop}
variable {ls : Array Slot} {D : va_G} {A : Nat → Prop} {cA : Nat → ClassId} {ad adF adW tt a : Nat → Nat} {ao ao2 : Nat} {ad2 a2 : Nat → Nat} {bb L : Nat} {xs : Nat → Int32}
variable {C : Nat} {b : SBb} {g : Nat → Int64} {gd : Nat → UInt64} {σ s' : St} {T : List Nat}
set_option maxHeartbeats 4000000 in
set_option maxRecDepth 100000 in
theorem lawc_0 (K : LC p l s m args meth c D A cA ad adF adW tt bb L xs) (hC : C < 512) (hi : 4 * C + 4 ≤ L) (Nx : LGo p l e s m args below meth c Q D A cA ad a ao ao2 ad2 a2 bb (C + 1)) (hG : GG σ s' C T) (hB : SBT T b) (hP : va_P D vwCl (LW cA ad a ao g T.length b ao2 gd ad2 a2 σ s') H) (hD : va_D A (LW cA ad a ao g T.length b ao2 gd ad2 a2 σ s')) (hS : va_S A s.heap H locs) (hc1 : cells ≤ 254 + 70 * C) (hc2 : slots ≤ 4842 + 680 * C) (hl : lv_has ls 9 (LL bb (a 209) (a2 0) ao ao2 (nI (4 * C)))) : W p l e room_1 s m args below meth c H locs cells slots Q (F0 m 292 ls []) := by
  have hx := K.1.1
  have hb := K.1.2.1
  obtain ⟨c1, r, σ1, r', s2, e1, e2, hc, h13, hr, hG2⟩ := ca_addNoise (m := 2000) (Nat.le_refl 2000) hC hG (xs (4 * C + 1)) (xs (4 * C + 2)) (xs (4 * C + 3))
  refine lv_aload_n hx hb dL_law_292 rfl (lv_at hl 2 rfl) ?_
  refine la_ld (j := 1) (n := 1) K hS (lv_at hl 1 rfl) (lv_at hl 0 rfl) hi (by decide) rfl dL_law_293 dL_law_294 dL_law_296 dL_law_297 dL_law_298 ?_
  refine la_ld (j := 2) (n := 2) K hS (lv_at hl 1 rfl) (lv_at hl 0 rfl) hi (by decide) rfl dL_law_299 dL_law_300 dL_law_302 dL_law_303 dL_law_304 ?_
  refine la_ld (j := 3) (n := 3) K hS (lv_at hl 1 rfl) (lv_at hl 0 rfl) hi (by decide) rfl dL_law_305 dL_law_306 dL_law_308 dL_law_309 dL_law_310 ?_
  refine lv_aload_n hx hb dL_law_311 rfl (lv_at hl 4 rfl) ?_
  refine la_wr (nA := 5) (As := [.ref (a 209), .int ((xs (4 * C + 1))), .int ((xs (4 * C + 2))), .int ((xs (4 * C + 3))), .ref ao]) K hC (mL_addNoise l K.2.1 D cA ad adF adW tt a _ _ stg_E stg_X stg_N 2000 ((xs (4 * C + 1))) ((xs (4 * C + 2))) ((xs (4 * C + 3))) σ c1 r σ1 ao g e1 (by simpa using hc)) hP hD hS q4_168 q4_169 q1_0 q4_170 (by decide +kernel) (by decide) hc1 hc2 rfl rfl hl dL_law_312 dL_law_315 (fun H locs ls hP hD hS hl => ?_)
  refine lv_aload_n hx hb dL_law_317 rfl (lv_at hl 4 rfl) ?_
  refine la_ld (j := 1) (n := 1) K hS (lv_at hl 2 rfl) (lv_at hl 1 rfl) hi (by decide) rfl dL_law_318 dL_law_319 dL_law_321 dL_law_322 dL_law_323 ?_
  refine la_ld (j := 2) (n := 2) K hS (lv_at hl 2 rfl) (lv_at hl 1 rfl) hi (by decide) rfl dL_law_324 dL_law_325 dL_law_327 dL_law_328 dL_law_329 ?_
  refine la_ld (j := 3) (n := 3) K hS (lv_at hl 2 rfl) (lv_at hl 1 rfl) hi (by decide) rfl dL_law_330 dL_law_331 dL_law_333 dL_law_334 dL_law_335 ?_
  refine la_mi (nA := 3) (As := [.int ((xs (4 * C + 1))), .int ((xs (4 * C + 2))), .int ((xs (4 * C + 3)))]) K (mX12_addNoise l D cA ad2 a2 [] 2000 ((xs (4 * C + 1))) ((xs (4 * C + 2))) ((xs (4 * C + 3))) s' r' s2 e2) hP hD hS q7_219 q7_220 q7_221 q1_16 q7_222 (by decide +kernel) (by decide) (by omega) (by omega) rfl hl.1 [] rfl (Nat.le_of_ble_eq_true rfl) dL_law_336 (fun H locs hP hD hS => ?_)
  refine lv_istore (lv' := (7, .int r') :: (6, .int (hix [1, 4] c1)) :: LL bb (a 209) (a2 0) ao ao2 (nI (4 * C))) hx hb dL_law_339 hl (by decide) rfl (fun ls hl => ?_)
  exact la_tail K hC Nx hG2 hB h13 (la_fin (by decide) hc hr) hP hD hS (by omega) (by omega) hl dL_law_341 dL_law_342 dL_law_345 dL_law_347 dL_law_352 dL_law_354 dL_law_357 dL_law_358 dL_law_359 dL_law_360 dL_law_362 dL_law_363 dL_law_364 dL_law_369 (by decide)
set_option maxHeartbeats 4000000 in
set_option maxRecDepth 100000 in
theorem lawc_1 (K : LC p l s m args meth c D A cA ad adF adW tt bb L xs) (hC : C < 512) (hi : 4 * C + 4 ≤ L) (Nx : LGo p l e s m args below meth c Q D A cA ad a ao ao2 ad2 a2 bb (C + 1)) (hG : GG σ s' C T) (hB : SBT T b) (hP : va_P D vwCl (LW cA ad a ao g T.length b ao2 gd ad2 a2 σ s') H) (hD : va_D A (LW cA ad a ao g T.length b ao2 gd ad2 a2 σ s')) (hS : va_S A s.heap H locs) (hc1 : cells ≤ 254 + 70 * C) (hc2 : slots ≤ 4842 + 680 * C) (hl : lv_has ls 9 (LL bb (a 209) (a2 0) ao ao2 (nI (4 * C)))) : W p l e room_1 s m args below meth c H locs cells slots Q (F0 m 372 ls []) := by
  have hx := K.1.1
  have hb := K.1.2.1
  obtain ⟨c1, r, σ1, r', s2, e1, e2, hc, h13, hr, hG2⟩ := ca_removeNoise (m := 2000) (Nat.le_refl 2000) hC hG (xs (4 * C + 1))
  refine lv_aload_n hx hb dL_law_372 rfl (lv_at hl 2 rfl) ?_
  refine la_ld (j := 1) (n := 1) K hS (lv_at hl 1 rfl) (lv_at hl 0 rfl) hi (by decide) rfl dL_law_373 dL_law_374 dL_law_376 dL_law_377 dL_law_378 ?_
  refine lv_aload_n hx hb dL_law_379 rfl (lv_at hl 4 rfl) ?_
  refine la_wr (nA := 3) (As := [.ref (a 209), .int ((xs (4 * C + 1))), .ref ao]) K hC (mL_removeNoise l K.2.1 D cA ad adF adW tt a _ _ stg_E stg_X stg_N 2000 ((xs (4 * C + 1))) σ c1 r σ1 ao g e1 (by simpa using hc)) hP hD hS q5_48 q5_49 q1_0 q5_50 (by decide +kernel) (by decide) hc1 hc2 rfl rfl hl dL_law_380 dL_law_383 (fun H locs ls hP hD hS hl => ?_)
  refine lv_aload_n hx hb dL_law_385 rfl (lv_at hl 4 rfl) ?_
  refine la_ld (j := 1) (n := 1) K hS (lv_at hl 2 rfl) (lv_at hl 1 rfl) hi (by decide) rfl dL_law_386 dL_law_387 dL_law_389 dL_law_390 dL_law_391 ?_
  refine la_mi (nA := 1) (As := [.int ((xs (4 * C + 1)))]) K (mX12_removeNoise l D cA ad2 a2 [] 2000 ((xs (4 * C + 1))) s' r' s2 e2) hP hD hS q8_24 q8_25 q8_26 q1_16 q8_27 (by decide +kernel) (by decide) (by omega) (by omega) rfl hl.1 [] rfl (Nat.le_of_ble_eq_true rfl) dL_law_392 (fun H locs hP hD hS => ?_)
  refine lv_istore (lv' := (7, .int r') :: (6, .int (hix [3, 4] c1)) :: LL bb (a 209) (a2 0) ao ao2 (nI (4 * C))) hx hb dL_law_395 hl (by decide) rfl (fun ls hl => ?_)
  exact la_tail K hC Nx hG2 hB h13 (la_fin (by decide) hc hr) hP hD hS (by omega) (by omega) hl dL_law_397 dL_law_398 dL_law_401 dL_law_403 dL_law_408 dL_law_410 dL_law_413 dL_law_414 dL_law_415 dL_law_416 dL_law_418 dL_law_419 dL_law_420 dL_law_425 (by decide)
set_option maxHeartbeats 4000000 in
set_option maxRecDepth 100000 in
theorem lawc_2 (K : LC p l s m args meth c D A cA ad adF adW tt bb L xs) (hC : C < 512) (hi : 4 * C + 4 ≤ L) (Nx : LGo p l e s m args below meth c Q D A cA ad a ao ao2 ad2 a2 bb (C + 1)) (hG : GG σ s' C T) (hB : SBT T b) (hP : va_P D vwCl (LW cA ad a ao g T.length b ao2 gd ad2 a2 σ s') H) (hD : va_D A (LW cA ad a ao g T.length b ao2 gd ad2 a2 σ s')) (hS : va_S A s.heap H locs) (hc1 : cells ≤ 254 + 70 * C) (hc2 : slots ≤ 4842 + 680 * C) (hl : lv_has ls 9 (LL bb (a 209) (a2 0) ao ao2 (nI (4 * C)))) : W p l e room_1 s m args below meth c H locs cells slots Q (F0 m 428 ls []) := by
  have hx := K.1.1
  have hb := K.1.2.1
  obtain ⟨c1, r, σ1, r', s2, e1, e2, hc, h13, hr, hG2⟩ := ca_setGear (m := 2000) (Nat.le_refl 2000) hC hG (xs (4 * C + 1)) (xs (4 * C + 2))
  refine lv_aload_n hx hb dL_law_428 rfl (lv_at hl 2 rfl) ?_
  refine la_ld (j := 1) (n := 1) K hS (lv_at hl 1 rfl) (lv_at hl 0 rfl) hi (by decide) rfl dL_law_429 dL_law_430 dL_law_432 dL_law_433 dL_law_434 ?_
  refine la_ld (j := 2) (n := 2) K hS (lv_at hl 1 rfl) (lv_at hl 0 rfl) hi (by decide) rfl dL_law_435 dL_law_436 dL_law_438 dL_law_439 dL_law_440 ?_
  refine lv_aload_n hx hb dL_law_441 rfl (lv_at hl 4 rfl) ?_
  refine la_wr (nA := 4) (As := [.ref (a 209), .int ((xs (4 * C + 1))), .int ((xs (4 * C + 2))), .ref ao]) K hC (mL_setGear l K.2.1 D cA ad adF adW tt a _ _ stg_E stg_X stg_N 2000 ((xs (4 * C + 1))) ((xs (4 * C + 2))) σ c1 r σ1 ao g e1 (by simpa using hc)) hP hD hS q5_71 q5_72 q1_0 q5_73 (by decide +kernel) (by decide) hc1 hc2 rfl rfl hl dL_law_442 dL_law_445 (fun H locs ls hP hD hS hl => ?_)
  refine lv_aload_n hx hb dL_law_447 rfl (lv_at hl 4 rfl) ?_
  refine la_ld (j := 1) (n := 1) K hS (lv_at hl 2 rfl) (lv_at hl 1 rfl) hi (by decide) rfl dL_law_448 dL_law_449 dL_law_451 dL_law_452 dL_law_453 ?_
  refine la_ld (j := 2) (n := 2) K hS (lv_at hl 2 rfl) (lv_at hl 1 rfl) hi (by decide) rfl dL_law_454 dL_law_455 dL_law_457 dL_law_458 dL_law_459 ?_
  refine la_mi (nA := 2) (As := [.int ((xs (4 * C + 1))), .int ((xs (4 * C + 2)))]) K (mX12_setGear l D cA ad2 a2 [] 2000 ((xs (4 * C + 1))) ((xs (4 * C + 2))) s' r' s2 e2) hP hD hS q8_40 q8_41 q8_42 q1_16 q8_43 (by decide +kernel) (by decide) (by omega) (by omega) rfl hl.1 [] rfl (Nat.le_of_ble_eq_true rfl) dL_law_460 (fun H locs hP hD hS => ?_)
  refine lv_istore (lv' := (7, .int r') :: (6, .int (hix [2, 1] c1)) :: LL bb (a 209) (a2 0) ao ao2 (nI (4 * C))) hx hb dL_law_463 hl (by decide) rfl (fun ls hl => ?_)
  exact la_tail K hC Nx hG2 hB h13 (la_fin (by decide) hc hr) hP hD hS (by omega) (by omega) hl dL_law_465 dL_law_466 dL_law_469 dL_law_471 dL_law_476 dL_law_478 dL_law_481 dL_law_482 dL_law_483 dL_law_484 dL_law_486 dL_law_487 dL_law_488 dL_law_493 (by decide)
set_option maxHeartbeats 4000000 in
set_option maxRecDepth 100000 in
theorem lawc_3 (K : LC p l s m args meth c D A cA ad adF adW tt bb L xs) (hC : C < 512) (hi : 4 * C + 4 ≤ L) (Nx : LGo p l e s m args below meth c Q D A cA ad a ao ao2 ad2 a2 bb (C + 1)) (hG : GG σ s' C T) (hB : SBT T b) (hP : va_P D vwCl (LW cA ad a ao g T.length b ao2 gd ad2 a2 σ s') H) (hD : va_D A (LW cA ad a ao g T.length b ao2 gd ad2 a2 σ s')) (hS : va_S A s.heap H locs) (hc1 : cells ≤ 254 + 70 * C) (hc2 : slots ≤ 4842 + 680 * C) (hl : lv_has ls 9 (LL bb (a 209) (a2 0) ao ao2 (nI (4 * C)))) : W p l e room_1 s m args below meth c H locs cells slots Q (F0 m 496 ls []) := by
  have hx := K.1.1
  have hb := K.1.2.1
  obtain ⟨c1, r, σ1, r', s2, e1, e2, hc, h13, hr, hG2⟩ := ca_setMesh (m := 2000) (Nat.le_refl 2000) hC hG (xs (4 * C + 1)) (xs (4 * C + 2))
  refine lv_aload_n hx hb dL_law_496 rfl (lv_at hl 2 rfl) ?_
  refine la_ld (j := 1) (n := 1) K hS (lv_at hl 1 rfl) (lv_at hl 0 rfl) hi (by decide) rfl dL_law_497 dL_law_498 dL_law_500 dL_law_501 dL_law_502 ?_
  refine la_ld (j := 2) (n := 2) K hS (lv_at hl 1 rfl) (lv_at hl 0 rfl) hi (by decide) rfl dL_law_503 dL_law_504 dL_law_506 dL_law_507 dL_law_508 ?_
  refine lv_aload_n hx hb dL_law_509 rfl (lv_at hl 4 rfl) ?_
  refine la_wr (nA := 4) (As := [.ref (a 209), .int ((xs (4 * C + 1))), .int ((xs (4 * C + 2))), .ref ao]) K hC (mL_setMesh l K.2.1 D cA ad adF adW tt a _ _ stg_E stg_X stg_N 2000 ((xs (4 * C + 1))) ((xs (4 * C + 2))) σ c1 r σ1 ao g e1 (by simpa using hc)) hP hD hS q5_93 q5_94 q1_0 q5_95 (by decide +kernel) (by decide) hc1 hc2 rfl rfl hl dL_law_510 dL_law_513 (fun H locs ls hP hD hS hl => ?_)
  refine lv_aload_n hx hb dL_law_515 rfl (lv_at hl 4 rfl) ?_
  refine la_ld (j := 1) (n := 1) K hS (lv_at hl 2 rfl) (lv_at hl 1 rfl) hi (by decide) rfl dL_law_516 dL_law_517 dL_law_519 dL_law_520 dL_law_521 ?_
  refine la_ld (j := 2) (n := 2) K hS (lv_at hl 2 rfl) (lv_at hl 1 rfl) hi (by decide) rfl dL_law_522 dL_law_523 dL_law_525 dL_law_526 dL_law_527 ?_
  refine la_mi (nA := 2) (As := [.int ((xs (4 * C + 1))), .int ((xs (4 * C + 2)))]) K (mX12_setMesh l D cA ad2 a2 [] 2000 ((xs (4 * C + 1))) ((xs (4 * C + 2))) s' r' s2 e2) hP hD hS q8_51 q8_52 q8_53 q1_16 q8_54 (by decide +kernel) (by decide) (by omega) (by omega) rfl hl.1 [] rfl (Nat.le_of_ble_eq_true rfl) dL_law_528 (fun H locs hP hD hS => ?_)
  refine lv_istore (lv' := (7, .int r') :: (6, .int (hix [1] c1)) :: LL bb (a 209) (a2 0) ao ao2 (nI (4 * C))) hx hb dL_law_531 hl (by decide) rfl (fun ls hl => ?_)
  exact la_tail K hC Nx hG2 hB h13 (la_fin (by decide) hc hr) hP hD hS (by omega) (by omega) hl dL_law_533 dL_law_534 dL_law_537 dL_law_539 dL_law_544 dL_law_546 dL_law_549 dL_law_550 dL_law_551 dL_law_552 dL_law_554 dL_law_555 dL_law_556 dL_law_561 (by decide)
set_option maxHeartbeats 4000000 in
set_option maxRecDepth 100000 in
theorem lawc_4 (K : LC p l s m args meth c D A cA ad adF adW tt bb L xs) (hC : C < 512) (hi : 4 * C + 4 ≤ L) (Nx : LGo p l e s m args below meth c Q D A cA ad a ao ao2 ad2 a2 bb (C + 1)) (hG : GG σ s' C T) (hB : SBT T b) (hP : va_P D vwCl (LW cA ad a ao g T.length b ao2 gd ad2 a2 σ s') H) (hD : va_D A (LW cA ad a ao g T.length b ao2 gd ad2 a2 σ s')) (hS : va_S A s.heap H locs) (hc1 : cells ≤ 254 + 70 * C) (hc2 : slots ≤ 4842 + 680 * C) (hl : lv_has ls 9 (LL bb (a 209) (a2 0) ao ao2 (nI (4 * C)))) : W p l e room_1 s m args below meth c H locs cells slots Q (F0 m 564 ls []) := by
  have hx := K.1.1
  have hb := K.1.2.1
  obtain ⟨c1, r, σ1, r', s2, e1, e2, hc, h13, hr, hG2⟩ := ca_clearWheel (m := 2000) (Nat.le_refl 2000) hC hG (xs (4 * C + 1))
  refine lv_aload_n hx hb dL_law_564 rfl (lv_at hl 2 rfl) ?_
  refine la_ld (j := 1) (n := 1) K hS (lv_at hl 1 rfl) (lv_at hl 0 rfl) hi (by decide) rfl dL_law_565 dL_law_566 dL_law_568 dL_law_569 dL_law_570 ?_
  refine lv_aload_n hx hb dL_law_571 rfl (lv_at hl 4 rfl) ?_
  refine la_wr (nA := 3) (As := [.ref (a 209), .int ((xs (4 * C + 1))), .ref ao]) K hC (mL_clearWheel l K.2.1 D cA ad adF adW tt a _ _ stg_E stg_X stg_N 2000 ((xs (4 * C + 1))) σ c1 r σ1 ao g e1 (by simpa using hc)) hP hD hS q5_107 q5_108 q1_0 q5_109 (by decide +kernel) (by decide) hc1 hc2 rfl rfl hl dL_law_572 dL_law_575 (fun H locs ls hP hD hS hl => ?_)
  refine lv_aload_n hx hb dL_law_577 rfl (lv_at hl 4 rfl) ?_
  refine la_ld (j := 1) (n := 1) K hS (lv_at hl 2 rfl) (lv_at hl 1 rfl) hi (by decide) rfl dL_law_578 dL_law_579 dL_law_581 dL_law_582 dL_law_583 ?_
  refine la_mi (nA := 1) (As := [.int ((xs (4 * C + 1)))]) K (mX12_clearWheel l D cA ad2 a2 [] 2000 ((xs (4 * C + 1))) s' r' s2 e2) hP hD hS q8_59 q8_60 q8_61 q1_16 q8_62 (by decide +kernel) (by decide) (by omega) (by omega) rfl hl.1 [] rfl (Nat.le_of_ble_eq_true rfl) dL_law_584 (fun H locs hP hD hS => ?_)
  refine lv_istore (lv' := (7, .int r') :: (6, .int (hix [2] c1)) :: LL bb (a 209) (a2 0) ao ao2 (nI (4 * C))) hx hb dL_law_587 hl (by decide) rfl (fun ls hl => ?_)
  exact la_tail K hC Nx hG2 hB h13 (la_fin (by decide) hc hr) hP hD hS (by omega) (by omega) hl dL_law_589 dL_law_590 dL_law_593 dL_law_595 dL_law_600 dL_law_602 dL_law_605 dL_law_606 dL_law_607 dL_law_608 dL_law_610 dL_law_611 dL_law_612 dL_law_617 (by decide)
set_option maxHeartbeats 4000000 in
set_option maxRecDepth 100000 in
theorem lawc_5 (K : LC p l s m args meth c D A cA ad adF adW tt bb L xs) (hC : C < 512) (hi : 4 * C + 4 ≤ L) (Nx : LGo p l e s m args below meth c Q D A cA ad a ao ao2 ad2 a2 bb (C + 1)) (hG : GG σ s' C T) (hB : SBT T b) (hP : va_P D vwCl (LW cA ad a ao g T.length b ao2 gd ad2 a2 σ s') H) (hD : va_D A (LW cA ad a ao g T.length b ao2 gd ad2 a2 σ s')) (hS : va_S A s.heap H locs) (hc1 : cells ≤ 254 + 70 * C) (hc2 : slots ≤ 4842 + 680 * C) (hl : lv_has ls 9 (LL bb (a 209) (a2 0) ao ao2 (nI (4 * C)))) : W p l e room_1 s m args below meth c H locs cells slots Q (F0 m 620 ls []) := by
  have hx := K.1.1
  have hb := K.1.2.1
  obtain ⟨c1, r, σ1, r', s2, e1, e2, hc, h13, hr, hG2⟩ := ca_releaseNoise (m := 2000) (Nat.le_refl 2000) hC hG (xs (4 * C + 1))
  refine lv_aload_n hx hb dL_law_620 rfl (lv_at hl 2 rfl) ?_
  refine la_ld (j := 1) (n := 1) K hS (lv_at hl 1 rfl) (lv_at hl 0 rfl) hi (by decide) rfl dL_law_621 dL_law_622 dL_law_624 dL_law_625 dL_law_626 ?_
  refine lv_aload_n hx hb dL_law_627 rfl (lv_at hl 4 rfl) ?_
  refine la_wr (nA := 3) (As := [.ref (a 209), .int ((xs (4 * C + 1))), .ref ao]) K hC (mL_releaseNoise l K.2.1 D cA ad adF adW tt a _ _ stg_E stg_X stg_N 2000 ((xs (4 * C + 1))) σ c1 r σ1 ao g e1 (by simpa using hc)) hP hD hS q5_121 q5_122 q1_0 q5_123 (by decide +kernel) (by decide) hc1 hc2 rfl rfl hl dL_law_628 dL_law_631 (fun H locs ls hP hD hS hl => ?_)
  refine lv_aload_n hx hb dL_law_633 rfl (lv_at hl 4 rfl) ?_
  refine la_ld (j := 1) (n := 1) K hS (lv_at hl 2 rfl) (lv_at hl 1 rfl) hi (by decide) rfl dL_law_634 dL_law_635 dL_law_637 dL_law_638 dL_law_639 ?_
  refine la_mi (nA := 1) (As := [.int ((xs (4 * C + 1)))]) K (mX12_releaseNoise l D cA ad2 a2 [] 2000 ((xs (4 * C + 1))) s' r' s2 e2) hP hD hS q8_67 q8_68 q8_69 q1_16 q8_70 (by decide +kernel) (by decide) (by omega) (by omega) rfl hl.1 [] rfl (Nat.le_of_ble_eq_true rfl) dL_law_640 (fun H locs hP hD hS => ?_)
  refine lv_istore (lv' := (7, .int r') :: (6, .int (hix [2, 3, 4] c1)) :: LL bb (a 209) (a2 0) ao ao2 (nI (4 * C))) hx hb dL_law_643 hl (by decide) rfl (fun ls hl => ?_)
  exact la_tail K hC Nx hG2 hB h13 (la_fin (by decide) hc hr) hP hD hS (by omega) (by omega) hl dL_law_645 dL_law_646 dL_law_649 dL_law_651 dL_law_656 dL_law_658 dL_law_661 dL_law_662 dL_law_663 dL_law_664 dL_law_666 dL_law_667 dL_law_668 dL_law_673 (by decide)
set_option maxHeartbeats 4000000 in
set_option maxRecDepth 100000 in
theorem lawc_6 (K : LC p l s m args meth c D A cA ad adF adW tt bb L xs) (hC : C < 512) (hi : 4 * C + 4 ≤ L) (Nx : LGo p l e s m args below meth c Q D A cA ad a ao ao2 ad2 a2 bb (C + 1)) (hG : GG σ s' C T) (hB : SBT T b) (hP : va_P D vwCl (LW cA ad a ao g T.length b ao2 gd ad2 a2 σ s') H) (hD : va_D A (LW cA ad a ao g T.length b ao2 gd ad2 a2 σ s')) (hS : va_S A s.heap H locs) (hc1 : cells ≤ 254 + 70 * C) (hc2 : slots ≤ 4842 + 680 * C) (hl : lv_has ls 9 (LL bb (a 209) (a2 0) ao ao2 (nI (4 * C)))) : W p l e room_1 s m args below meth c H locs cells slots Q (F0 m 676 ls []) := by
  have hx := K.1.1
  have hb := K.1.2.1
  obtain ⟨c1, r, σ1, r', s2, e1, e2, hc, h13, hr, hG2⟩ := ca_shipSacks (m := 2000) (Nat.le_refl 2000) hC hG (xs (4 * C + 1)) (xs (4 * C + 2))
  refine lv_aload_n hx hb dL_law_676 rfl (lv_at hl 2 rfl) ?_
  refine la_ld (j := 1) (n := 1) K hS (lv_at hl 1 rfl) (lv_at hl 0 rfl) hi (by decide) rfl dL_law_677 dL_law_678 dL_law_680 dL_law_681 dL_law_682 ?_
  refine la_ld (j := 2) (n := 2) K hS (lv_at hl 1 rfl) (lv_at hl 0 rfl) hi (by decide) rfl dL_law_683 dL_law_684 dL_law_686 dL_law_687 dL_law_688 ?_
  refine lv_aload_n hx hb dL_law_689 rfl (lv_at hl 4 rfl) ?_
  refine la_wr (nA := 4) (As := [.ref (a 209), .int ((xs (4 * C + 1))), .int ((xs (4 * C + 2))), .ref ao]) K hC (mL_shipSacks l K.2.1 D cA ad adF adW tt a _ _ stg_E stg_X stg_N 2000 ((xs (4 * C + 1))) ((xs (4 * C + 2))) σ c1 r σ1 ao g e1 (by simpa using hc)) hP hD hS q5_140 q5_141 q1_0 q5_142 (by decide +kernel) (by decide) hc1 hc2 rfl rfl hl dL_law_690 dL_law_693 (fun H locs ls hP hD hS hl => ?_)
  refine lv_aload_n hx hb dL_law_695 rfl (lv_at hl 4 rfl) ?_
  refine la_ld (j := 1) (n := 1) K hS (lv_at hl 2 rfl) (lv_at hl 1 rfl) hi (by decide) rfl dL_law_696 dL_law_697 dL_law_699 dL_law_700 dL_law_701 ?_
  refine la_ld (j := 2) (n := 2) K hS (lv_at hl 2 rfl) (lv_at hl 1 rfl) hi (by decide) rfl dL_law_702 dL_law_703 dL_law_705 dL_law_706 dL_law_707 ?_
  refine la_mi (nA := 2) (As := [.int ((xs (4 * C + 1))), .int ((xs (4 * C + 2)))]) K (mX12_shipSacks l D cA ad2 a2 [] 2000 ((xs (4 * C + 1))) ((xs (4 * C + 2))) s' r' s2 e2) hP hD hS q8_75 q8_76 q8_77 q1_16 q8_78 (by decide +kernel) (by decide) (by omega) (by omega) rfl hl.1 [] rfl (Nat.le_of_ble_eq_true rfl) dL_law_708 (fun H locs hP hD hS => ?_)
  refine lv_istore (lv' := (7, .int r') :: (6, .int (hix [1, 5] c1)) :: LL bb (a 209) (a2 0) ao ao2 (nI (4 * C))) hx hb dL_law_711 hl (by decide) rfl (fun ls hl => ?_)
  exact la_tail K hC Nx hG2 hB h13 (la_fin (by decide) hc hr) hP hD hS (by omega) (by omega) hl dL_law_713 dL_law_714 dL_law_717 dL_law_719 dL_law_724 dL_law_726 dL_law_729 dL_law_730 dL_law_731 dL_law_732 dL_law_734 dL_law_735 dL_law_736 dL_law_741 (by decide)
set_option maxHeartbeats 4000000 in
set_option maxRecDepth 100000 in
theorem lawc_7 (K : LC p l s m args meth c D A cA ad adF adW tt bb L xs) (hC : C < 512) (hi : 4 * C + 4 ≤ L) (Nx : LGo p l e s m args below meth c Q D A cA ad a ao ao2 ad2 a2 bb (C + 1)) (hG : GG σ s' C T) (hB : SBT T b) (hP : va_P D vwCl (LW cA ad a ao g T.length b ao2 gd ad2 a2 σ s') H) (hD : va_D A (LW cA ad a ao g T.length b ao2 gd ad2 a2 σ s')) (hS : va_S A s.heap H locs) (hc1 : cells ≤ 254 + 70 * C) (hc2 : slots ≤ 4842 + 680 * C) (hl : lv_has ls 9 (LL bb (a 209) (a2 0) ao ao2 (nI (4 * C)))) : W p l e room_1 s m args below meth c H locs cells slots Q (F0 m 744 ls []) := by
  have hx := K.1.1
  have hb := K.1.2.1
  obtain ⟨c1, r, σ1, r', s2, e1, e2, hc, h13, hr, hG2⟩ := ca_advance (m := 2000) (Nat.le_refl 2000) hC hG (xs (4 * C + 1))
  refine lv_aload_n hx hb dL_law_744 rfl (lv_at hl 2 rfl) ?_
  refine la_ld (j := 1) (n := 1) K hS (lv_at hl 1 rfl) (lv_at hl 0 rfl) hi (by decide) rfl dL_law_745 dL_law_746 dL_law_748 dL_law_749 dL_law_750 ?_
  refine lv_aload_n hx hb dL_law_751 rfl (lv_at hl 4 rfl) ?_
  refine la_wr (nA := 3) (As := [.ref (a 209), .int ((xs (4 * C + 1))), .ref ao]) K hC (mL_advance l K.2.1 D cA ad adF adW tt a _ _ stg_E stg_X stg_N 2000 ((xs (4 * C + 1))) σ c1 r σ1 ao g e1 (by simpa using hc)) hP hD hS q5_166 q5_167 q1_0 q5_168 (by decide +kernel) (by decide) hc1 hc2 rfl rfl hl dL_law_752 dL_law_755 (fun H locs ls hP hD hS hl => ?_)
  refine lv_aload_n hx hb dL_law_757 rfl (lv_at hl 4 rfl) ?_
  refine la_ld (j := 1) (n := 1) K hS (lv_at hl 2 rfl) (lv_at hl 1 rfl) hi (by decide) rfl dL_law_758 dL_law_759 dL_law_761 dL_law_762 dL_law_763 ?_
  refine la_mi (nA := 1) (As := [.int ((xs (4 * C + 1)))]) K (mX12_advance l D cA ad2 a2 [] 2000 ((xs (4 * C + 1))) s' r' s2 e2) hP hD hS q8_86 q8_87 q8_88 q1_16 q8_89 (by decide +kernel) (by decide) (by omega) (by omega) rfl hl.1 [] rfl (Nat.le_of_ble_eq_true rfl) dL_law_764 (fun H locs hP hD hS => ?_)
  refine lv_istore (lv' := (7, .int r') :: (6, .int (hix [1] c1)) :: LL bb (a 209) (a2 0) ao ao2 (nI (4 * C))) hx hb dL_law_767 hl (by decide) rfl (fun ls hl => ?_)
  exact la_tail K hC Nx hG2 hB h13 (la_fin (by decide) hc hr) hP hD hS (by omega) (by omega) hl dL_law_769 dL_law_770 dL_law_773 dL_law_775 dL_law_780 dL_law_782 dL_law_785 dL_law_786 dL_law_787 dL_law_788 dL_law_790 dL_law_791 dL_law_792 dL_law_797 (by decide)
set_option maxHeartbeats 4000000 in
set_option maxRecDepth 100000 in
theorem lawc_8 (K : LC p l s m args meth c D A cA ad adF adW tt bb L xs) (hC : C < 512) (hi : 4 * C + 4 ≤ L) (Nx : LGo p l e s m args below meth c Q D A cA ad a ao ao2 ad2 a2 bb (C + 1)) (hG : GG σ s' C T) (hB : SBT T b) (hP : va_P D vwCl (LW cA ad a ao g T.length b ao2 gd ad2 a2 σ s') H) (hD : va_D A (LW cA ad a ao g T.length b ao2 gd ad2 a2 σ s')) (hS : va_S A s.heap H locs) (hc1 : cells ≤ 254 + 70 * C) (hc2 : slots ≤ 4842 + 680 * C) (hl : lv_has ls 9 (LL bb (a 209) (a2 0) ao ao2 (nI (4 * C)))) : W p l e room_1 s m args below meth c H locs cells slots Q (F0 m 800 ls []) := by
  have hx := K.1.1
  have hb := K.1.2.1
  obtain ⟨r, σ1, s2, e1, e2, hG2⟩ := ca_time hG
  refine lv_aload_n hx hb dL_law_800 rfl (lv_at hl 2 rfl) ?_
  refine la_x (nA := 0) (As := []) K (mX11_time l D cA ad adF adW tt a _ _ stg_E σ r σ1 e1) hP hD hS q2_81 q2_82 q2_83 q1_1 q2_84 (by decide +kernel) (by decide) (by omega) (by omega) rfl hl.1 [] rfl (Nat.le_of_ble_eq_true rfl) dL_law_801 (fun H locs hP hD hS => ?_)
  refine lv_aload_n hx hb dL_law_804 rfl (lv_at hl 3 rfl) ?_
  refine la_mi (nA := 0) (As := []) K (mX12_time l D cA ad2 a2 [] s' r s2 e2) hP hD hS q8_126 q8_127 q8_128 q1_16 q8_129 (by decide +kernel) (by decide) (by omega) (by omega) rfl hl.1 [.int r] rfl (Nat.le_of_ble_eq_true rfl) dL_law_805 (fun H locs hP hD hS => ?_)
  refine lv_icmp_eq (tgt := 3090) hx hb dL_law_808 (by decide) (fun _ => ?_) (fun h => absurd rfl h)
  exact la_end K Nx hG2 hB hP hD hS (by omega) (by omega) hl
set_option maxHeartbeats 4000000 in
set_option maxRecDepth 100000 in
theorem lawc_9 (K : LC p l s m args meth c D A cA ad adF adW tt bb L xs) (hC : C < 512) (hi : 4 * C + 4 ≤ L) (Nx : LGo p l e s m args below meth c Q D A cA ad a ao ao2 ad2 a2 bb (C + 1)) (hG : GG σ s' C T) (hB : SBT T b) (hP : va_P D vwCl (LW cA ad a ao g T.length b ao2 gd ad2 a2 σ s') H) (hD : va_D A (LW cA ad a ao g T.length b ao2 gd ad2 a2 σ s')) (hS : va_S A s.heap H locs) (hc1 : cells ≤ 254 + 70 * C) (hc2 : slots ≤ 4842 + 680 * C) (hl : lv_has ls 9 (LL bb (a 209) (a2 0) ao ao2 (nI (4 * C)))) : W p l e room_1 s m args below meth c H locs cells slots Q (F0 m 813 ls []) := by
  have hx := K.1.1
  have hb := K.1.2.1
  obtain ⟨r, σ1, s2, e1, e2, hG2⟩ := ca_waitingCount (m := 2000) (Nat.le_refl 2000) hC hG
  refine lv_aload_n hx hb dL_law_813 rfl (lv_at hl 2 rfl) ?_
  refine la_x (nA := 0) (As := []) K (mX11_waitingCount l D cA ad adF adW tt a _ _ stg_E σ r σ1 e1) hP hD hS q2_85 q2_86 q2_87 q1_1 q2_88 (by decide +kernel) (by decide) (by omega) (by omega) rfl hl.1 [] rfl (Nat.le_of_ble_eq_true rfl) dL_law_814 (fun H locs hP hD hS => ?_)
  refine lv_aload_n hx hb dL_law_817 rfl (lv_at hl 3 rfl) ?_
  refine la_mi (nA := 0) (As := []) K (mX12_waitingCount l D cA ad2 a2 [] 2000 s' r s2 e2) hP hD hS q8_130 q8_131 q8_132 q1_16 q8_133 (by decide +kernel) (by decide) (by omega) (by omega) rfl hl.1 [.int r] rfl (Nat.le_of_ble_eq_true rfl) dL_law_818 (fun H locs hP hD hS => ?_)
  refine lv_icmp_eq (tgt := 3090) hx hb dL_law_821 (by decide) (fun _ => ?_) (fun h => absurd rfl h)
  exact la_end K Nx hG2 hB hP hD hS (by omega) (by omega) hl
set_option maxHeartbeats 4000000 in
set_option maxRecDepth 100000 in
theorem lawc_10 (K : LC p l s m args meth c D A cA ad adF adW tt bb L xs) (hC : C < 512) (hi : 4 * C + 4 ≤ L) (Nx : LGo p l e s m args below meth c Q D A cA ad a ao ao2 ad2 a2 bb (C + 1)) (hG : GG σ s' C T) (hB : SBT T b) (hP : va_P D vwCl (LW cA ad a ao g T.length b ao2 gd ad2 a2 σ s') H) (hD : va_D A (LW cA ad a ao g T.length b ao2 gd ad2 a2 σ s')) (hS : va_S A s.heap H locs) (hc1 : cells ≤ 254 + 70 * C) (hc2 : slots ≤ 4842 + 680 * C) (hl : lv_has ls 9 (LL bb (a 209) (a2 0) ao ao2 (nI (4 * C)))) : W p l e room_1 s m args below meth c H locs cells slots Q (F0 m 826 ls []) := by
  have hx := K.1.1
  have hb := K.1.2.1
  obtain ⟨c1, r, σ1, r', s2, e1, e2, hc, h13, hr, hG2⟩ := ca_waitingAt (m := 2000) (Nat.le_refl 2000) hC hG (xs (4 * C + 1))
  refine lv_aload_n hx hb dL_law_826 rfl (lv_at hl 2 rfl) ?_
  refine la_ld (j := 1) (n := 1) K hS (lv_at hl 1 rfl) (lv_at hl 0 rfl) hi (by decide) rfl dL_law_827 dL_law_828 dL_law_830 dL_law_831 dL_law_832 ?_
  refine lv_aload_n hx hb dL_law_833 rfl (lv_at hl 4 rfl) ?_
  refine la_wr (nA := 3) (As := [.ref (a 209), .int ((xs (4 * C + 1))), .ref ao]) K hC (mL_waitingAt l K.2.1 D cA ad adF adW tt a _ _ stg_E stg_X stg_N 2000 ((xs (4 * C + 1))) σ c1 r σ1 ao g e1 (by simpa using hc)) hP hD hS q5_176 q5_177 q1_0 q5_178 (by decide +kernel) (by decide) hc1 hc2 rfl rfl hl dL_law_834 dL_law_837 (fun H locs ls hP hD hS hl => ?_)
  refine lv_aload_n hx hb dL_law_839 rfl (lv_at hl 4 rfl) ?_
  refine la_ld (j := 1) (n := 1) K hS (lv_at hl 2 rfl) (lv_at hl 1 rfl) hi (by decide) rfl dL_law_840 dL_law_841 dL_law_843 dL_law_844 dL_law_845 ?_
  refine la_mi (nA := 1) (As := [.int ((xs (4 * C + 1)))]) K (mX12_waitingAt l D cA ad2 a2 [] 2000 ((xs (4 * C + 1))) s' r' s2 e2) hP hD hS q8_134 q8_135 q8_136 q1_16 q8_137 (by decide +kernel) (by decide) (by omega) (by omega) rfl hl.1 [] rfl (Nat.le_of_ble_eq_true rfl) dL_law_846 (fun H locs hP hD hS => ?_)
  refine lv_istore (lv' := (7, .int r') :: (6, .int (hix [3] c1)) :: LL bb (a 209) (a2 0) ao ao2 (nI (4 * C))) hx hb dL_law_849 hl (by decide) rfl (fun ls hl => ?_)
  exact la_tail K hC Nx hG2 hB h13 (la_fin (by decide) hc hr) hP hD hS (by omega) (by omega) hl dL_law_851 dL_law_852 dL_law_855 dL_law_857 dL_law_862 dL_law_864 dL_law_867 dL_law_868 dL_law_869 dL_law_870 dL_law_872 dL_law_873 dL_law_874 dL_law_879 (by decide)
set_option maxHeartbeats 4000000 in
set_option maxRecDepth 100000 in
theorem lawc_11 (K : LC p l s m args meth c D A cA ad adF adW tt bb L xs) (hC : C < 512) (hi : 4 * C + 4 ≤ L) (Nx : LGo p l e s m args below meth c Q D A cA ad a ao ao2 ad2 a2 bb (C + 1)) (hG : GG σ s' C T) (hB : SBT T b) (hP : va_P D vwCl (LW cA ad a ao g T.length b ao2 gd ad2 a2 σ s') H) (hD : va_D A (LW cA ad a ao g T.length b ao2 gd ad2 a2 σ s')) (hS : va_S A s.heap H locs) (hc1 : cells ≤ 254 + 70 * C) (hc2 : slots ≤ 4842 + 680 * C) (hl : lv_has ls 9 (LL bb (a 209) (a2 0) ao ao2 (nI (4 * C)))) : W p l e room_1 s m args below meth c H locs cells slots Q (F0 m 882 ls []) := by
  have hx := K.1.1
  have hb := K.1.2.1
  obtain ⟨c1, r, σ1, r', s2, e1, e2, hc, h13, hr, hG2⟩ := ca_rankOf (m := 2000) (Nat.le_refl 2000) hC hG (xs (4 * C + 1))
  refine lv_aload_n hx hb dL_law_882 rfl (lv_at hl 2 rfl) ?_
  refine la_ld (j := 1) (n := 1) K hS (lv_at hl 1 rfl) (lv_at hl 0 rfl) hi (by decide) rfl dL_law_883 dL_law_884 dL_law_886 dL_law_887 dL_law_888 ?_
  refine lv_aload_n hx hb dL_law_889 rfl (lv_at hl 4 rfl) ?_
  refine la_wr (nA := 3) (As := [.ref (a 209), .int ((xs (4 * C + 1))), .ref ao]) K hC (mL_rankOf l K.2.1 D cA ad adF adW tt a _ _ stg_E stg_X stg_N 2000 ((xs (4 * C + 1))) σ c1 r σ1 ao g e1 (by simpa using hc)) hP hD hS q5_184 q5_185 q1_0 q5_186 (by decide +kernel) (by decide) hc1 hc2 rfl rfl hl dL_law_890 dL_law_893 (fun H locs ls hP hD hS hl => ?_)
  refine lv_aload_n hx hb dL_law_895 rfl (lv_at hl 4 rfl) ?_
  refine la_ld (j := 1) (n := 1) K hS (lv_at hl 2 rfl) (lv_at hl 1 rfl) hi (by decide) rfl dL_law_896 dL_law_897 dL_law_899 dL_law_900 dL_law_901 ?_
  refine la_mi (nA := 1) (As := [.int ((xs (4 * C + 1)))]) K (mX12_rankOf l D cA ad2 a2 [] 2000 ((xs (4 * C + 1))) s' r' s2 e2) hP hD hS q8_138 q8_139 q8_140 q1_16 q8_141 (by decide +kernel) (by decide) (by omega) (by omega) rfl hl.1 [] rfl (Nat.le_of_ble_eq_true rfl) dL_law_902 (fun H locs hP hD hS => ?_)
  refine lv_istore (lv' := (7, .int r') :: (6, .int (hix [3, 4] c1)) :: LL bb (a 209) (a2 0) ao ao2 (nI (4 * C))) hx hb dL_law_905 hl (by decide) rfl (fun ls hl => ?_)
  exact la_tail K hC Nx hG2 hB h13 (la_fin (by decide) hc hr) hP hD hS (by omega) (by omega) hl dL_law_907 dL_law_908 dL_law_911 dL_law_913 dL_law_918 dL_law_920 dL_law_923 dL_law_924 dL_law_925 dL_law_926 dL_law_928 dL_law_929 dL_law_930 dL_law_935 (by decide)
set_option maxHeartbeats 4000000 in
set_option maxRecDepth 100000 in
theorem lawc_12 (K : LC p l s m args meth c D A cA ad adF adW tt bb L xs) (hC : C < 512) (hi : 4 * C + 4 ≤ L) (Nx : LGo p l e s m args below meth c Q D A cA ad a ao ao2 ad2 a2 bb (C + 1)) (hG : GG σ s' C T) (hB : SBT T b) (hP : va_P D vwCl (LW cA ad a ao g T.length b ao2 gd ad2 a2 σ s') H) (hD : va_D A (LW cA ad a ao g T.length b ao2 gd ad2 a2 σ s')) (hS : va_S A s.heap H locs) (hc1 : cells ≤ 254 + 70 * C) (hc2 : slots ≤ 4842 + 680 * C) (hl : lv_has ls 9 (LL bb (a 209) (a2 0) ao ao2 (nI (4 * C)))) : W p l e room_1 s m args below meth c H locs cells slots Q (F0 m 938 ls []) := by
  have hx := K.1.1
  have hb := K.1.2.1
  obtain ⟨r, σ1, s2, e1, e2, hG2⟩ := ca_exists (m := 2000) (Nat.le_refl 2000) hC hG (xs (4 * C + 1))
  refine lv_aload_n hx hb dL_law_938 rfl (lv_at hl 2 rfl) ?_
  refine la_ld (j := 1) (n := 1) K hS (lv_at hl 1 rfl) (lv_at hl 0 rfl) hi (by decide) rfl dL_law_939 dL_law_940 dL_law_942 dL_law_943 dL_law_944 ?_
  refine la_x (nA := 1) (As := [.int ((xs (4 * C + 1)))]) K (mX11_exists l D cA ad adF adW tt a _ _ stg_E 2000 ((xs (4 * C + 1))) σ r σ1 e1) hP hD hS q2_89 q2_90 q2_91 q1_1 q2_92 (by decide +kernel) (by decide) (by omega) (by omega) rfl hl.1 [] rfl (Nat.le_of_ble_eq_true rfl) dL_law_945 (fun H locs hP hD hS => ?_)
  refine lv_aload_n hx hb dL_law_948 rfl (lv_at hl 3 rfl) ?_
  refine la_ld (j := 1) (n := 1) K hS (lv_at hl 1 rfl) (lv_at hl 0 rfl) hi (by decide) rfl dL_law_949 dL_law_950 dL_law_952 dL_law_953 dL_law_954 ?_
  refine la_mi (nA := 1) (As := [.int ((xs (4 * C + 1)))]) K (mX12_exists l D cA ad2 a2 [] 2000 ((xs (4 * C + 1))) s' r s2 e2) hP hD hS q8_142 q8_143 q8_144 q1_16 q8_145 (by decide +kernel) (by decide) (by omega) (by omega) rfl hl.1 [.int r] rfl (Nat.le_of_ble_eq_true rfl) dL_law_955 (fun H locs hP hD hS => ?_)
  refine lv_icmp_eq (tgt := 3090) hx hb dL_law_958 (by decide) (fun _ => ?_) (fun h => absurd rfl h)
  exact la_end K Nx hG2 hB hP hD hS (by omega) (by omega) hl
set_option maxHeartbeats 4000000 in
set_option maxRecDepth 100000 in
theorem lawc_13 (K : LC p l s m args meth c D A cA ad adF adW tt bb L xs) (hC : C < 512) (hi : 4 * C + 4 ≤ L) (Nx : LGo p l e s m args below meth c Q D A cA ad a ao ao2 ad2 a2 bb (C + 1)) (hG : GG σ s' C T) (hB : SBT T b) (hP : va_P D vwCl (LW cA ad a ao g T.length b ao2 gd ad2 a2 σ s') H) (hD : va_D A (LW cA ad a ao g T.length b ao2 gd ad2 a2 σ s')) (hS : va_S A s.heap H locs) (hc1 : cells ≤ 254 + 70 * C) (hc2 : slots ≤ 4842 + 680 * C) (hl : lv_has ls 9 (LL bb (a 209) (a2 0) ao ao2 (nI (4 * C)))) : W p l e room_1 s m args below meth c H locs cells slots Q (F0 m 963 ls []) := by
  have hx := K.1.1
  have hb := K.1.2.1
  obtain ⟨c1, r, σ1, r', s2, e1, e2, hc, h13, hr, hG2⟩ := ca_band (m := 2000) (Nat.le_refl 2000) hC hG (xs (4 * C + 1))
  refine lv_aload_n hx hb dL_law_963 rfl (lv_at hl 2 rfl) ?_
  refine la_ld (j := 1) (n := 1) K hS (lv_at hl 1 rfl) (lv_at hl 0 rfl) hi (by decide) rfl dL_law_964 dL_law_965 dL_law_967 dL_law_968 dL_law_969 ?_
  refine lv_aload_n hx hb dL_law_970 rfl (lv_at hl 4 rfl) ?_
  refine la_wr (nA := 3) (As := [.ref (a 209), .int ((xs (4 * C + 1))), .ref ao]) K hC (mL_band l K.2.1 D cA ad adF adW tt a _ _ stg_E stg_X stg_N 2000 ((xs (4 * C + 1))) σ c1 r σ1 ao g e1 (by simpa using hc)) hP hD hS q5_197 q5_198 q1_0 q5_199 (by decide +kernel) (by decide) hc1 hc2 rfl rfl hl dL_law_971 dL_law_974 (fun H locs ls hP hD hS hl => ?_)
  refine lv_aload_n hx hb dL_law_976 rfl (lv_at hl 4 rfl) ?_
  refine la_ld (j := 1) (n := 1) K hS (lv_at hl 2 rfl) (lv_at hl 1 rfl) hi (by decide) rfl dL_law_977 dL_law_978 dL_law_980 dL_law_981 dL_law_982 ?_
  refine la_mi (nA := 1) (As := [.int ((xs (4 * C + 1)))]) K (mX12_band l D cA ad2 a2 [] 2000 ((xs (4 * C + 1))) s' r' s2 e2) hP hD hS q8_146 q8_147 q8_148 q1_16 q8_149 (by decide +kernel) (by decide) (by omega) (by omega) rfl hl.1 [] rfl (Nat.le_of_ble_eq_true rfl) dL_law_983 (fun H locs hP hD hS => ?_)
  refine lv_istore (lv' := (7, .int r') :: (6, .int (hix [3] c1)) :: LL bb (a 209) (a2 0) ao ao2 (nI (4 * C))) hx hb dL_law_986 hl (by decide) rfl (fun ls hl => ?_)
  exact la_tail K hC Nx hG2 hB h13 (la_fin (by decide) hc hr) hP hD hS (by omega) (by omega) hl dL_law_988 dL_law_989 dL_law_992 dL_law_994 dL_law_999 dL_law_1001 dL_law_1004 dL_law_1005 dL_law_1006 dL_law_1007 dL_law_1009 dL_law_1010 dL_law_1011 dL_law_1016 (by decide)
set_option maxHeartbeats 4000000 in
set_option maxRecDepth 100000 in
theorem lawc_14 (K : LC p l s m args meth c D A cA ad adF adW tt bb L xs) (hC : C < 512) (hi : 4 * C + 4 ≤ L) (Nx : LGo p l e s m args below meth c Q D A cA ad a ao ao2 ad2 a2 bb (C + 1)) (hG : GG σ s' C T) (hB : SBT T b) (hP : va_P D vwCl (LW cA ad a ao g T.length b ao2 gd ad2 a2 σ s') H) (hD : va_D A (LW cA ad a ao g T.length b ao2 gd ad2 a2 σ s')) (hS : va_S A s.heap H locs) (hc1 : cells ≤ 254 + 70 * C) (hc2 : slots ≤ 4842 + 680 * C) (hl : lv_has ls 9 (LL bb (a 209) (a2 0) ao ao2 (nI (4 * C)))) : W p l e room_1 s m args below meth c H locs cells slots Q (F0 m 1019 ls []) := by
  have hx := K.1.1
  have hb := K.1.2.1
  obtain ⟨c1, r, σ1, r', s2, e1, e2, hc, h13, hr, hG2⟩ := ca_loudness (m := 2000) (Nat.le_refl 2000) hC hG (xs (4 * C + 1))
  refine lv_aload_n hx hb dL_law_1019 rfl (lv_at hl 2 rfl) ?_
  refine la_ld (j := 1) (n := 1) K hS (lv_at hl 1 rfl) (lv_at hl 0 rfl) hi (by decide) rfl dL_law_1020 dL_law_1021 dL_law_1023 dL_law_1024 dL_law_1025 ?_
  refine lv_aload_n hx hb dL_law_1026 rfl (lv_at hl 4 rfl) ?_
  refine la_wr (nA := 3) (As := [.ref (a 209), .int ((xs (4 * C + 1))), .ref ao]) K hC (mL_loudness l K.2.1 D cA ad adF adW tt a _ _ stg_E stg_X stg_N 2000 ((xs (4 * C + 1))) σ c1 r σ1 ao g e1 (by simpa using hc)) hP hD hS q5_204 q5_205 q1_0 q5_206 (by decide +kernel) (by decide) hc1 hc2 rfl rfl hl dL_law_1027 dL_law_1030 (fun H locs ls hP hD hS hl => ?_)
  refine lv_aload_n hx hb dL_law_1032 rfl (lv_at hl 4 rfl) ?_
  refine la_ld (j := 1) (n := 1) K hS (lv_at hl 2 rfl) (lv_at hl 1 rfl) hi (by decide) rfl dL_law_1033 dL_law_1034 dL_law_1036 dL_law_1037 dL_law_1038 ?_
  refine la_mi (nA := 1) (As := [.int ((xs (4 * C + 1)))]) K (mX12_loudness l D cA ad2 a2 [] 2000 ((xs (4 * C + 1))) s' r' s2 e2) hP hD hS q8_154 q8_155 q8_156 q1_16 q8_157 (by decide +kernel) (by decide) (by omega) (by omega) rfl hl.1 [] rfl (Nat.le_of_ble_eq_true rfl) dL_law_1039 (fun H locs hP hD hS => ?_)
  refine lv_istore (lv' := (7, .int r') :: (6, .int (hix [3] c1)) :: LL bb (a 209) (a2 0) ao ao2 (nI (4 * C))) hx hb dL_law_1042 hl (by decide) rfl (fun ls hl => ?_)
  exact la_tail K hC Nx hG2 hB h13 (la_fin (by decide) hc hr) hP hD hS (by omega) (by omega) hl dL_law_1044 dL_law_1045 dL_law_1048 dL_law_1050 dL_law_1055 dL_law_1057 dL_law_1060 dL_law_1061 dL_law_1062 dL_law_1063 dL_law_1065 dL_law_1066 dL_law_1067 dL_law_1072 (by decide)
set_option maxHeartbeats 4000000 in
set_option maxRecDepth 100000 in
theorem lawc_15 (K : LC p l s m args meth c D A cA ad adF adW tt bb L xs) (hC : C < 512) (hi : 4 * C + 4 ≤ L) (Nx : LGo p l e s m args below meth c Q D A cA ad a ao ao2 ad2 a2 bb (C + 1)) (hG : GG σ s' C T) (hB : SBT T b) (hP : va_P D vwCl (LW cA ad a ao g T.length b ao2 gd ad2 a2 σ s') H) (hD : va_D A (LW cA ad a ao g T.length b ao2 gd ad2 a2 σ s')) (hS : va_S A s.heap H locs) (hc1 : cells ≤ 254 + 70 * C) (hc2 : slots ≤ 4842 + 680 * C) (hl : lv_has ls 9 (LL bb (a 209) (a2 0) ao ao2 (nI (4 * C)))) : W p l e room_1 s m args below meth c H locs cells slots Q (F0 m 1075 ls []) := by
  have hx := K.1.1
  have hb := K.1.2.1
  obtain ⟨c1, r, σ1, r', s2, e1, e2, hc, h13, hr, hG2⟩ := ca_amount (m := 2000) (Nat.le_refl 2000) hC hG (xs (4 * C + 1))
  refine lv_aload_n hx hb dL_law_1075 rfl (lv_at hl 2 rfl) ?_
  refine la_ld (j := 1) (n := 1) K hS (lv_at hl 1 rfl) (lv_at hl 0 rfl) hi (by decide) rfl dL_law_1076 dL_law_1077 dL_law_1079 dL_law_1080 dL_law_1081 ?_
  refine lv_aload_n hx hb dL_law_1082 rfl (lv_at hl 4 rfl) ?_
  refine la_wr (nA := 3) (As := [.ref (a 209), .int ((xs (4 * C + 1))), .ref ao]) K hC (mL_amount l K.2.1 D cA ad adF adW tt a _ _ stg_E stg_X stg_N 2000 ((xs (4 * C + 1))) σ c1 r σ1 ao g e1 (by simpa using hc)) hP hD hS q5_211 q5_212 q1_0 q5_213 (by decide +kernel) (by decide) hc1 hc2 rfl rfl hl dL_law_1083 dL_law_1086 (fun H locs ls hP hD hS hl => ?_)
  refine lv_aload_n hx hb dL_law_1088 rfl (lv_at hl 4 rfl) ?_
  refine la_ld (j := 1) (n := 1) K hS (lv_at hl 2 rfl) (lv_at hl 1 rfl) hi (by decide) rfl dL_law_1089 dL_law_1090 dL_law_1092 dL_law_1093 dL_law_1094 ?_
  refine la_mi (nA := 1) (As := [.int ((xs (4 * C + 1)))]) K (mX12_amount l D cA ad2 a2 [] 2000 ((xs (4 * C + 1))) s' r' s2 e2) hP hD hS q8_158 q8_159 q8_160 q1_16 q8_161 (by decide +kernel) (by decide) (by omega) (by omega) rfl hl.1 [] rfl (Nat.le_of_ble_eq_true rfl) dL_law_1095 (fun H locs hP hD hS => ?_)
  refine lv_istore (lv' := (7, .int r') :: (6, .int (hix [3] c1)) :: LL bb (a 209) (a2 0) ao ao2 (nI (4 * C))) hx hb dL_law_1098 hl (by decide) rfl (fun ls hl => ?_)
  exact la_tail K hC Nx hG2 hB h13 (la_fin (by decide) hc hr) hP hD hS (by omega) (by omega) hl dL_law_1100 dL_law_1101 dL_law_1104 dL_law_1106 dL_law_1111 dL_law_1113 dL_law_1116 dL_law_1117 dL_law_1118 dL_law_1119 dL_law_1121 dL_law_1122 dL_law_1123 dL_law_1128 (by decide)
end C74
