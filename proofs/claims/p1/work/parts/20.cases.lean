theorem dL_320 : decode code 320 = .ok (.aload_n 1, 1) := by decide +kernel
theorem dL_321 : decode code 321 = .ok (.aload_n 0, 1) := by decide +kernel
theorem dL_322 : decode code 322 = .ok (.iload_n 3, 1) := by decide +kernel
theorem dL_323 : decode code 323 = .ok (.iconst 1, 1) := by decide +kernel
theorem dL_324 : decode code 324 = .ok (.iadd, 1) := by decide +kernel
theorem dL_325 : decode code 325 = .ok (.iaload, 1) := by decide +kernel
theorem dL_326 : decode code 326 = .ok (.aload_n 0, 1) := by decide +kernel
theorem dL_327 : decode code 327 = .ok (.iload_n 3, 1) := by decide +kernel
theorem dL_328 : decode code 328 = .ok (.iconst 2, 1) := by decide +kernel
theorem dL_329 : decode code 329 = .ok (.iadd, 1) := by decide +kernel
theorem dL_330 : decode code 330 = .ok (.iaload, 1) := by decide +kernel
theorem dL_331 : decode code 331 = .ok (.aload_n 0, 1) := by decide +kernel
theorem dL_332 : decode code 332 = .ok (.iload_n 3, 1) := by decide +kernel
theorem dL_333 : decode code 333 = .ok (.iconst 3, 1) := by decide +kernel
theorem dL_334 : decode code 334 = .ok (.iadd, 1) := by decide +kernel
theorem dL_335 : decode code 335 = .ok (.iaload, 1) := by decide +kernel
theorem dL_336 : decode code 336 = .ok (.aload_n 0, 1) := by decide +kernel
theorem dL_337 : decode code 337 = .ok (.iload_n 3, 1) := by decide +kernel
theorem dL_338 : decode code 338 = .ok (.iconst 4, 1) := by decide +kernel
theorem dL_339 : decode code 339 = .ok (.iadd, 1) := by decide +kernel
theorem dL_340 : decode code 340 = .ok (.iaload, 1) := by decide +kernel
theorem dL_341 : decode code 341 = .ok (.aload_n 0, 1) := by decide +kernel
theorem dL_342 : decode code 342 = .ok (.iload_n 3, 1) := by decide +kernel
theorem dL_343 : decode code 343 = .ok (.iconst 5, 1) := by decide +kernel
theorem dL_344 : decode code 344 = .ok (.iadd, 1) := by decide +kernel
theorem dL_345 : decode code 345 = .ok (.iaload, 1) := by decide +kernel
theorem dL_346 : decode code 346 = .ok (.invokevirtual 13, 3) := by decide +kernel
theorem dL_349 : decode code 349 = .ok (.aload_n 2, 1) := by decide +kernel
theorem dL_350 : decode code 350 = .ok (.aload_n 0, 1) := by decide +kernel
theorem dL_351 : decode code 351 = .ok (.iload_n 3, 1) := by decide +kernel
theorem dL_352 : decode code 352 = .ok (.iconst 1, 1) := by decide +kernel
theorem dL_353 : decode code 353 = .ok (.iadd, 1) := by decide +kernel
theorem dL_354 : decode code 354 = .ok (.iaload, 1) := by decide +kernel
theorem dL_355 : decode code 355 = .ok (.aload_n 0, 1) := by decide +kernel
theorem dL_356 : decode code 356 = .ok (.iload_n 3, 1) := by decide +kernel
theorem dL_357 : decode code 357 = .ok (.iconst 2, 1) := by decide +kernel
theorem dL_358 : decode code 358 = .ok (.iadd, 1) := by decide +kernel
theorem dL_359 : decode code 359 = .ok (.iaload, 1) := by decide +kernel
theorem dL_360 : decode code 360 = .ok (.aload_n 0, 1) := by decide +kernel
theorem dL_361 : decode code 361 = .ok (.iload_n 3, 1) := by decide +kernel
theorem dL_362 : decode code 362 = .ok (.iconst 3, 1) := by decide +kernel
theorem dL_363 : decode code 363 = .ok (.iadd, 1) := by decide +kernel
theorem dL_364 : decode code 364 = .ok (.iaload, 1) := by decide +kernel
theorem dL_365 : decode code 365 = .ok (.aload_n 0, 1) := by decide +kernel
theorem dL_366 : decode code 366 = .ok (.iload_n 3, 1) := by decide +kernel
theorem dL_367 : decode code 367 = .ok (.iconst 4, 1) := by decide +kernel
theorem dL_368 : decode code 368 = .ok (.iadd, 1) := by decide +kernel
theorem dL_369 : decode code 369 = .ok (.iaload, 1) := by decide +kernel
theorem dL_370 : decode code 370 = .ok (.aload_n 0, 1) := by decide +kernel
theorem dL_371 : decode code 371 = .ok (.iload_n 3, 1) := by decide +kernel
theorem dL_372 : decode code 372 = .ok (.iconst 5, 1) := by decide +kernel
theorem dL_373 : decode code 373 = .ok (.iadd, 1) := by decide +kernel
theorem dL_374 : decode code 374 = .ok (.iaload, 1) := by decide +kernel
theorem dL_375 : decode code 375 = .ok (.invokevirtual 17, 3) := by decide +kernel
theorem dL_378 : decode code 378 = .ok (.if_icmp .eq 1576, 3) := by decide +kernel
set_option maxHeartbeats 4000000 in
set_option maxRecDepth 100000 in
theorem lc_0 {p : Program} {l : Launch} {e : Env} {s : State} {m : MethodId} {below : List Frame} {meth : Method} {c : Code} {b : Nat} {xs : Nat → Int32} {D : va_G} {K : Nat → ClassId} {ax ay : Nat → Nat} {H : Heap} {locs : List Loc} {ls : Array Slot} (C : lawC p s m meth c b xs D K ax ay H locs ls) : W p l e room_1 s m #[Value.ref b] below meth c H locs 153 180094 (lw_Z below #[Value.ref b] s) (F0 m 320 ls []) := by
  obtain ⟨C0, hE, hK, hNX, hNY, hAX, hAY, hdis, hPX, hPY, hS, hl⟩ := C
  obtain ⟨hx, hb, hr, hml, hown, hts, hX, hbl, hlocks, hgv⟩ := id C0
  have hbA : ¬ lawA s b := Nat.not_le.mpr hbl
  refine lv_aload_n hx hb dL_320 rfl (lv_at hl 2 rfl) ?_
  refine lv_aload_n hx hb dL_321 rfl (lv_at hl 3 rfl) ?_
  refine lv_iload_n hx hb dL_322 rfl (lv_at hl 0 rfl) ?_
  refine lv_iconst (v := 1) hx hb dL_323 (by decide) ?_
  refine lv_iadd hx hb dL_324 ?_
  refine x_top (y := 1) (by decide) ?_
  refine va_sld (i := 1) hx hb hX hbl hbA hS (by unfold vp_in; decide) dL_325 ?_
  refine lv_aload_n hx hb dL_326 rfl (lv_at hl 3 rfl) ?_
  refine lv_iload_n hx hb dL_327 rfl (lv_at hl 0 rfl) ?_
  refine lv_iconst (v := 2) hx hb dL_328 (by decide) ?_
  refine lv_iadd hx hb dL_329 ?_
  refine x_top (y := 2) (by decide) ?_
  refine va_sld (i := 2) hx hb hX hbl hbA hS (by unfold vp_in; decide) dL_330 ?_
  refine lv_aload_n hx hb dL_331 rfl (lv_at hl 3 rfl) ?_
  refine lv_iload_n hx hb dL_332 rfl (lv_at hl 0 rfl) ?_
  refine lv_iconst (v := 3) hx hb dL_333 (by decide) ?_
  refine lv_iadd hx hb dL_334 ?_
  refine x_top (y := 3) (by decide) ?_
  refine va_sld (i := 3) hx hb hX hbl hbA hS (by unfold vp_in; decide) dL_335 ?_
  refine lv_aload_n hx hb dL_336 rfl (lv_at hl 3 rfl) ?_
  refine lv_iload_n hx hb dL_337 rfl (lv_at hl 0 rfl) ?_
  refine lv_iconst (v := 4) hx hb dL_338 (by decide) ?_
  refine lv_iadd hx hb dL_339 ?_
  refine x_top (y := 4) (by decide) ?_
  refine va_sld (i := 4) hx hb hX hbl hbA hS (by unfold vp_in; decide) dL_340 ?_
  refine lv_aload_n hx hb dL_341 rfl (lv_at hl 3 rfl) ?_
  refine lv_iload_n hx hb dL_342 rfl (lv_at hl 0 rfl) ?_
  refine lv_iconst (v := 5) hx hb dL_343 (by decide) ?_
  refine lv_iadd hx hb dL_344 ?_
  refine x_top (y := 5) (by decide) ?_
  refine va_sld (i := 5) hx hb hX hbl hbA hS (by unfold vp_in; decide) dL_345 ?_
  refine l_vi (nn := 5) (As := [.int (xs (1 : Int32).toNatClampNeg), .int (xs (2 : Int32).toNatClampNeg), .int (xs (3 : Int32).toNatClampNeg), .int (xs (4 : Int32).toNatClampNeg), .int (xs (5 : Int32).toNatClampNeg)]) (rest := []) hE hK hNX hPX hS hAX (k_X8_feed l D K ax none (xs (1 : Int32).toNatClampNeg) (xs (2 : Int32).toNatClampNeg) (xs (3 : Int32).toNatClampNeg) (xs (4 : Int32).toNatClampNeg) (xs (5 : Int32).toNatClampNeg)) (x_recv hK hPX 0 (by decide) (xG_8 rfl) rfl) rfl mw_511 mw_512 mw_513 mw_114 mw_514 (by decide +kernel) ⟨Nat.le_of_ble_eq_true rfl, Nat.le_of_ble_eq_true rfl⟩ hl.1 rfl (Nat.le_of_ble_eq_true rfl) ⟨Nat.le_of_ble_eq_true rfl, Nat.le_of_ble_eq_true rfl⟩ dL_346 (fun r1 u1 H locs hr1 hk1 hS => ?_)
  have hPY := w_keep hPY hdis hk1
  have hr1 : r1 = 20 := hr1
  rw [hr1]
  refine lv_aload_n hx hb dL_349 rfl (lv_at hl 1 rfl) ?_
  refine lv_aload_n hx hb dL_350 rfl (lv_at hl 3 rfl) ?_
  refine lv_iload_n hx hb dL_351 rfl (lv_at hl 0 rfl) ?_
  refine lv_iconst (v := 1) hx hb dL_352 (by decide) ?_
  refine lv_iadd hx hb dL_353 ?_
  refine x_top (y := 1) (by decide) ?_
  refine va_sld (i := 1) hx hb hX hbl hbA hS (by unfold vp_in; decide) dL_354 ?_
  refine lv_aload_n hx hb dL_355 rfl (lv_at hl 3 rfl) ?_
  refine lv_iload_n hx hb dL_356 rfl (lv_at hl 0 rfl) ?_
  refine lv_iconst (v := 2) hx hb dL_357 (by decide) ?_
  refine lv_iadd hx hb dL_358 ?_
  refine x_top (y := 2) (by decide) ?_
  refine va_sld (i := 2) hx hb hX hbl hbA hS (by unfold vp_in; decide) dL_359 ?_
  refine lv_aload_n hx hb dL_360 rfl (lv_at hl 3 rfl) ?_
  refine lv_iload_n hx hb dL_361 rfl (lv_at hl 0 rfl) ?_
  refine lv_iconst (v := 3) hx hb dL_362 (by decide) ?_
  refine lv_iadd hx hb dL_363 ?_
  refine x_top (y := 3) (by decide) ?_
  refine va_sld (i := 3) hx hb hX hbl hbA hS (by unfold vp_in; decide) dL_364 ?_
  refine lv_aload_n hx hb dL_365 rfl (lv_at hl 3 rfl) ?_
  refine lv_iload_n hx hb dL_366 rfl (lv_at hl 0 rfl) ?_
  refine lv_iconst (v := 4) hx hb dL_367 (by decide) ?_
  refine lv_iadd hx hb dL_368 ?_
  refine x_top (y := 4) (by decide) ?_
  refine va_sld (i := 4) hx hb hX hbl hbA hS (by unfold vp_in; decide) dL_369 ?_
  refine lv_aload_n hx hb dL_370 rfl (lv_at hl 3 rfl) ?_
  refine lv_iload_n hx hb dL_371 rfl (lv_at hl 0 rfl) ?_
  refine lv_iconst (v := 5) hx hb dL_372 (by decide) ?_
  refine lv_iadd hx hb dL_373 ?_
  refine x_top (y := 5) (by decide) ?_
  refine va_sld (i := 5) hx hb hX hbl hbA hS (by unfold vp_in; decide) dL_374 ?_
  refine l_vi (nn := 5) (As := [.int (xs (1 : Int32).toNatClampNeg), .int (xs (2 : Int32).toNatClampNeg), .int (xs (3 : Int32).toNatClampNeg), .int (xs (4 : Int32).toNatClampNeg), .int (xs (5 : Int32).toNatClampNeg)]) (rest := [.int 20]) hE hK hNY hPY hS hAY (k_X9_feed l D K ay (xs (1 : Int32).toNatClampNeg) (xs (2 : Int32).toNatClampNeg) (xs (3 : Int32).toNatClampNeg) (xs (4 : Int32).toNatClampNeg) (xs (5 : Int32).toNatClampNeg)) (x_recv hK hPY 0 (by decide) (yG_9 rfl) rfl) rfl mw_1508 mw_1509 mw_1510 mw_123 mw_1511 (by decide +kernel) ⟨Nat.le_of_ble_eq_true rfl, Nat.le_of_ble_eq_true rfl⟩ hl.1 rfl (Nat.le_of_ble_eq_true rfl) ⟨Nat.le_of_ble_eq_true rfl, Nat.le_of_ble_eq_true rfl⟩ dL_375 (fun r2 u2 H locs hr2 hk2 hS => ?_)
  have hr2 : r2 = 20 := hr2
  rw [hr2]
  refine lv_icmp_eq (tgt := 1954) hx hb dL_378 (by decide) (fun _ => ?_) (fun h => absurd rfl h)
  exact lawtail C0 hS hl
theorem dL_383 : decode code 383 = .ok (.aload_n 1, 1) := by decide +kernel
theorem dL_384 : decode code 384 = .ok (.aload_n 0, 1) := by decide +kernel
theorem dL_385 : decode code 385 = .ok (.iload_n 3, 1) := by decide +kernel
theorem dL_386 : decode code 386 = .ok (.iconst 1, 1) := by decide +kernel
theorem dL_387 : decode code 387 = .ok (.iadd, 1) := by decide +kernel
theorem dL_388 : decode code 388 = .ok (.iaload, 1) := by decide +kernel
theorem dL_389 : decode code 389 = .ok (.invokevirtual 18, 3) := by decide +kernel
theorem dL_392 : decode code 392 = .ok (.aload_n 2, 1) := by decide +kernel
theorem dL_393 : decode code 393 = .ok (.aload_n 0, 1) := by decide +kernel
theorem dL_394 : decode code 394 = .ok (.iload_n 3, 1) := by decide +kernel
theorem dL_395 : decode code 395 = .ok (.iconst 1, 1) := by decide +kernel
theorem dL_396 : decode code 396 = .ok (.iadd, 1) := by decide +kernel
theorem dL_397 : decode code 397 = .ok (.iaload, 1) := by decide +kernel
theorem dL_398 : decode code 398 = .ok (.invokevirtual 22, 3) := by decide +kernel
theorem dL_401 : decode code 401 = .ok (.if_icmp .eq 1553, 3) := by decide +kernel
set_option maxHeartbeats 4000000 in
set_option maxRecDepth 100000 in
theorem lc_1 {p : Program} {l : Launch} {e : Env} {s : State} {m : MethodId} {below : List Frame} {meth : Method} {c : Code} {b : Nat} {xs : Nat → Int32} {D : va_G} {K : Nat → ClassId} {ax ay : Nat → Nat} {H : Heap} {locs : List Loc} {ls : Array Slot} (C : lawC p s m meth c b xs D K ax ay H locs ls) : W p l e room_1 s m #[Value.ref b] below meth c H locs 153 180094 (lw_Z below #[Value.ref b] s) (F0 m 383 ls []) := by
  obtain ⟨C0, hE, hK, hNX, hNY, hAX, hAY, hdis, hPX, hPY, hS, hl⟩ := C
  obtain ⟨hx, hb, hr, hml, hown, hts, hX, hbl, hlocks, hgv⟩ := id C0
  have hbA : ¬ lawA s b := Nat.not_le.mpr hbl
  refine lv_aload_n hx hb dL_383 rfl (lv_at hl 2 rfl) ?_
  refine lv_aload_n hx hb dL_384 rfl (lv_at hl 3 rfl) ?_
  refine lv_iload_n hx hb dL_385 rfl (lv_at hl 0 rfl) ?_
  refine lv_iconst (v := 1) hx hb dL_386 (by decide) ?_
  refine lv_iadd hx hb dL_387 ?_
  refine x_top (y := 1) (by decide) ?_
  refine va_sld (i := 1) hx hb hX hbl hbA hS (by unfold vp_in; decide) dL_388 ?_
  refine l_vi (nn := 1) (As := [.int (xs (1 : Int32).toNatClampNeg)]) (rest := []) hE hK hNX hPX hS hAX (k_X8_end l D K ax none (xs (1 : Int32).toNatClampNeg)) (x_recv hK hPX 0 (by decide) (xG_8 rfl) rfl) rfl mw_519 mw_520 mw_521 mw_114 mw_522 (by decide +kernel) ⟨Nat.le_of_ble_eq_true rfl, Nat.le_of_ble_eq_true rfl⟩ hl.1 rfl (Nat.le_of_ble_eq_true rfl) ⟨Nat.le_of_ble_eq_true rfl, Nat.le_of_ble_eq_true rfl⟩ dL_389 (fun r1 u1 H locs hr1 hk1 hS => ?_)
  have hPY := w_keep hPY hdis hk1
  have hr1 : r1 = (fEnd (xs (1 : Int32).toNatClampNeg)) := hr1
  rw [hr1]
  refine lv_aload_n hx hb dL_392 rfl (lv_at hl 1 rfl) ?_
  refine lv_aload_n hx hb dL_393 rfl (lv_at hl 3 rfl) ?_
  refine lv_iload_n hx hb dL_394 rfl (lv_at hl 0 rfl) ?_
  refine lv_iconst (v := 1) hx hb dL_395 (by decide) ?_
  refine lv_iadd hx hb dL_396 ?_
  refine x_top (y := 1) (by decide) ?_
  refine va_sld (i := 1) hx hb hX hbl hbA hS (by unfold vp_in; decide) dL_397 ?_
  refine l_vi (nn := 1) (As := [.int (xs (1 : Int32).toNatClampNeg)]) (rest := [.int (fEnd (xs (1 : Int32).toNatClampNeg))]) hE hK hNY hPY hS hAY (k_X9_end l D K ay (xs (1 : Int32).toNatClampNeg)) (x_recv hK hPY 0 (by decide) (yG_9 rfl) rfl) rfl mw_1516 mw_1517 mw_1518 mw_123 mw_1519 (by decide +kernel) ⟨Nat.le_of_ble_eq_true rfl, Nat.le_of_ble_eq_true rfl⟩ hl.1 rfl (Nat.le_of_ble_eq_true rfl) ⟨Nat.le_of_ble_eq_true rfl, Nat.le_of_ble_eq_true rfl⟩ dL_398 (fun r2 u2 H locs hr2 hk2 hS => ?_)
  have hr2 : r2 = (fEnd (xs (1 : Int32).toNatClampNeg)) := hr2
  rw [hr2]
  refine lv_icmp_eq (tgt := 1954) hx hb dL_401 (by decide) (fun _ => ?_) (fun h => absurd rfl h)
  exact lawtail C0 hS hl
theorem dL_406 : decode code 406 = .ok (.aload_n 1, 1) := by decide +kernel
theorem dL_407 : decode code 407 = .ok (.invokevirtual 23, 3) := by decide +kernel
theorem dL_410 : decode code 410 = .ok (.aload_n 2, 1) := by decide +kernel
theorem dL_411 : decode code 411 = .ok (.invokevirtual 27, 3) := by decide +kernel
theorem dL_414 : decode code 414 = .ok (.if_icmp .eq 1540, 3) := by decide +kernel
set_option maxHeartbeats 4000000 in
set_option maxRecDepth 100000 in
theorem lc_2 {p : Program} {l : Launch} {e : Env} {s : State} {m : MethodId} {below : List Frame} {meth : Method} {c : Code} {b : Nat} {xs : Nat → Int32} {D : va_G} {K : Nat → ClassId} {ax ay : Nat → Nat} {H : Heap} {locs : List Loc} {ls : Array Slot} (C : lawC p s m meth c b xs D K ax ay H locs ls) : W p l e room_1 s m #[Value.ref b] below meth c H locs 153 180094 (lw_Z below #[Value.ref b] s) (F0 m 406 ls []) := by
  obtain ⟨C0, hE, hK, hNX, hNY, hAX, hAY, hdis, hPX, hPY, hS, hl⟩ := C
  obtain ⟨hx, hb, hr, hml, hown, hts, hX, hbl, hlocks, hgv⟩ := id C0
  have hbA : ¬ lawA s b := Nat.not_le.mpr hbl
  refine lv_aload_n hx hb dL_406 rfl (lv_at hl 2 rfl) ?_
  refine l_vi (nn := 0) (As := []) (rest := []) hE hK hNX hPX hS hAX (k_X8_court l D K ax none ) (x_recv hK hPX 0 (by decide) (xG_8 rfl) rfl) rfl mw_523 mw_524 mw_525 mw_114 mw_526 (by decide +kernel) ⟨Nat.le_of_ble_eq_true rfl, Nat.le_of_ble_eq_true rfl⟩ hl.1 rfl (Nat.le_of_ble_eq_true rfl) ⟨Nat.le_of_ble_eq_true rfl, Nat.le_of_ble_eq_true rfl⟩ dL_407 (fun r1 u1 H locs hr1 hk1 hS => ?_)
  have hPY := w_keep hPY hdis hk1
  have hr1 : r1 = 0 := hr1
  rw [hr1]
  refine lv_aload_n hx hb dL_410 rfl (lv_at hl 1 rfl) ?_
  refine l_vi (nn := 0) (As := []) (rest := [.int 0]) hE hK hNY hPY hS hAY (k_X9_court l D K ay ) (x_recv hK hPY 0 (by decide) (yG_9 rfl) rfl) rfl mw_1524 mw_1525 mw_1526 mw_123 mw_1527 (by decide +kernel) ⟨Nat.le_of_ble_eq_true rfl, Nat.le_of_ble_eq_true rfl⟩ hl.1 rfl (Nat.le_of_ble_eq_true rfl) ⟨Nat.le_of_ble_eq_true rfl, Nat.le_of_ble_eq_true rfl⟩ dL_411 (fun r2 u2 H locs hr2 hk2 hS => ?_)
  have hr2 : r2 = 0 := hr2
  rw [hr2]
  refine lv_icmp_eq (tgt := 1954) hx hb dL_414 (by decide) (fun _ => ?_) (fun h => absurd rfl h)
  exact lawtail C0 hS hl
theorem dL_419 : decode code 419 = .ok (.aload_n 1, 1) := by decide +kernel
theorem dL_420 : decode code 420 = .ok (.aload_n 0, 1) := by decide +kernel
theorem dL_421 : decode code 421 = .ok (.iload_n 3, 1) := by decide +kernel
theorem dL_422 : decode code 422 = .ok (.iconst 1, 1) := by decide +kernel
theorem dL_423 : decode code 423 = .ok (.iadd, 1) := by decide +kernel
theorem dL_424 : decode code 424 = .ok (.iaload, 1) := by decide +kernel
theorem dL_425 : decode code 425 = .ok (.invokevirtual 28, 3) := by decide +kernel
theorem dL_428 : decode code 428 = .ok (.aload_n 2, 1) := by decide +kernel
theorem dL_429 : decode code 429 = .ok (.aload_n 0, 1) := by decide +kernel
theorem dL_430 : decode code 430 = .ok (.iload_n 3, 1) := by decide +kernel
theorem dL_431 : decode code 431 = .ok (.iconst 1, 1) := by decide +kernel
theorem dL_432 : decode code 432 = .ok (.iadd, 1) := by decide +kernel
theorem dL_433 : decode code 433 = .ok (.iaload, 1) := by decide +kernel
theorem dL_434 : decode code 434 = .ok (.invokevirtual 31, 3) := by decide +kernel
theorem dL_437 : decode code 437 = .ok (.if_icmp .eq 1517, 3) := by decide +kernel
set_option maxHeartbeats 4000000 in
set_option maxRecDepth 100000 in
theorem lc_3 {p : Program} {l : Launch} {e : Env} {s : State} {m : MethodId} {below : List Frame} {meth : Method} {c : Code} {b : Nat} {xs : Nat → Int32} {D : va_G} {K : Nat → ClassId} {ax ay : Nat → Nat} {H : Heap} {locs : List Loc} {ls : Array Slot} (C : lawC p s m meth c b xs D K ax ay H locs ls) : W p l e room_1 s m #[Value.ref b] below meth c H locs 153 180094 (lw_Z below #[Value.ref b] s) (F0 m 419 ls []) := by
  obtain ⟨C0, hE, hK, hNX, hNY, hAX, hAY, hdis, hPX, hPY, hS, hl⟩ := C
  obtain ⟨hx, hb, hr, hml, hown, hts, hX, hbl, hlocks, hgv⟩ := id C0
  have hbA : ¬ lawA s b := Nat.not_le.mpr hbl
  refine lv_aload_n hx hb dL_419 rfl (lv_at hl 2 rfl) ?_
  refine lv_aload_n hx hb dL_420 rfl (lv_at hl 3 rfl) ?_
  refine lv_iload_n hx hb dL_421 rfl (lv_at hl 0 rfl) ?_
  refine lv_iconst (v := 1) hx hb dL_422 (by decide) ?_
  refine lv_iadd hx hb dL_423 ?_
  refine x_top (y := 1) (by decide) ?_
  refine va_sld (i := 1) hx hb hX hbl hbA hS (by unfold vp_in; decide) dL_424 ?_
  refine x_vp (nn := 1) (As := [.int (xs (1 : Int32).toNatClampNeg)]) (rest := []) hE (k_X8_fault l D K ax none (xs (1 : Int32).toNatClampNeg)) wPre_blind (wPre_now hK hNX hPX) (x_recv hK hPX 0 (by decide) (xG_8 rfl) rfl) rfl mw_686 mw_687 mw_688 mw_114 mw_689 (by decide +kernel) ⟨Nat.le_of_ble_eq_true rfl, Nat.le_of_ble_eq_true rfl⟩ hl.1 rfl (Nat.le_of_ble_eq_true rfl) ⟨Nat.le_of_ble_eq_true rfl, Nat.le_of_ble_eq_true rfl⟩ dL_425 (fun r1 hr1 => ?_)
  have hr1 : r1 = (fFault (xs (1 : Int32).toNatClampNeg)) := hr1
  rw [hr1]
  refine lv_aload_n hx hb dL_428 rfl (lv_at hl 1 rfl) ?_
  refine lv_aload_n hx hb dL_429 rfl (lv_at hl 3 rfl) ?_
  refine lv_iload_n hx hb dL_430 rfl (lv_at hl 0 rfl) ?_
  refine lv_iconst (v := 1) hx hb dL_431 (by decide) ?_
  refine lv_iadd hx hb dL_432 ?_
  refine x_top (y := 1) (by decide) ?_
  refine va_sld (i := 1) hx hb hX hbl hbA hS (by unfold vp_in; decide) dL_433 ?_
  refine l_vi (nn := 1) (As := [.int (xs (1 : Int32).toNatClampNeg)]) (rest := [.int (fFault (xs (1 : Int32).toNatClampNeg))]) hE hK hNY hPY hS hAY (k_X9_fault l D K ay (xs (1 : Int32).toNatClampNeg)) (x_recv hK hPY 0 (by decide) (yG_9 rfl) rfl) rfl mw_1520 mw_1521 mw_1522 mw_123 mw_1523 (by decide +kernel) ⟨Nat.le_of_ble_eq_true rfl, Nat.le_of_ble_eq_true rfl⟩ hl.1 rfl (Nat.le_of_ble_eq_true rfl) ⟨Nat.le_of_ble_eq_true rfl, Nat.le_of_ble_eq_true rfl⟩ dL_434 (fun r2 u2 H locs hr2 hk2 hS => ?_)
  have hr2 : r2 = (fFault (xs (1 : Int32).toNatClampNeg)) := hr2
  rw [hr2]
  refine lv_icmp_eq (tgt := 1954) hx hb dL_437 (by decide) (fun _ => ?_) (fun h => absurd rfl h)
  exact lawtail C0 hS hl
theorem dL_442 : decode code 442 = .ok (.aload_n 1, 1) := by decide +kernel
theorem dL_443 : decode code 443 = .ok (.aload_n 0, 1) := by decide +kernel
theorem dL_444 : decode code 444 = .ok (.iload_n 3, 1) := by decide +kernel
theorem dL_445 : decode code 445 = .ok (.iconst 1, 1) := by decide +kernel
theorem dL_446 : decode code 446 = .ok (.iadd, 1) := by decide +kernel
theorem dL_447 : decode code 447 = .ok (.iaload, 1) := by decide +kernel
theorem dL_448 : decode code 448 = .ok (.aload_n 0, 1) := by decide +kernel
theorem dL_449 : decode code 449 = .ok (.iload_n 3, 1) := by decide +kernel
theorem dL_450 : decode code 450 = .ok (.iconst 2, 1) := by decide +kernel
theorem dL_451 : decode code 451 = .ok (.iadd, 1) := by decide +kernel
theorem dL_452 : decode code 452 = .ok (.iaload, 1) := by decide +kernel
theorem dL_453 : decode code 453 = .ok (.invokevirtual 32, 3) := by decide +kernel
theorem dL_456 : decode code 456 = .ok (.aload_n 2, 1) := by decide +kernel
theorem dL_457 : decode code 457 = .ok (.aload_n 0, 1) := by decide +kernel
theorem dL_458 : decode code 458 = .ok (.iload_n 3, 1) := by decide +kernel
theorem dL_459 : decode code 459 = .ok (.iconst 1, 1) := by decide +kernel
theorem dL_460 : decode code 460 = .ok (.iadd, 1) := by decide +kernel
theorem dL_461 : decode code 461 = .ok (.iaload, 1) := by decide +kernel
theorem dL_462 : decode code 462 = .ok (.aload_n 0, 1) := by decide +kernel
theorem dL_463 : decode code 463 = .ok (.iload_n 3, 1) := by decide +kernel
theorem dL_464 : decode code 464 = .ok (.iconst 2, 1) := by decide +kernel
theorem dL_465 : decode code 465 = .ok (.iadd, 1) := by decide +kernel
theorem dL_466 : decode code 466 = .ok (.iaload, 1) := by decide +kernel
theorem dL_467 : decode code 467 = .ok (.invokevirtual 36, 3) := by decide +kernel
theorem dL_470 : decode code 470 = .ok (.if_icmp .eq 1484, 3) := by decide +kernel
set_option maxHeartbeats 4000000 in
set_option maxRecDepth 100000 in
theorem lc_4 {p : Program} {l : Launch} {e : Env} {s : State} {m : MethodId} {below : List Frame} {meth : Method} {c : Code} {b : Nat} {xs : Nat → Int32} {D : va_G} {K : Nat → ClassId} {ax ay : Nat → Nat} {H : Heap} {locs : List Loc} {ls : Array Slot} (C : lawC p s m meth c b xs D K ax ay H locs ls) : W p l e room_1 s m #[Value.ref b] below meth c H locs 153 180094 (lw_Z below #[Value.ref b] s) (F0 m 442 ls []) := by
  obtain ⟨C0, hE, hK, hNX, hNY, hAX, hAY, hdis, hPX, hPY, hS, hl⟩ := C
  obtain ⟨hx, hb, hr, hml, hown, hts, hX, hbl, hlocks, hgv⟩ := id C0
  have hbA : ¬ lawA s b := Nat.not_le.mpr hbl
  refine lv_aload_n hx hb dL_442 rfl (lv_at hl 2 rfl) ?_
  refine lv_aload_n hx hb dL_443 rfl (lv_at hl 3 rfl) ?_
  refine lv_iload_n hx hb dL_444 rfl (lv_at hl 0 rfl) ?_
  refine lv_iconst (v := 1) hx hb dL_445 (by decide) ?_
  refine lv_iadd hx hb dL_446 ?_
  refine x_top (y := 1) (by decide) ?_
  refine va_sld (i := 1) hx hb hX hbl hbA hS (by unfold vp_in; decide) dL_447 ?_
  refine lv_aload_n hx hb dL_448 rfl (lv_at hl 3 rfl) ?_
  refine lv_iload_n hx hb dL_449 rfl (lv_at hl 0 rfl) ?_
  refine lv_iconst (v := 2) hx hb dL_450 (by decide) ?_
  refine lv_iadd hx hb dL_451 ?_
  refine x_top (y := 2) (by decide) ?_
  refine va_sld (i := 2) hx hb hX hbl hbA hS (by unfold vp_in; decide) dL_452 ?_
  refine x_vp (nn := 2) (As := [.int (xs (1 : Int32).toNatClampNeg), .int (xs (2 : Int32).toNatClampNeg)]) (rest := []) hE (k_X8_motif l D K ax none (xs (1 : Int32).toNatClampNeg) (xs (2 : Int32).toNatClampNeg)) wPre_blind (wPre_now hK hNX hPX) (x_recv hK hPX 0 (by decide) (xG_8 rfl) rfl) rfl mw_690 mw_691 mw_692 mw_114 mw_693 (by decide +kernel) ⟨Nat.le_of_ble_eq_true rfl, Nat.le_of_ble_eq_true rfl⟩ hl.1 rfl (Nat.le_of_ble_eq_true rfl) ⟨Nat.le_of_ble_eq_true rfl, Nat.le_of_ble_eq_true rfl⟩ dL_453 (fun r1 hr1 => ?_)
  have hr1 : r1 = (-2) := hr1
  rw [hr1]
  refine lv_aload_n hx hb dL_456 rfl (lv_at hl 1 rfl) ?_
  refine lv_aload_n hx hb dL_457 rfl (lv_at hl 3 rfl) ?_
  refine lv_iload_n hx hb dL_458 rfl (lv_at hl 0 rfl) ?_
  refine lv_iconst (v := 1) hx hb dL_459 (by decide) ?_
  refine lv_iadd hx hb dL_460 ?_
  refine x_top (y := 1) (by decide) ?_
  refine va_sld (i := 1) hx hb hX hbl hbA hS (by unfold vp_in; decide) dL_461 ?_
  refine lv_aload_n hx hb dL_462 rfl (lv_at hl 3 rfl) ?_
  refine lv_iload_n hx hb dL_463 rfl (lv_at hl 0 rfl) ?_
  refine lv_iconst (v := 2) hx hb dL_464 (by decide) ?_
  refine lv_iadd hx hb dL_465 ?_
  refine x_top (y := 2) (by decide) ?_
  refine va_sld (i := 2) hx hb hX hbl hbA hS (by unfold vp_in; decide) dL_466 ?_
  refine l_vi (nn := 2) (As := [.int (xs (1 : Int32).toNatClampNeg), .int (xs (2 : Int32).toNatClampNeg)]) (rest := [.int (-2)]) hE hK hNY hPY hS hAY (k_X9_motif l D K ay (xs (1 : Int32).toNatClampNeg) (xs (2 : Int32).toNatClampNeg)) (x_recv hK hPY 0 (by decide) (yG_9 rfl) rfl) rfl mw_1658 mw_1659 mw_1660 mw_123 mw_1661 (by decide +kernel) ⟨Nat.le_of_ble_eq_true rfl, Nat.le_of_ble_eq_true rfl⟩ hl.1 rfl (Nat.le_of_ble_eq_true rfl) ⟨Nat.le_of_ble_eq_true rfl, Nat.le_of_ble_eq_true rfl⟩ dL_467 (fun r2 u2 H locs hr2 hk2 hS => ?_)
  have hr2 : r2 = (-2) := hr2
  rw [hr2]
  refine lv_icmp_eq (tgt := 1954) hx hb dL_470 (by decide) (fun _ => ?_) (fun h => absurd rfl h)
  exact lawtail C0 hS hl
theorem dL_475 : decode code 475 = .ok (.aload_n 1, 1) := by decide +kernel
theorem dL_476 : decode code 476 = .ok (.aload_n 0, 1) := by decide +kernel
theorem dL_477 : decode code 477 = .ok (.iload_n 3, 1) := by decide +kernel
theorem dL_478 : decode code 478 = .ok (.iconst 1, 1) := by decide +kernel
theorem dL_479 : decode code 479 = .ok (.iadd, 1) := by decide +kernel
theorem dL_480 : decode code 480 = .ok (.iaload, 1) := by decide +kernel
theorem dL_481 : decode code 481 = .ok (.aload_n 0, 1) := by decide +kernel
theorem dL_482 : decode code 482 = .ok (.iload_n 3, 1) := by decide +kernel
theorem dL_483 : decode code 483 = .ok (.iconst 2, 1) := by decide +kernel
theorem dL_484 : decode code 484 = .ok (.iadd, 1) := by decide +kernel
theorem dL_485 : decode code 485 = .ok (.iaload, 1) := by decide +kernel
theorem dL_486 : decode code 486 = .ok (.invokevirtual 37, 3) := by decide +kernel
theorem dL_489 : decode code 489 = .ok (.aload_n 2, 1) := by decide +kernel
theorem dL_490 : decode code 490 = .ok (.aload_n 0, 1) := by decide +kernel
theorem dL_491 : decode code 491 = .ok (.iload_n 3, 1) := by decide +kernel
theorem dL_492 : decode code 492 = .ok (.iconst 1, 1) := by decide +kernel
theorem dL_493 : decode code 493 = .ok (.iadd, 1) := by decide +kernel
theorem dL_494 : decode code 494 = .ok (.iaload, 1) := by decide +kernel
theorem dL_495 : decode code 495 = .ok (.aload_n 0, 1) := by decide +kernel
theorem dL_496 : decode code 496 = .ok (.iload_n 3, 1) := by decide +kernel
theorem dL_497 : decode code 497 = .ok (.iconst 2, 1) := by decide +kernel
theorem dL_498 : decode code 498 = .ok (.iadd, 1) := by decide +kernel
theorem dL_499 : decode code 499 = .ok (.iaload, 1) := by decide +kernel
theorem dL_500 : decode code 500 = .ok (.invokevirtual 40, 3) := by decide +kernel
theorem dL_503 : decode code 503 = .ok (.if_icmp .eq 1451, 3) := by decide +kernel
set_option maxHeartbeats 4000000 in
set_option maxRecDepth 100000 in
theorem lc_5 {p : Program} {l : Launch} {e : Env} {s : State} {m : MethodId} {below : List Frame} {meth : Method} {c : Code} {b : Nat} {xs : Nat → Int32} {D : va_G} {K : Nat → ClassId} {ax ay : Nat → Nat} {H : Heap} {locs : List Loc} {ls : Array Slot} (C : lawC p s m meth c b xs D K ax ay H locs ls) : W p l e room_1 s m #[Value.ref b] below meth c H locs 153 180094 (lw_Z below #[Value.ref b] s) (F0 m 475 ls []) := by
  obtain ⟨C0, hE, hK, hNX, hNY, hAX, hAY, hdis, hPX, hPY, hS, hl⟩ := C
  obtain ⟨hx, hb, hr, hml, hown, hts, hX, hbl, hlocks, hgv⟩ := id C0
  have hbA : ¬ lawA s b := Nat.not_le.mpr hbl
  refine lv_aload_n hx hb dL_475 rfl (lv_at hl 2 rfl) ?_
  refine lv_aload_n hx hb dL_476 rfl (lv_at hl 3 rfl) ?_
  refine lv_iload_n hx hb dL_477 rfl (lv_at hl 0 rfl) ?_
  refine lv_iconst (v := 1) hx hb dL_478 (by decide) ?_
  refine lv_iadd hx hb dL_479 ?_
  refine x_top (y := 1) (by decide) ?_
  refine va_sld (i := 1) hx hb hX hbl hbA hS (by unfold vp_in; decide) dL_480 ?_
  refine lv_aload_n hx hb dL_481 rfl (lv_at hl 3 rfl) ?_
  refine lv_iload_n hx hb dL_482 rfl (lv_at hl 0 rfl) ?_
  refine lv_iconst (v := 2) hx hb dL_483 (by decide) ?_
  refine lv_iadd hx hb dL_484 ?_
  refine x_top (y := 2) (by decide) ?_
  refine va_sld (i := 2) hx hb hX hbl hbA hS (by unfold vp_in; decide) dL_485 ?_
  refine x_vp (nn := 2) (As := [.int (xs (1 : Int32).toNatClampNeg), .int (xs (2 : Int32).toNatClampNeg)]) (rest := []) hE (k_X8_joins l D K ax none (xs (1 : Int32).toNatClampNeg) (xs (2 : Int32).toNatClampNeg)) wPre_blind (wPre_now hK hNX hPX) (x_recv hK hPX 0 (by decide) (xG_8 rfl) rfl) rfl mw_698 mw_699 mw_700 mw_114 mw_701 (by decide +kernel) ⟨Nat.le_of_ble_eq_true rfl, Nat.le_of_ble_eq_true rfl⟩ hl.1 rfl (Nat.le_of_ble_eq_true rfl) ⟨Nat.le_of_ble_eq_true rfl, Nat.le_of_ble_eq_true rfl⟩ dL_486 (fun r1 hr1 => ?_)
  have hr1 : r1 = (-2) := hr1
  rw [hr1]
  refine lv_aload_n hx hb dL_489 rfl (lv_at hl 1 rfl) ?_
  refine lv_aload_n hx hb dL_490 rfl (lv_at hl 3 rfl) ?_
  refine lv_iload_n hx hb dL_491 rfl (lv_at hl 0 rfl) ?_
  refine lv_iconst (v := 1) hx hb dL_492 (by decide) ?_
  refine lv_iadd hx hb dL_493 ?_
  refine x_top (y := 1) (by decide) ?_
  refine va_sld (i := 1) hx hb hX hbl hbA hS (by unfold vp_in; decide) dL_494 ?_
  refine lv_aload_n hx hb dL_495 rfl (lv_at hl 3 rfl) ?_
  refine lv_iload_n hx hb dL_496 rfl (lv_at hl 0 rfl) ?_
  refine lv_iconst (v := 2) hx hb dL_497 (by decide) ?_
  refine lv_iadd hx hb dL_498 ?_
  refine x_top (y := 2) (by decide) ?_
  refine va_sld (i := 2) hx hb hX hbl hbA hS (by unfold vp_in; decide) dL_499 ?_
  refine l_vi (nn := 2) (As := [.int (xs (1 : Int32).toNatClampNeg), .int (xs (2 : Int32).toNatClampNeg)]) (rest := [.int (-2)]) hE hK hNY hPY hS hAY (k_X9_joins l D K ay (xs (1 : Int32).toNatClampNeg) (xs (2 : Int32).toNatClampNeg)) (x_recv hK hPY 0 (by decide) (yG_9 rfl) rfl) rfl mw_1667 mw_1668 mw_1669 mw_123 mw_1670 (by decide +kernel) ⟨Nat.le_of_ble_eq_true rfl, Nat.le_of_ble_eq_true rfl⟩ hl.1 rfl (Nat.le_of_ble_eq_true rfl) ⟨Nat.le_of_ble_eq_true rfl, Nat.le_of_ble_eq_true rfl⟩ dL_500 (fun r2 u2 H locs hr2 hk2 hS => ?_)
  have hr2 : r2 = (-2) := hr2
  rw [hr2]
  refine lv_icmp_eq (tgt := 1954) hx hb dL_503 (by decide) (fun _ => ?_) (fun h => absurd rfl h)
  exact lawtail C0 hS hl
theorem dL_508 : decode code 508 = .ok (.aload_n 1, 1) := by decide +kernel
theorem dL_509 : decode code 509 = .ok (.aload_n 0, 1) := by decide +kernel
theorem dL_510 : decode code 510 = .ok (.iload_n 3, 1) := by decide +kernel
theorem dL_511 : decode code 511 = .ok (.iconst 1, 1) := by decide +kernel
theorem dL_512 : decode code 512 = .ok (.iadd, 1) := by decide +kernel
theorem dL_513 : decode code 513 = .ok (.iaload, 1) := by decide +kernel
theorem dL_514 : decode code 514 = .ok (.aload_n 0, 1) := by decide +kernel
theorem dL_515 : decode code 515 = .ok (.iload_n 3, 1) := by decide +kernel
theorem dL_516 : decode code 516 = .ok (.iconst 2, 1) := by decide +kernel
theorem dL_517 : decode code 517 = .ok (.iadd, 1) := by decide +kernel
theorem dL_518 : decode code 518 = .ok (.iaload, 1) := by decide +kernel
theorem dL_519 : decode code 519 = .ok (.invokevirtual 41, 3) := by decide +kernel
theorem dL_522 : decode code 522 = .ok (.aload_n 2, 1) := by decide +kernel
theorem dL_523 : decode code 523 = .ok (.aload_n 0, 1) := by decide +kernel
theorem dL_524 : decode code 524 = .ok (.iload_n 3, 1) := by decide +kernel
theorem dL_525 : decode code 525 = .ok (.iconst 1, 1) := by decide +kernel
theorem dL_526 : decode code 526 = .ok (.iadd, 1) := by decide +kernel
theorem dL_527 : decode code 527 = .ok (.iaload, 1) := by decide +kernel
theorem dL_528 : decode code 528 = .ok (.aload_n 0, 1) := by decide +kernel
theorem dL_529 : decode code 529 = .ok (.iload_n 3, 1) := by decide +kernel
theorem dL_530 : decode code 530 = .ok (.iconst 2, 1) := by decide +kernel
theorem dL_531 : decode code 531 = .ok (.iadd, 1) := by decide +kernel
theorem dL_532 : decode code 532 = .ok (.iaload, 1) := by decide +kernel
theorem dL_533 : decode code 533 = .ok (.invokevirtual 44, 3) := by decide +kernel
theorem dL_536 : decode code 536 = .ok (.if_icmp .eq 1418, 3) := by decide +kernel
set_option maxHeartbeats 4000000 in
set_option maxRecDepth 100000 in
theorem lc_6 {p : Program} {l : Launch} {e : Env} {s : State} {m : MethodId} {below : List Frame} {meth : Method} {c : Code} {b : Nat} {xs : Nat → Int32} {D : va_G} {K : Nat → ClassId} {ax ay : Nat → Nat} {H : Heap} {locs : List Loc} {ls : Array Slot} (C : lawC p s m meth c b xs D K ax ay H locs ls) : W p l e room_1 s m #[Value.ref b] below meth c H locs 153 180094 (lw_Z below #[Value.ref b] s) (F0 m 508 ls []) := by
  obtain ⟨C0, hE, hK, hNX, hNY, hAX, hAY, hdis, hPX, hPY, hS, hl⟩ := C
  obtain ⟨hx, hb, hr, hml, hown, hts, hX, hbl, hlocks, hgv⟩ := id C0
  have hbA : ¬ lawA s b := Nat.not_le.mpr hbl
  refine lv_aload_n hx hb dL_508 rfl (lv_at hl 2 rfl) ?_
  refine lv_aload_n hx hb dL_509 rfl (lv_at hl 3 rfl) ?_
  refine lv_iload_n hx hb dL_510 rfl (lv_at hl 0 rfl) ?_
  refine lv_iconst (v := 1) hx hb dL_511 (by decide) ?_
  refine lv_iadd hx hb dL_512 ?_
  refine x_top (y := 1) (by decide) ?_
  refine va_sld (i := 1) hx hb hX hbl hbA hS (by unfold vp_in; decide) dL_513 ?_
  refine lv_aload_n hx hb dL_514 rfl (lv_at hl 3 rfl) ?_
  refine lv_iload_n hx hb dL_515 rfl (lv_at hl 0 rfl) ?_
  refine lv_iconst (v := 2) hx hb dL_516 (by decide) ?_
  refine lv_iadd hx hb dL_517 ?_
  refine x_top (y := 2) (by decide) ?_
  refine va_sld (i := 2) hx hb hX hbl hbA hS (by unfold vp_in; decide) dL_518 ?_
  refine x_vp (nn := 2) (As := [.int (xs (1 : Int32).toNatClampNeg), .int (xs (2 : Int32).toNatClampNeg)]) (rest := []) hE (k_X8_clash l D K ax none (xs (1 : Int32).toNatClampNeg) (xs (2 : Int32).toNatClampNeg)) wPre_blind (wPre_now hK hNX hPX) (x_recv hK hPX 0 (by decide) (xG_8 rfl) rfl) rfl mw_702 mw_703 mw_704 mw_114 mw_705 (by decide +kernel) ⟨Nat.le_of_ble_eq_true rfl, Nat.le_of_ble_eq_true rfl⟩ hl.1 rfl (Nat.le_of_ble_eq_true rfl) ⟨Nat.le_of_ble_eq_true rfl, Nat.le_of_ble_eq_true rfl⟩ dL_519 (fun r1 hr1 => ?_)
  have hr1 : r1 = (-2) := hr1
  rw [hr1]
  refine lv_aload_n hx hb dL_522 rfl (lv_at hl 1 rfl) ?_
  refine lv_aload_n hx hb dL_523 rfl (lv_at hl 3 rfl) ?_
  refine lv_iload_n hx hb dL_524 rfl (lv_at hl 0 rfl) ?_
  refine lv_iconst (v := 1) hx hb dL_525 (by decide) ?_
  refine lv_iadd hx hb dL_526 ?_
  refine x_top (y := 1) (by decide) ?_
  refine va_sld (i := 1) hx hb hX hbl hbA hS (by unfold vp_in; decide) dL_527 ?_
  refine lv_aload_n hx hb dL_528 rfl (lv_at hl 3 rfl) ?_
  refine lv_iload_n hx hb dL_529 rfl (lv_at hl 0 rfl) ?_
  refine lv_iconst (v := 2) hx hb dL_530 (by decide) ?_
  refine lv_iadd hx hb dL_531 ?_
  refine x_top (y := 2) (by decide) ?_
  refine va_sld (i := 2) hx hb hX hbl hbA hS (by unfold vp_in; decide) dL_532 ?_
  refine l_vi (nn := 2) (As := [.int (xs (1 : Int32).toNatClampNeg), .int (xs (2 : Int32).toNatClampNeg)]) (rest := [.int (-2)]) hE hK hNY hPY hS hAY (k_X9_clash l D K ay (xs (1 : Int32).toNatClampNeg) (xs (2 : Int32).toNatClampNeg)) (x_recv hK hPY 0 (by decide) (yG_9 rfl) rfl) rfl mw_1671 mw_1672 mw_1673 mw_123 mw_1674 (by decide +kernel) ⟨Nat.le_of_ble_eq_true rfl, Nat.le_of_ble_eq_true rfl⟩ hl.1 rfl (Nat.le_of_ble_eq_true rfl) ⟨Nat.le_of_ble_eq_true rfl, Nat.le_of_ble_eq_true rfl⟩ dL_533 (fun r2 u2 H locs hr2 hk2 hS => ?_)
  have hr2 : r2 = (-2) := hr2
  rw [hr2]
  refine lv_icmp_eq (tgt := 1954) hx hb dL_536 (by decide) (fun _ => ?_) (fun h => absurd rfl h)
  exact lawtail C0 hS hl
theorem dL_541 : decode code 541 = .ok (.aload_n 1, 1) := by decide +kernel
theorem dL_542 : decode code 542 = .ok (.aload_n 0, 1) := by decide +kernel
theorem dL_543 : decode code 543 = .ok (.iload_n 3, 1) := by decide +kernel
theorem dL_544 : decode code 544 = .ok (.iconst 1, 1) := by decide +kernel
theorem dL_545 : decode code 545 = .ok (.iadd, 1) := by decide +kernel
theorem dL_546 : decode code 546 = .ok (.iaload, 1) := by decide +kernel
theorem dL_547 : decode code 547 = .ok (.invokevirtual 45, 3) := by decide +kernel
theorem dL_550 : decode code 550 = .ok (.aload_n 2, 1) := by decide +kernel
theorem dL_551 : decode code 551 = .ok (.aload_n 0, 1) := by decide +kernel
theorem dL_552 : decode code 552 = .ok (.iload_n 3, 1) := by decide +kernel
theorem dL_553 : decode code 553 = .ok (.iconst 1, 1) := by decide +kernel
theorem dL_554 : decode code 554 = .ok (.iadd, 1) := by decide +kernel
theorem dL_555 : decode code 555 = .ok (.iaload, 1) := by decide +kernel
theorem dL_556 : decode code 556 = .ok (.invokevirtual 48, 3) := by decide +kernel
theorem dL_559 : decode code 559 = .ok (.if_icmp .eq 1395, 3) := by decide +kernel
set_option maxHeartbeats 4000000 in
set_option maxRecDepth 100000 in
theorem lc_7 {p : Program} {l : Launch} {e : Env} {s : State} {m : MethodId} {below : List Frame} {meth : Method} {c : Code} {b : Nat} {xs : Nat → Int32} {D : va_G} {K : Nat → ClassId} {ax ay : Nat → Nat} {H : Heap} {locs : List Loc} {ls : Array Slot} (C : lawC p s m meth c b xs D K ax ay H locs ls) : W p l e room_1 s m #[Value.ref b] below meth c H locs 153 180094 (lw_Z below #[Value.ref b] s) (F0 m 541 ls []) := by
  obtain ⟨C0, hE, hK, hNX, hNY, hAX, hAY, hdis, hPX, hPY, hS, hl⟩ := C
  obtain ⟨hx, hb, hr, hml, hown, hts, hX, hbl, hlocks, hgv⟩ := id C0
  have hbA : ¬ lawA s b := Nat.not_le.mpr hbl
  refine lv_aload_n hx hb dL_541 rfl (lv_at hl 2 rfl) ?_
  refine lv_aload_n hx hb dL_542 rfl (lv_at hl 3 rfl) ?_
  refine lv_iload_n hx hb dL_543 rfl (lv_at hl 0 rfl) ?_
  refine lv_iconst (v := 1) hx hb dL_544 (by decide) ?_
  refine lv_iadd hx hb dL_545 ?_
  refine x_top (y := 1) (by decide) ?_
  refine va_sld (i := 1) hx hb hX hbl hbA hS (by unfold vp_in; decide) dL_546 ?_
  refine x_vp (nn := 1) (As := [.int (xs (1 : Int32).toNatClampNeg)]) (rest := []) hE (k_X8_behind l D K ax none (xs (1 : Int32).toNatClampNeg)) wPre_blind (wPre_now hK hNX hPX) (x_recv hK hPX 0 (by decide) (xG_8 rfl) rfl) rfl mw_706 mw_707 mw_708 mw_114 mw_709 (by decide +kernel) ⟨Nat.le_of_ble_eq_true rfl, Nat.le_of_ble_eq_true rfl⟩ hl.1 rfl (Nat.le_of_ble_eq_true rfl) ⟨Nat.le_of_ble_eq_true rfl, Nat.le_of_ble_eq_true rfl⟩ dL_547 (fun r1 hr1 => ?_)
  have hr1 : r1 = (-2) := hr1
  rw [hr1]
  refine lv_aload_n hx hb dL_550 rfl (lv_at hl 1 rfl) ?_
  refine lv_aload_n hx hb dL_551 rfl (lv_at hl 3 rfl) ?_
  refine lv_iload_n hx hb dL_552 rfl (lv_at hl 0 rfl) ?_
  refine lv_iconst (v := 1) hx hb dL_553 (by decide) ?_
  refine lv_iadd hx hb dL_554 ?_
  refine x_top (y := 1) (by decide) ?_
  refine va_sld (i := 1) hx hb hX hbl hbA hS (by unfold vp_in; decide) dL_555 ?_
  refine l_vi (nn := 1) (As := [.int (xs (1 : Int32).toNatClampNeg)]) (rest := [.int (-2)]) hE hK hNY hPY hS hAY (k_X9_behind l D K ay (xs (1 : Int32).toNatClampNeg)) (x_recv hK hPY 0 (by decide) (yG_9 rfl) rfl) rfl mw_1675 mw_1676 mw_1677 mw_123 mw_1678 (by decide +kernel) ⟨Nat.le_of_ble_eq_true rfl, Nat.le_of_ble_eq_true rfl⟩ hl.1 rfl (Nat.le_of_ble_eq_true rfl) ⟨Nat.le_of_ble_eq_true rfl, Nat.le_of_ble_eq_true rfl⟩ dL_556 (fun r2 u2 H locs hr2 hk2 hS => ?_)
  have hr2 : r2 = (-2) := hr2
  rw [hr2]
  refine lv_icmp_eq (tgt := 1954) hx hb dL_559 (by decide) (fun _ => ?_) (fun h => absurd rfl h)
  exact lawtail C0 hS hl
theorem dL_564 : decode code 564 = .ok (.aload_n 1, 1) := by decide +kernel
theorem dL_565 : decode code 565 = .ok (.aload_n 0, 1) := by decide +kernel
theorem dL_566 : decode code 566 = .ok (.iload_n 3, 1) := by decide +kernel
theorem dL_567 : decode code 567 = .ok (.iconst 1, 1) := by decide +kernel
theorem dL_568 : decode code 568 = .ok (.iadd, 1) := by decide +kernel
theorem dL_569 : decode code 569 = .ok (.iaload, 1) := by decide +kernel
theorem dL_570 : decode code 570 = .ok (.invokevirtual 49, 3) := by decide +kernel
theorem dL_573 : decode code 573 = .ok (.aload_n 2, 1) := by decide +kernel
theorem dL_574 : decode code 574 = .ok (.aload_n 0, 1) := by decide +kernel
theorem dL_575 : decode code 575 = .ok (.iload_n 3, 1) := by decide +kernel
theorem dL_576 : decode code 576 = .ok (.iconst 1, 1) := by decide +kernel
theorem dL_577 : decode code 577 = .ok (.iadd, 1) := by decide +kernel
theorem dL_578 : decode code 578 = .ok (.iaload, 1) := by decide +kernel
theorem dL_579 : decode code 579 = .ok (.invokevirtual 52, 3) := by decide +kernel
theorem dL_582 : decode code 582 = .ok (.if_icmp .eq 1372, 3) := by decide +kernel
set_option maxHeartbeats 4000000 in
set_option maxRecDepth 100000 in
theorem lc_8 {p : Program} {l : Launch} {e : Env} {s : State} {m : MethodId} {below : List Frame} {meth : Method} {c : Code} {b : Nat} {xs : Nat → Int32} {D : va_G} {K : Nat → ClassId} {ax ay : Nat → Nat} {H : Heap} {locs : List Loc} {ls : Array Slot} (C : lawC p s m meth c b xs D K ax ay H locs ls) : W p l e room_1 s m #[Value.ref b] below meth c H locs 153 180094 (lw_Z below #[Value.ref b] s) (F0 m 564 ls []) := by
  obtain ⟨C0, hE, hK, hNX, hNY, hAX, hAY, hdis, hPX, hPY, hS, hl⟩ := C
  obtain ⟨hx, hb, hr, hml, hown, hts, hX, hbl, hlocks, hgv⟩ := id C0
  have hbA : ¬ lawA s b := Nat.not_le.mpr hbl
  refine lv_aload_n hx hb dL_564 rfl (lv_at hl 2 rfl) ?_
  refine lv_aload_n hx hb dL_565 rfl (lv_at hl 3 rfl) ?_
  refine lv_iload_n hx hb dL_566 rfl (lv_at hl 0 rfl) ?_
  refine lv_iconst (v := 1) hx hb dL_567 (by decide) ?_
  refine lv_iadd hx hb dL_568 ?_
  refine x_top (y := 1) (by decide) ?_
  refine va_sld (i := 1) hx hb hX hbl hbA hS (by unfold vp_in; decide) dL_569 ?_
  refine x_vp (nn := 1) (As := [.int (xs (1 : Int32).toNatClampNeg)]) (rest := []) hE (k_X8_ahead l D K ax none (xs (1 : Int32).toNatClampNeg)) wPre_blind (wPre_now hK hNX hPX) (x_recv hK hPX 0 (by decide) (xG_8 rfl) rfl) rfl mw_710 mw_711 mw_712 mw_114 mw_713 (by decide +kernel) ⟨Nat.le_of_ble_eq_true rfl, Nat.le_of_ble_eq_true rfl⟩ hl.1 rfl (Nat.le_of_ble_eq_true rfl) ⟨Nat.le_of_ble_eq_true rfl, Nat.le_of_ble_eq_true rfl⟩ dL_570 (fun r1 hr1 => ?_)
  have hr1 : r1 = (-2) := hr1
  rw [hr1]
  refine lv_aload_n hx hb dL_573 rfl (lv_at hl 1 rfl) ?_
  refine lv_aload_n hx hb dL_574 rfl (lv_at hl 3 rfl) ?_
  refine lv_iload_n hx hb dL_575 rfl (lv_at hl 0 rfl) ?_
  refine lv_iconst (v := 1) hx hb dL_576 (by decide) ?_
  refine lv_iadd hx hb dL_577 ?_
  refine x_top (y := 1) (by decide) ?_
  refine va_sld (i := 1) hx hb hX hbl hbA hS (by unfold vp_in; decide) dL_578 ?_
  refine l_vi (nn := 1) (As := [.int (xs (1 : Int32).toNatClampNeg)]) (rest := [.int (-2)]) hE hK hNY hPY hS hAY (k_X9_ahead l D K ay (xs (1 : Int32).toNatClampNeg)) (x_recv hK hPY 0 (by decide) (yG_9 rfl) rfl) rfl mw_1679 mw_1680 mw_1681 mw_123 mw_1682 (by decide +kernel) ⟨Nat.le_of_ble_eq_true rfl, Nat.le_of_ble_eq_true rfl⟩ hl.1 rfl (Nat.le_of_ble_eq_true rfl) ⟨Nat.le_of_ble_eq_true rfl, Nat.le_of_ble_eq_true rfl⟩ dL_579 (fun r2 u2 H locs hr2 hk2 hS => ?_)
  have hr2 : r2 = (-2) := hr2
  rw [hr2]
  refine lv_icmp_eq (tgt := 1954) hx hb dL_582 (by decide) (fun _ => ?_) (fun h => absurd rfl h)
  exact lawtail C0 hS hl
