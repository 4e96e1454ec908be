theorem dL_320 : decode code 320 = .ok (.aload_n 1, 1) := by decide +kernel
theorem dL_321 : decode code 321 = .ok (.aload_n 0, 1) := by decide +kernel
theorem dL_322 : decode code 322 = .ok (.iload_n 3, 1) := by decide +kernel
theorem dL_323 : decode code 323 = .ok (.iconst 1, 1) := by decide +kernel
theorem dL_324 : decode code 324 = .ok (.iadd, 1) := by decide +kernel
theorem dL_325 : decode code 325 = .ok (.iaload, 1) := by decide +kernel
theorem dL_326 : decode code 326 = .ok (.aload_n 0, 1) := by decide +kernel
theorem dL_327 : decode code 327 = .ok (.iload_n 3, 1) := by decide +kernel
theorem dL_328 : decode code 328 = .ok (.iconst 2, 1) := by decide +kernel
theorem dL_329 : decode code 329 = .ok (.iadd, 1) := by decide +kernel
theorem dL_330 : decode code 330 = .ok (.iaload, 1) := by decide +kernel
theorem dL_331 : decode code 331 = .ok (.aload_n 0, 1) := by decide +kernel
theorem dL_332 : decode code 332 = .ok (.iload_n 3, 1) := by decide +kernel
theorem dL_333 : decode code 333 = .ok (.iconst 3, 1) := by decide +kernel
theorem dL_334 : decode code 334 = .ok (.iadd, 1) := by decide +kernel
theorem dL_335 : decode code 335 = .ok (.iaload, 1) := by decide +kernel
theorem dL_336 : decode code 336 = .ok (.aload_n 0, 1) := by decide +kernel
theorem dL_337 : decode code 337 = .ok (.iload_n 3, 1) := by decide +kernel
theorem dL_338 : decode code 338 = .ok (.iconst 4, 1) := by decide +kernel
theorem dL_339 : decode code 339 = .ok (.iadd, 1) := by decide +kernel
theorem dL_340 : decode code 340 = .ok (.iaload, 1) := by decide +kernel
theorem dL_341 : decode code 341 = .ok (.aload_n 0, 1) := by decide +kernel
theorem dL_342 : decode code 342 = .ok (.iload_n 3, 1) := by decide +kernel
theorem dL_343 : decode code 343 = .ok (.iconst 5, 1) := by decide +kernel
theorem dL_344 : decode code 344 = .ok (.iadd, 1) := by decide +kernel
theorem dL_345 : decode code 345 = .ok (.iaload, 1) := by decide +kernel
theorem dL_346 : decode code 346 = .ok (.invokevirtual 13, 3) := by decide +kernel
theorem dL_349 : decode code 349 = .ok (.pop, 1) := by decide +kernel
theorem dL_350 : decode code 350 = .ok (.aload_n 2, 1) := by decide +kernel
theorem dL_351 : decode code 351 = .ok (.aload_n 0, 1) := by decide +kernel
theorem dL_352 : decode code 352 = .ok (.iload_n 3, 1) := by decide +kernel
theorem dL_353 : decode code 353 = .ok (.iconst 1, 1) := by decide +kernel
theorem dL_354 : decode code 354 = .ok (.iadd, 1) := by decide +kernel
theorem dL_355 : decode code 355 = .ok (.iaload, 1) := by decide +kernel
theorem dL_356 : decode code 356 = .ok (.aload_n 0, 1) := by decide +kernel
theorem dL_357 : decode code 357 = .ok (.iload_n 3, 1) := by decide +kernel
theorem dL_358 : decode code 358 = .ok (.iconst 2, 1) := by decide +kernel
theorem dL_359 : decode code 359 = .ok (.iadd, 1) := by decide +kernel
theorem dL_360 : decode code 360 = .ok (.iaload, 1) := by decide +kernel
theorem dL_361 : decode code 361 = .ok (.aload_n 0, 1) := by decide +kernel
theorem dL_362 : decode code 362 = .ok (.iload_n 3, 1) := by decide +kernel
theorem dL_363 : decode code 363 = .ok (.iconst 3, 1) := by decide +kernel
theorem dL_364 : decode code 364 = .ok (.iadd, 1) := by decide +kernel
theorem dL_365 : decode code 365 = .ok (.iaload, 1) := by decide +kernel
theorem dL_366 : decode code 366 = .ok (.aload_n 0, 1) := by decide +kernel
theorem dL_367 : decode code 367 = .ok (.iload_n 3, 1) := by decide +kernel
theorem dL_368 : decode code 368 = .ok (.iconst 4, 1) := by decide +kernel
theorem dL_369 : decode code 369 = .ok (.iadd, 1) := by decide +kernel
theorem dL_370 : decode code 370 = .ok (.iaload, 1) := by decide +kernel
theorem dL_371 : decode code 371 = .ok (.aload_n 0, 1) := by decide +kernel
theorem dL_372 : decode code 372 = .ok (.iload_n 3, 1) := by decide +kernel
theorem dL_373 : decode code 373 = .ok (.iconst 5, 1) := by decide +kernel
theorem dL_374 : decode code 374 = .ok (.iadd, 1) := by decide +kernel
theorem dL_375 : decode code 375 = .ok (.iaload, 1) := by decide +kernel
theorem dL_376 : decode code 376 = .ok (.invokevirtual 17, 3) := by decide +kernel
theorem dL_379 : decode code 379 = .ok (.pop, 1) := by decide +kernel
theorem dL_380 : decode code 380 = .ok (.goto 1574, 3) := by decide +kernel
set_option maxHeartbeats 4000000 in
set_option maxRecDepth 100000 in
theorem lc_0 {p : Program} {l : Launch} {e : Env} {s : State} {m : MethodId} {below : List Frame} {meth : Method} {c : Code} {b L : Nat} {xs : Nat → Int32} {D : va_G} {K : Nat → ClassId} {ay ax : Nat → Nat} {mm : Option Nat} {N cells slots : Nat} {v ar : sI} {al : sL} {v' ar' : sI} {al' : sL} {H : Heap} {locs : List Loc} {ls : Array Slot} {tk tv : Nat → Nat} {i : Int} (hi : 0 ≤ i ∧ i + 6 ≤ (L : Int) ∧ L ≤ 3072) (F : lawF p s m meth c b L xs D K tk tv) (C : lawI s D K ay ax mm N cells slots v ar al v' ar' al' H locs) (hl : lv_has ls 4 [(3, .int (iI i)), (2, .ref (ay 0)), (1, .ref (ax 0)), (0, .ref b)]) (kk : lawK p l e s m below meth c b D K ay i) : W p l e room_1 s m #[Value.ref b] below meth c H locs cells slots (lw_Z below #[Value.ref b] s) (F0 m 320 ls []) := by
  obtain ⟨C0, hE, hK, hT, hTR⟩ := F
  obtain ⟨hx, hb, hr, hml, hown, hts, hX, hbl, hlocks, hgv⟩ := id C0
  have hbA : ¬ lawA s b := Nat.not_le.mpr hbl
  obtain ⟨hNX, hNY, hAX, hAY, hdis, hPX, hPY, hS, hXI, hYI, hmd, hR⟩ := C
  have hcc := lawM_c hmd
  have hNN := lawM_N hmd
  obtain ⟨z1, hz1, ez1⟩ := iI_of (xs (iI (i + 1)).toNatClampNeg)
  obtain ⟨z2, hz2, ez2⟩ := iI_of (xs (iI (i + 2)).toNatClampNeg)
  obtain ⟨z3, hz3, ez3⟩ := iI_of (xs (iI (i + 3)).toNatClampNeg)
  obtain ⟨z4, hz4, ez4⟩ := iI_of (xs (iI (i + 4)).toNatClampNeg)
  obtain ⟨z5, hz5, ez5⟩ := iI_of (xs (iI (i + 5)).toNatClampNeg)
  have cont : ∀ (ax : Nat → Nat) (mm : Option Nat) (N cells slots : Nat) (v ar : sI) (al : sL) (H : Heap) (locs : List Loc) (ls : Array Slot) (r : Int32), apart ax N → (∀ i, i < N → lawA s (ax i)) → (∀ i j, i < N → j < 21 → ax i ≠ ay j) → va_P D xcl (wW ax (xG ax K mm) N v ar al) H → va_P D xcl (wW ay (yG ay K) 21 v' ar' al') H → va_S (lawA s) s.heap H locs → XI v → lawM ax mm N cells slots → lawR v ar al v' ar' al' → lv_has ls 4 [(3, .int (iI i)), (2, .ref (ay 0)), (1, .ref (ax 0)), (0, .ref b)] → W p l e room_1 s m #[Value.ref b] below meth c H locs cells slots (lw_Z below #[Value.ref b] s) (F0 m 349 ls [.int r]) := by
    intro ax mm N cells slots v ar al H locs ls r hNX hAX hdis hPX hPY hS hXI hmd hR hl
    have hcc := lawM_c hmd
    refine lv_pop hx hb dL_349 rfl ?_
    refine lv_aload_n hx hb dL_350 rfl (lv_at hl 1 rfl) ?_
    refine lv_aload_n hx hb dL_351 rfl (lv_at hl 3 rfl) ?_
    refine lv_iload_n hx hb dL_352 rfl (lv_at hl 0 rfl) ?_
    refine lv_iconst (v := iI (1)) hx hb dL_353 (by decide) ?_
    refine lv_iadd hx hb dL_354 ?_
    refine x_top (y := iI (i + 1)) (iI_add _ _) ?_
    refine va_sld (i := iI (i + 1)) hx hb hX hbl hbA hS (iI_in (n := L) (by omega)) dL_355 ?_
    refine x_top ez1 ?_
    refine lv_aload_n hx hb dL_356 rfl (lv_at hl 3 rfl) ?_
    refine lv_iload_n hx hb dL_357 rfl (lv_at hl 0 rfl) ?_
    refine lv_iconst (v := iI (2)) hx hb dL_358 (by decide) ?_
    refine lv_iadd hx hb dL_359 ?_
    refine x_top (y := iI (i + 2)) (iI_add _ _) ?_
    refine va_sld (i := iI (i + 2)) hx hb hX hbl hbA hS (iI_in (n := L) (by omega)) dL_360 ?_
    refine x_top ez2 ?_
    refine lv_aload_n hx hb dL_361 rfl (lv_at hl 3 rfl) ?_
    refine lv_iload_n hx hb dL_362 rfl (lv_at hl 0 rfl) ?_
    refine lv_iconst (v := iI (3)) hx hb dL_363 (by decide) ?_
    refine lv_iadd hx hb dL_364 ?_
    refine x_top (y := iI (i + 3)) (iI_add _ _) ?_
    refine va_sld (i := iI (i + 3)) hx hb hX hbl hbA hS (iI_in (n := L) (by omega)) dL_365 ?_
    refine x_top ez3 ?_
    refine lv_aload_n hx hb dL_366 rfl (lv_at hl 3 rfl) ?_
    refine lv_iload_n hx hb dL_367 rfl (lv_at hl 0 rfl) ?_
    refine lv_iconst (v := iI (4)) hx hb dL_368 (by decide) ?_
    refine lv_iadd hx hb dL_369 ?_
    refine x_top (y := iI (i + 4)) (iI_add _ _) ?_
    refine va_sld (i := iI (i + 4)) hx hb hX hbl hbA hS (iI_in (n := L) (by omega)) dL_370 ?_
    refine x_top ez4 ?_
    refine lv_aload_n hx hb dL_371 rfl (lv_at hl 3 rfl) ?_
    refine lv_iload_n hx hb dL_372 rfl (lv_at hl 0 rfl) ?_
    refine lv_iconst (v := iI (5)) hx hb dL_373 (by decide) ?_
    refine lv_iadd hx hb dL_374 ?_
    refine x_top (y := iI (i + 5)) (iI_add _ _) ?_
    refine va_sld (i := iI (i + 5)) hx hb hX hbl hbA hS (iI_in (n := L) (by omega)) dL_375 ?_
    refine x_top ez5 ?_
    refine l_viG (nn := 5) (As := [.int (iI (z1)), .int (iI (z2)), .int (iI (z3)), .int (iI (z4)), .int (iI (z5))]) (rest := []) hE hS hAY (s_X9_feed l D K ay v' ar' al' hYI  (z1) (by omega) (z2) (by omega) (z3) (by omega) (z4) (by omega) (z5) (by omega)) wPre_blind (wPre_now hK hNY hPY) (x_recv hK hPY 0 (by decide) (yG_9 rfl) rfl) rfl mw_1508 mw_1509 mw_1510 mw_123 mw_1511 (by decide +kernel) ⟨Nat.le_of_ble_eq_true rfl, Nat.le_of_ble_eq_true rfl⟩ hl.1 rfl (Nat.le_of_ble_eq_true rfl) hcc dL_376 (fun r2 v2 ar2 al2 H2 locs2 hp2 hPY2 hk2 hS2 => ?_)
    have hYI2 : YI v2 ar2 := hp2.2.1
    have hPX2 := w_keep hPX (fun i j hi hj e => hdis j i hj hi e.symm) hk2
    refine lv_pop hx hb dL_379 rfl ?_
    refine lv_goto (tgt := 1954) hx hb dL_380 (by decide) ?_
    exact kk ax mm N cells slots v ar al v2 ar2 al2 H2 locs2 ls ⟨hNX, hNY, hAX, hAY, hdis, hPX2, hPY2, hS2, hXI, hYI2, hmd, R_y hR (hp2.2.2.2.1 1 (by decide)) (hp2.2.2.2.1 2 (by decide)) (hp2.2.2.2.1 11 (by decide))⟩ hl
  refine lv_aload_n hx hb dL_320 rfl (lv_at hl 2 rfl) ?_
  refine lv_aload_n hx hb dL_321 rfl (lv_at hl 3 rfl) ?_
  refine lv_iload_n hx hb dL_322 rfl (lv_at hl 0 rfl) ?_
  refine lv_iconst (v := iI (1)) hx hb dL_323 (by decide) ?_
  refine lv_iadd hx hb dL_324 ?_
  refine x_top (y := iI (i + 1)) (iI_add _ _) ?_
  refine va_sld (i := iI (i + 1)) hx hb hX hbl hbA hS (iI_in (n := L) (by omega)) dL_325 ?_
  refine x_top ez1 ?_
  refine lv_aload_n hx hb dL_326 rfl (lv_at hl 3 rfl) ?_
  refine lv_iload_n hx hb dL_327 rfl (lv_at hl 0 rfl) ?_
  refine lv_iconst (v := iI (2)) hx hb dL_328 (by decide) ?_
  refine lv_iadd hx hb dL_329 ?_
  refine x_top (y := iI (i + 2)) (iI_add _ _) ?_
  refine va_sld (i := iI (i + 2)) hx hb hX hbl hbA hS (iI_in (n := L) (by omega)) dL_330 ?_
  refine x_top ez2 ?_
  refine lv_aload_n hx hb dL_331 rfl (lv_at hl 3 rfl) ?_
  refine lv_iload_n hx hb dL_332 rfl (lv_at hl 0 rfl) ?_
  refine lv_iconst (v := iI (3)) hx hb dL_333 (by decide) ?_
  refine lv_iadd hx hb dL_334 ?_
  refine x_top (y := iI (i + 3)) (iI_add _ _) ?_
  refine va_sld (i := iI (i + 3)) hx hb hX hbl hbA hS (iI_in (n := L) (by omega)) dL_335 ?_
  refine x_top ez3 ?_
  refine lv_aload_n hx hb dL_336 rfl (lv_at hl 3 rfl) ?_
  refine lv_iload_n hx hb dL_337 rfl (lv_at hl 0 rfl) ?_
  refine lv_iconst (v := iI (4)) hx hb dL_338 (by decide) ?_
  refine lv_iadd hx hb dL_339 ?_
  refine x_top (y := iI (i + 4)) (iI_add _ _) ?_
  refine va_sld (i := iI (i + 4)) hx hb hX hbl hbA hS (iI_in (n := L) (by omega)) dL_340 ?_
  refine x_top ez4 ?_
  refine lv_aload_n hx hb dL_341 rfl (lv_at hl 3 rfl) ?_
  refine lv_iload_n hx hb dL_342 rfl (lv_at hl 0 rfl) ?_
  refine lv_iconst (v := iI (5)) hx hb dL_343 (by decide) ?_
  refine lv_iadd hx hb dL_344 ?_
  refine x_top (y := iI (i + 5)) (iI_add _ _) ?_
  refine va_sld (i := iI (i + 5)) hx hb hX hbl hbA hS (iI_in (n := L) (by omega)) dL_345 ?_
  refine x_top ez5 ?_
  refine l_viG (nn := 5) (As := [.int (iI (z1)), .int (iI (z2)), .int (iI (z3)), .int (iI (z4)), .int (iI (z5))]) (rest := []) hE hS hAX (s_X8_feed_0 l D K ax mm N hNN v ar al hXI   (z1) (by omega) (z2) (by omega) (z3) (by omega) (z4) (by omega) (z5) (by omega)) wPre_blind (wPre_now hK hNX hPX) (x_recv hK hPX 0 (by omega) (xG_8 rfl) rfl) rfl mw_511 mw_512 mw_513 mw_114 mw_514 (by decide +kernel) ⟨Nat.le_of_ble_eq_true rfl, Nat.le_of_ble_eq_true rfl⟩ hl.1 rfl (Nat.le_of_ble_eq_true rfl) hcc dL_346 (fun r1 v1 ar1 al1 H1 locs1 hp1 hPX1 hk1 hS1 => ?_)
  exact cont ax mm N cells slots v1 ar1 al1 H1 locs1 ls r1 hNX hAX hdis hPX1 (w_keep hPY hdis hk1) hS1 hp1.2.1 hmd (R_x hR (fun i j h => hp1.2.2 i j (fl_out (by decide) h))) hl
theorem dL_383 : decode code 383 = .ok (.aload_n 1, 1) := by decide +kernel
theorem dL_384 : decode code 384 = .ok (.aload_n 0, 1) := by decide +kernel
theorem dL_385 : decode code 385 = .ok (.iload_n 3, 1) := by decide +kernel
theorem dL_386 : decode code 386 = .ok (.iconst 1, 1) := by decide +kernel
theorem dL_387 : decode code 387 = .ok (.iadd, 1) := by decide +kernel
theorem dL_388 : decode code 388 = .ok (.iaload, 1) := by decide +kernel
theorem dL_389 : decode code 389 = .ok (.invokevirtual 18, 3) := by decide +kernel
theorem dL_392 : decode code 392 = .ok (.pop, 1) := by decide +kernel
theorem dL_393 : decode code 393 = .ok (.aload_n 2, 1) := by decide +kernel
theorem dL_394 : decode code 394 = .ok (.aload_n 0, 1) := by decide +kernel
theorem dL_395 : decode code 395 = .ok (.iload_n 3, 1) := by decide +kernel
theorem dL_396 : decode code 396 = .ok (.iconst 1, 1) := by decide +kernel
theorem dL_397 : decode code 397 = .ok (.iadd, 1) := by decide +kernel
theorem dL_398 : decode code 398 = .ok (.iaload, 1) := by decide +kernel
theorem dL_399 : decode code 399 = .ok (.invokevirtual 22, 3) := by decide +kernel
theorem dL_402 : decode code 402 = .ok (.pop, 1) := by decide +kernel
theorem dL_403 : decode code 403 = .ok (.goto 1551, 3) := by decide +kernel
set_option maxHeartbeats 4000000 in
set_option maxRecDepth 100000 in
theorem lc_1 {p : Program} {l : Launch} {e : Env} {s : State} {m : MethodId} {below : List Frame} {meth : Method} {c : Code} {b L : Nat} {xs : Nat → Int32} {D : va_G} {K : Nat → ClassId} {ay ax : Nat → Nat} {mm : Option Nat} {N cells slots : Nat} {v ar : sI} {al : sL} {v' ar' : sI} {al' : sL} {H : Heap} {locs : List Loc} {ls : Array Slot} {tk tv : Nat → Nat} {i : Int} (hi : 0 ≤ i ∧ i + 6 ≤ (L : Int) ∧ L ≤ 3072) (F : lawF p s m meth c b L xs D K tk tv) (C : lawI s D K ay ax mm N cells slots v ar al v' ar' al' H locs) (hl : lv_has ls 4 [(3, .int (iI i)), (2, .ref (ay 0)), (1, .ref (ax 0)), (0, .ref b)]) (kk : lawK p l e s m below meth c b D K ay i) : W p l e room_1 s m #[Value.ref b] below meth c H locs cells slots (lw_Z below #[Value.ref b] s) (F0 m 383 ls []) := by
  obtain ⟨C0, hE, hK, hT, hTR⟩ := F
  obtain ⟨hx, hb, hr, hml, hown, hts, hX, hbl, hlocks, hgv⟩ := id C0
  have hbA : ¬ lawA s b := Nat.not_le.mpr hbl
  obtain ⟨hNX, hNY, hAX, hAY, hdis, hPX, hPY, hS, hXI, hYI, hmd, hR⟩ := C
  have hcc := lawM_c hmd
  have hNN := lawM_N hmd
  obtain ⟨z1, hz1, ez1⟩ := iI_of (xs (iI (i + 1)).toNatClampNeg)
  have cont : ∀ (ax : Nat → Nat) (mm : Option Nat) (N cells slots : Nat) (v ar : sI) (al : sL) (H : Heap) (locs : List Loc) (ls : Array Slot) (r : Int32), apart ax N → (∀ i, i < N → lawA s (ax i)) → (∀ i j, i < N → j < 21 → ax i ≠ ay j) → va_P D xcl (wW ax (xG ax K mm) N v ar al) H → va_P D xcl (wW ay (yG ay K) 21 v' ar' al') H → va_S (lawA s) s.heap H locs → XI v → lawM ax mm N cells slots → lawR v ar al v' ar' al' → lv_has ls 4 [(3, .int (iI i)), (2, .ref (ay 0)), (1, .ref (ax 0)), (0, .ref b)] → W p l e room_1 s m #[Value.ref b] below meth c H locs cells slots (lw_Z below #[Value.ref b] s) (F0 m 392 ls [.int r]) := by
    intro ax mm N cells slots v ar al H locs ls r hNX hAX hdis hPX hPY hS hXI hmd hR hl
    have hcc := lawM_c hmd
    refine lv_pop hx hb dL_392 rfl ?_
    refine lv_aload_n hx hb dL_393 rfl (lv_at hl 1 rfl) ?_
    refine lv_aload_n hx hb dL_394 rfl (lv_at hl 3 rfl) ?_
    refine lv_iload_n hx hb dL_395 rfl (lv_at hl 0 rfl) ?_
    refine lv_iconst (v := iI (1)) hx hb dL_396 (by decide) ?_
    refine lv_iadd hx hb dL_397 ?_
    refine x_top (y := iI (i + 1)) (iI_add _ _) ?_
    refine va_sld (i := iI (i + 1)) hx hb hX hbl hbA hS (iI_in (n := L) (by omega)) dL_398 ?_
    refine x_top ez1 ?_
    refine l_viG (nn := 1) (As := [.int (iI (z1))]) (rest := []) hE hS hAY (s_X9_end l D K ay v' ar' al' hYI  (z1) (by omega)) wPre_blind (wPre_now hK hNY hPY) (x_recv hK hPY 0 (by decide) (yG_9 rfl) rfl) rfl mw_1516 mw_1517 mw_1518 mw_123 mw_1519 (by decide +kernel) ⟨Nat.le_of_ble_eq_true rfl, Nat.le_of_ble_eq_true rfl⟩ hl.1 rfl (Nat.le_of_ble_eq_true rfl) hcc dL_399 (fun r2 v2 ar2 al2 H2 locs2 hp2 hPY2 hk2 hS2 => ?_)
    have hYI2 : YI v2 ar2 := hp2.2.1
    have hPX2 := w_keep hPX (fun i j hi hj e => hdis j i hj hi e.symm) hk2
    refine lv_pop hx hb dL_402 rfl ?_
    refine lv_goto (tgt := 1954) hx hb dL_403 (by decide) ?_
    exact kk ax mm N cells slots v ar al v2 ar2 al2 H2 locs2 ls ⟨hNX, hNY, hAX, hAY, hdis, hPX2, hPY2, hS2, hXI, hYI2, hmd, R_y hR (hp2.2.2.2.1 1 (by decide)) (hp2.2.2.2.1 2 (by decide)) (hp2.2.2.2.1 11 (by decide))⟩ hl
  refine lv_aload_n hx hb dL_383 rfl (lv_at hl 2 rfl) ?_
  refine lv_aload_n hx hb dL_384 rfl (lv_at hl 3 rfl) ?_
  refine lv_iload_n hx hb dL_385 rfl (lv_at hl 0 rfl) ?_
  refine lv_iconst (v := iI (1)) hx hb dL_386 (by decide) ?_
  refine lv_iadd hx hb dL_387 ?_
  refine x_top (y := iI (i + 1)) (iI_add _ _) ?_
  refine va_sld (i := iI (i + 1)) hx hb hX hbl hbA hS (iI_in (n := L) (by omega)) dL_388 ?_
  refine x_top ez1 ?_
  refine l_viG (nn := 1) (As := [.int (iI (z1))]) (rest := []) hE hS hAX (s_X8_end_0 l D K ax mm N hNN v ar al hXI   (z1) (by omega)) wPre_blind (wPre_now hK hNX hPX) (x_recv hK hPX 0 (by omega) (xG_8 rfl) rfl) rfl mw_519 mw_520 mw_521 mw_114 mw_522 (by decide +kernel) ⟨Nat.le_of_ble_eq_true rfl, Nat.le_of_ble_eq_true rfl⟩ hl.1 rfl (Nat.le_of_ble_eq_true rfl) hcc dL_389 (fun r1 v1 ar1 al1 H1 locs1 hp1 hPX1 hk1 hS1 => ?_)
  exact cont ax mm N cells slots v1 ar1 al1 H1 locs1 ls r1 hNX hAX hdis hPX1 (w_keep hPY hdis hk1) hS1 hp1.2.1 hmd (R_x hR (fun i j h => hp1.2.2 i j (fl_out (by decide) h))) hl
theorem dL_406 : decode code 406 = .ok (.aload_n 1, 1) := by decide +kernel
theorem dL_407 : decode code 407 = .ok (.invokevirtual 23, 3) := by decide +kernel
theorem dL_410 : decode code 410 = .ok (.pop, 1) := by decide +kernel
theorem dL_411 : decode code 411 = .ok (.aload_n 2, 1) := by decide +kernel
theorem dL_412 : decode code 412 = .ok (.invokevirtual 27, 3) := by decide +kernel
theorem dL_415 : decode code 415 = .ok (.pop, 1) := by decide +kernel
theorem dL_416 : decode code 416 = .ok (.goto 1538, 3) := by decide +kernel
set_option maxHeartbeats 4000000 in
set_option maxRecDepth 100000 in
theorem lc_2 {p : Program} {l : Launch} {e : Env} {s : State} {m : MethodId} {below : List Frame} {meth : Method} {c : Code} {b L : Nat} {xs : Nat → Int32} {D : va_G} {K : Nat → ClassId} {ay ax : Nat → Nat} {mm : Option Nat} {N cells slots : Nat} {v ar : sI} {al : sL} {v' ar' : sI} {al' : sL} {H : Heap} {locs : List Loc} {ls : Array Slot} {tk tv : Nat → Nat} {i : Int} (hi : 0 ≤ i ∧ i + 6 ≤ (L : Int) ∧ L ≤ 3072) (F : lawF p s m meth c b L xs D K tk tv) (C : lawI s D K ay ax mm N cells slots v ar al v' ar' al' H locs) (hl : lv_has ls 4 [(3, .int (iI i)), (2, .ref (ay 0)), (1, .ref (ax 0)), (0, .ref b)]) (kk : lawK p l e s m below meth c b D K ay i) : W p l e room_1 s m #[Value.ref b] below meth c H locs cells slots (lw_Z below #[Value.ref b] s) (F0 m 406 ls []) := by
  obtain ⟨C0, hE, hK, hT, hTR⟩ := F
  obtain ⟨hx, hb, hr, hml, hown, hts, hX, hbl, hlocks, hgv⟩ := id C0
  have hbA : ¬ lawA s b := Nat.not_le.mpr hbl
  obtain ⟨hNX, hNY, hAX, hAY, hdis, hPX, hPY, hS, hXI, hYI, hmd, hR⟩ := C
  have hcc := lawM_c hmd
  have hNN := lawM_N hmd
  have cont : ∀ (ax : Nat → Nat) (mm : Option Nat) (N cells slots : Nat) (v ar : sI) (al : sL) (H : Heap) (locs : List Loc) (ls : Array Slot) (r : Int32), apart ax N → (∀ i, i < N → lawA s (ax i)) → (∀ i j, i < N → j < 21 → ax i ≠ ay j) → va_P D xcl (wW ax (xG ax K mm) N v ar al) H → va_P D xcl (wW ay (yG ay K) 21 v' ar' al') H → va_S (lawA s) s.heap H locs → XI v → lawM ax mm N cells slots → lawR v ar al v' ar' al' → lv_has ls 4 [(3, .int (iI i)), (2, .ref (ay 0)), (1, .ref (ax 0)), (0, .ref b)] → W p l e room_1 s m #[Value.ref b] below meth c H locs cells slots (lw_Z below #[Value.ref b] s) (F0 m 410 ls [.int r]) := by
    intro ax mm N cells slots v ar al H locs ls r hNX hAX hdis hPX hPY hS hXI hmd hR hl
    have hcc := lawM_c hmd
    refine lv_pop hx hb dL_410 rfl ?_
    refine lv_aload_n hx hb dL_411 rfl (lv_at hl 1 rfl) ?_
    obtain ⟨yw_1, hyw_1, eyw_1⟩ := YI_get hYI 0 6 (0) (1600) (by decide)
    refine l_viG (nn := 0) (As := []) (rest := []) hE hS hAY (s_X9_court l D K ay v' ar' al' hYI (yw_1) hyw_1 eyw_1 ) wPre_blind (wPre_now hK hNY hPY) (x_recv hK hPY 0 (by decide) (yG_9 rfl) rfl) rfl mw_1524 mw_1525 mw_1526 mw_123 mw_1527 (by decide +kernel) ⟨Nat.le_of_ble_eq_true rfl, Nat.le_of_ble_eq_true rfl⟩ hl.1 rfl (Nat.le_of_ble_eq_true rfl) hcc dL_412 (fun r2 v2 ar2 al2 H2 locs2 hp2 hPY2 hk2 hS2 => ?_)
    have hYI2 : YI v2 ar2 := hp2.2.1
    have hPX2 := w_keep hPX (fun i j hi hj e => hdis j i hj hi e.symm) hk2
    refine lv_pop hx hb dL_415 rfl ?_
    refine lv_goto (tgt := 1954) hx hb dL_416 (by decide) ?_
    exact kk ax mm N cells slots v ar al v2 ar2 al2 H2 locs2 ls ⟨hNX, hNY, hAX, hAY, hdis, hPX2, hPY2, hS2, hXI, hYI2, hmd, R_y hR (hp2.2.2.2.1 1 (by decide)) (hp2.2.2.2.1 2 (by decide)) (hp2.2.2.2.1 11 (by decide))⟩ hl
  refine lv_aload_n hx hb dL_406 rfl (lv_at hl 2 rfl) ?_
  refine l_viG (nn := 0) (As := []) (rest := []) hE hS hAX (s_X8_court_0 l D K ax mm N hNN v ar al hXI tk tv  ) tw_blind (fun U hU hW => ⟨wPre_now hK hNX hPX U hU hW, tP_nar (tP_now hT hS U hU hW) (inA hAX), tR_warm hTR hW⟩) (x_recv hK hPX 0 (by omega) (xG_8 rfl) rfl) rfl mw_523 mw_524 mw_525 mw_114 mw_526 (by decide +kernel) ⟨Nat.le_of_ble_eq_true rfl, Nat.le_of_ble_eq_true rfl⟩ hl.1 rfl (Nat.le_of_ble_eq_true rfl) hcc dL_407 (fun r1 v1 ar1 al1 H1 locs1 hp1 hPX1 hk1 hS1 => ?_)
  exact cont ax mm N cells slots v1 ar1 al1 H1 locs1 ls r1 hNX hAX hdis hPX1 (w_keep hPY hdis hk1) hS1 hp1.2.1 hmd (R_x hR (fun i j h => hp1.2.2 i j (fl_out (by decide) h))) hl
theorem dL_419 : decode code 419 = .ok (.aload_n 1, 1) := by decide +kernel
theorem dL_420 : decode code 420 = .ok (.aload_n 0, 1) := by decide +kernel
theorem dL_421 : decode code 421 = .ok (.iload_n 3, 1) := by decide +kernel
theorem dL_422 : decode code 422 = .ok (.iconst 1, 1) := by decide +kernel
theorem dL_423 : decode code 423 = .ok (.iadd, 1) := by decide +kernel
theorem dL_424 : decode code 424 = .ok (.iaload, 1) := by decide +kernel
theorem dL_425 : decode code 425 = .ok (.invokevirtual 28, 3) := by decide +kernel
theorem dL_428 : decode code 428 = .ok (.pop, 1) := by decide +kernel
theorem dL_429 : decode code 429 = .ok (.aload_n 2, 1) := by decide +kernel
theorem dL_430 : decode code 430 = .ok (.aload_n 0, 1) := by decide +kernel
theorem dL_431 : decode code 431 = .ok (.iload_n 3, 1) := by decide +kernel
theorem dL_432 : decode code 432 = .ok (.iconst 1, 1) := by decide +kernel
theorem dL_433 : decode code 433 = .ok (.iadd, 1) := by decide +kernel
theorem dL_434 : decode code 434 = .ok (.iaload, 1) := by decide +kernel
theorem dL_435 : decode code 435 = .ok (.invokevirtual 31, 3) := by decide +kernel
theorem dL_438 : decode code 438 = .ok (.pop, 1) := by decide +kernel
theorem dL_439 : decode code 439 = .ok (.goto 1515, 3) := by decide +kernel
set_option maxHeartbeats 4000000 in
set_option maxRecDepth 100000 in
theorem lc_3 {p : Program} {l : Launch} {e : Env} {s : State} {m : MethodId} {below : List Frame} {meth : Method} {c : Code} {b L : Nat} {xs : Nat → Int32} {D : va_G} {K : Nat → ClassId} {ay ax : Nat → Nat} {mm : Option Nat} {N cells slots : Nat} {v ar : sI} {al : sL} {v' ar' : sI} {al' : sL} {H : Heap} {locs : List Loc} {ls : Array Slot} {tk tv : Nat → Nat} {i : Int} (hi : 0 ≤ i ∧ i + 6 ≤ (L : Int) ∧ L ≤ 3072) (F : lawF p s m meth c b L xs D K tk tv) (C : lawI s D K ay ax mm N cells slots v ar al v' ar' al' H locs) (hl : lv_has ls 4 [(3, .int (iI i)), (2, .ref (ay 0)), (1, .ref (ax 0)), (0, .ref b)]) (kk : lawK p l e s m below meth c b D K ay i) : W p l e room_1 s m #[Value.ref b] below meth c H locs cells slots (lw_Z below #[Value.ref b] s) (F0 m 419 ls []) := by
  obtain ⟨C0, hE, hK, hT, hTR⟩ := F
  obtain ⟨hx, hb, hr, hml, hown, hts, hX, hbl, hlocks, hgv⟩ := id C0
  have hbA : ¬ lawA s b := Nat.not_le.mpr hbl
  obtain ⟨hNX, hNY, hAX, hAY, hdis, hPX, hPY, hS, hXI, hYI, hmd, hR⟩ := C
  have hcc := lawM_c hmd
  have hNN := lawM_N hmd
  obtain ⟨z1, hz1, ez1⟩ := iI_of (xs (iI (i + 1)).toNatClampNeg)
  have cont : ∀ (ax : Nat → Nat) (mm : Option Nat) (N cells slots : Nat) (v ar : sI) (al : sL) (H : Heap) (locs : List Loc) (ls : Array Slot) (r : Int32), apart ax N → (∀ i, i < N → lawA s (ax i)) → (∀ i j, i < N → j < 21 → ax i ≠ ay j) → va_P D xcl (wW ax (xG ax K mm) N v ar al) H → va_P D xcl (wW ay (yG ay K) 21 v' ar' al') H → va_S (lawA s) s.heap H locs → XI v → lawM ax mm N cells slots → lawR v ar al v' ar' al' → lv_has ls 4 [(3, .int (iI i)), (2, .ref (ay 0)), (1, .ref (ax 0)), (0, .ref b)] → W p l e room_1 s m #[Value.ref b] below meth c H locs cells slots (lw_Z below #[Value.ref b] s) (F0 m 428 ls [.int r]) := by
    intro ax mm N cells slots v ar al H locs ls r hNX hAX hdis hPX hPY hS hXI hmd hR hl
    have hcc := lawM_c hmd
    refine lv_pop hx hb dL_428 rfl ?_
    refine lv_aload_n hx hb dL_429 rfl (lv_at hl 1 rfl) ?_
    refine lv_aload_n hx hb dL_430 rfl (lv_at hl 3 rfl) ?_
    refine lv_iload_n hx hb dL_431 rfl (lv_at hl 0 rfl) ?_
    refine lv_iconst (v := iI (1)) hx hb dL_432 (by decide) ?_
    refine lv_iadd hx hb dL_433 ?_
    refine x_top (y := iI (i + 1)) (iI_add _ _) ?_
    refine va_sld (i := iI (i + 1)) hx hb hX hbl hbA hS (iI_in (n := L) (by omega)) dL_434 ?_
    refine x_top ez1 ?_
    refine l_viG (nn := 1) (As := [.int (iI (z1))]) (rest := []) hE hS hAY (s_X9_fault l D K ay v' ar' al' hYI  (z1) (by omega)) wPre_blind (wPre_now hK hNY hPY) (x_recv hK hPY 0 (by decide) (yG_9 rfl) rfl) rfl mw_1520 mw_1521 mw_1522 mw_123 mw_1523 (by decide +kernel) ⟨Nat.le_of_ble_eq_true rfl, Nat.le_of_ble_eq_true rfl⟩ hl.1 rfl (Nat.le_of_ble_eq_true rfl) hcc dL_435 (fun r2 v2 ar2 al2 H2 locs2 hp2 hPY2 hk2 hS2 => ?_)
    have hYI2 : YI v2 ar2 := hp2.2.1
    have hPX2 := w_keep hPX (fun i j hi hj e => hdis j i hj hi e.symm) hk2
    refine lv_pop hx hb dL_438 rfl ?_
    refine lv_goto (tgt := 1954) hx hb dL_439 (by decide) ?_
    exact kk ax mm N cells slots v ar al v2 ar2 al2 H2 locs2 ls ⟨hNX, hNY, hAX, hAY, hdis, hPX2, hPY2, hS2, hXI, hYI2, hmd, R_y hR (hp2.2.2.2.1 1 (by decide)) (hp2.2.2.2.1 2 (by decide)) (hp2.2.2.2.1 11 (by decide))⟩ hl
  refine lv_aload_n hx hb dL_419 rfl (lv_at hl 2 rfl) ?_
  refine lv_aload_n hx hb dL_420 rfl (lv_at hl 3 rfl) ?_
  refine lv_iload_n hx hb dL_421 rfl (lv_at hl 0 rfl) ?_
  refine lv_iconst (v := iI (1)) hx hb dL_422 (by decide) ?_
  refine lv_iadd hx hb dL_423 ?_
  refine x_top (y := iI (i + 1)) (iI_add _ _) ?_
  refine va_sld (i := iI (i + 1)) hx hb hX hbl hbA hS (iI_in (n := L) (by omega)) dL_424 ?_
  refine x_top ez1 ?_
  refine x_vp (nn := 1) (As := [.int (iI (z1))]) (rest := []) hE (s_X8_fault_0 l D K ax mm N hNN v ar al hXI  (z1) (by omega)) wPre_blind (wPre_now hK hNX hPX) (x_recv hK hPX 0 (by omega) (xG_8 rfl) rfl) rfl mw_686 mw_687 mw_688 mw_114 mw_689 (by decide +kernel) ⟨Nat.le_of_ble_eq_true rfl, Nat.le_of_ble_eq_true rfl⟩ hl.1 rfl (Nat.le_of_ble_eq_true rfl) hcc dL_425 (fun r1 hr1 => ?_)
  exact cont ax mm N cells slots v ar al H locs ls r1 hNX hAX hdis hPX hPY hS hXI hmd hR hl
theorem dL_442 : decode code 442 = .ok (.aload_n 1, 1) := by decide +kernel
theorem dL_443 : decode code 443 = .ok (.aload_n 0, 1) := by decide +kernel
theorem dL_444 : decode code 444 = .ok (.iload_n 3, 1) := by decide +kernel
theorem dL_445 : decode code 445 = .ok (.iconst 1, 1) := by decide +kernel
theorem dL_446 : decode code 446 = .ok (.iadd, 1) := by decide +kernel
theorem dL_447 : decode code 447 = .ok (.iaload, 1) := by decide +kernel
theorem dL_448 : decode code 448 = .ok (.aload_n 0, 1) := by decide +kernel
theorem dL_449 : decode code 449 = .ok (.iload_n 3, 1) := by decide +kernel
theorem dL_450 : decode code 450 = .ok (.iconst 2, 1) := by decide +kernel
theorem dL_451 : decode code 451 = .ok (.iadd, 1) := by decide +kernel
theorem dL_452 : decode code 452 = .ok (.iaload, 1) := by decide +kernel
theorem dL_453 : decode code 453 = .ok (.invokevirtual 32, 3) := by decide +kernel
theorem dL_456 : decode code 456 = .ok (.pop, 1) := by decide +kernel
theorem dL_457 : decode code 457 = .ok (.aload_n 2, 1) := by decide +kernel
theorem dL_458 : decode code 458 = .ok (.aload_n 0, 1) := by decide +kernel
theorem dL_459 : decode code 459 = .ok (.iload_n 3, 1) := by decide +kernel
theorem dL_460 : decode code 460 = .ok (.iconst 1, 1) := by decide +kernel
theorem dL_461 : decode code 461 = .ok (.iadd, 1) := by decide +kernel
theorem dL_462 : decode code 462 = .ok (.iaload, 1) := by decide +kernel
theorem dL_463 : decode code 463 = .ok (.aload_n 0, 1) := by decide +kernel
theorem dL_464 : decode code 464 = .ok (.iload_n 3, 1) := by decide +kernel
theorem dL_465 : decode code 465 = .ok (.iconst 2, 1) := by decide +kernel
theorem dL_466 : decode code 466 = .ok (.iadd, 1) := by decide +kernel
theorem dL_467 : decode code 467 = .ok (.iaload, 1) := by decide +kernel
theorem dL_468 : decode code 468 = .ok (.invokevirtual 36, 3) := by decide +kernel
theorem dL_471 : decode code 471 = .ok (.pop, 1) := by decide +kernel
theorem dL_472 : decode code 472 = .ok (.goto 1482, 3) := by decide +kernel
set_option maxHeartbeats 4000000 in
set_option maxRecDepth 100000 in
theorem lc_4 {p : Program} {l : Launch} {e : Env} {s : State} {m : MethodId} {below : List Frame} {meth : Method} {c : Code} {b L : Nat} {xs : Nat → Int32} {D : va_G} {K : Nat → ClassId} {ay ax : Nat → Nat} {mm : Option Nat} {N cells slots : Nat} {v ar : sI} {al : sL} {v' ar' : sI} {al' : sL} {H : Heap} {locs : List Loc} {ls : Array Slot} {tk tv : Nat → Nat} {i : Int} (hi : 0 ≤ i ∧ i + 6 ≤ (L : Int) ∧ L ≤ 3072) (F : lawF p s m meth c b L xs D K tk tv) (C : lawI s D K ay ax mm N cells slots v ar al v' ar' al' H locs) (hl : lv_has ls 4 [(3, .int (iI i)), (2, .ref (ay 0)), (1, .ref (ax 0)), (0, .ref b)]) (kk : lawK p l e s m below meth c b D K ay i) : W p l e room_1 s m #[Value.ref b] below meth c H locs cells slots (lw_Z below #[Value.ref b] s) (F0 m 442 ls []) := by
  obtain ⟨C0, hE, hK, hT, hTR⟩ := F
  obtain ⟨hx, hb, hr, hml, hown, hts, hX, hbl, hlocks, hgv⟩ := id C0
  have hbA : ¬ lawA s b := Nat.not_le.mpr hbl
  obtain ⟨hNX, hNY, hAX, hAY, hdis, hPX, hPY, hS, hXI, hYI, hmd, hR⟩ := C
  have hcc := lawM_c hmd
  have hNN := lawM_N hmd
  obtain ⟨z1, hz1, ez1⟩ := iI_of (xs (iI (i + 1)).toNatClampNeg)
  obtain ⟨z2, hz2, ez2⟩ := iI_of (xs (iI (i + 2)).toNatClampNeg)
  have cont : ∀ (ax : Nat → Nat) (mm : Option Nat) (N cells slots : Nat) (v ar : sI) (al : sL) (H : Heap) (locs : List Loc) (ls : Array Slot) (r : Int32), apart ax N → (∀ i, i < N → lawA s (ax i)) → (∀ i j, i < N → j < 21 → ax i ≠ ay j) → va_P D xcl (wW ax (xG ax K mm) N v ar al) H → va_P D xcl (wW ay (yG ay K) 21 v' ar' al') H → va_S (lawA s) s.heap H locs → XI v → lawM ax mm N cells slots → lawR v ar al v' ar' al' → lv_has ls 4 [(3, .int (iI i)), (2, .ref (ay 0)), (1, .ref (ax 0)), (0, .ref b)] → W p l e room_1 s m #[Value.ref b] below meth c H locs cells slots (lw_Z below #[Value.ref b] s) (F0 m 456 ls [.int r]) := by
    intro ax mm N cells slots v ar al H locs ls r hNX hAX hdis hPX hPY hS hXI hmd hR hl
    have hcc := lawM_c hmd
    refine lv_pop hx hb dL_456 rfl ?_
    refine lv_aload_n hx hb dL_457 rfl (lv_at hl 1 rfl) ?_
    refine lv_aload_n hx hb dL_458 rfl (lv_at hl 3 rfl) ?_
    refine lv_iload_n hx hb dL_459 rfl (lv_at hl 0 rfl) ?_
    refine lv_iconst (v := iI (1)) hx hb dL_460 (by decide) ?_
    refine lv_iadd hx hb dL_461 ?_
    refine x_top (y := iI (i + 1)) (iI_add _ _) ?_
    refine va_sld (i := iI (i + 1)) hx hb hX hbl hbA hS (iI_in (n := L) (by omega)) dL_462 ?_
    refine x_top ez1 ?_
    refine lv_aload_n hx hb dL_463 rfl (lv_at hl 3 rfl) ?_
    refine lv_iload_n hx hb dL_464 rfl (lv_at hl 0 rfl) ?_
    refine lv_iconst (v := iI (2)) hx hb dL_465 (by decide) ?_
    refine lv_iadd hx hb dL_466 ?_
    refine x_top (y := iI (i + 2)) (iI_add _ _) ?_
    refine va_sld (i := iI (i + 2)) hx hb hX hbl hbA hS (iI_in (n := L) (by omega)) dL_467 ?_
    refine x_top ez2 ?_
    refine l_viG (nn := 2) (As := [.int (iI (z1)), .int (iI (z2))]) (rest := []) hE hS hAY (s_X9_motif l D K ay v' ar' al' hYI  (z1) (by omega) (z2) (by omega)) wPre_blind (wPre_now hK hNY hPY) (x_recv hK hPY 0 (by decide) (yG_9 rfl) rfl) rfl mw_1658 mw_1659 mw_1660 mw_123 mw_1661 (by decide +kernel) ⟨Nat.le_of_ble_eq_true rfl, Nat.le_of_ble_eq_true rfl⟩ hl.1 rfl (Nat.le_of_ble_eq_true rfl) hcc dL_468 (fun r2 v2 ar2 al2 H2 locs2 hp2 hPY2 hk2 hS2 => ?_)
    have hYI2 : YI v2 ar2 := hp2.2.1
    have hPX2 := w_keep hPX (fun i j hi hj e => hdis j i hj hi e.symm) hk2
    refine lv_pop hx hb dL_471 rfl ?_
    refine lv_goto (tgt := 1954) hx hb dL_472 (by decide) ?_
    exact kk ax mm N cells slots v ar al v2 ar2 al2 H2 locs2 ls ⟨hNX, hNY, hAX, hAY, hdis, hPX2, hPY2, hS2, hXI, hYI2, hmd, R_y hR (hp2.2.2.2.1 1 (by decide)) (hp2.2.2.2.1 2 (by decide)) (hp2.2.2.2.1 11 (by decide))⟩ hl
  refine lv_aload_n hx hb dL_442 rfl (lv_at hl 2 rfl) ?_
  refine lv_aload_n hx hb dL_443 rfl (lv_at hl 3 rfl) ?_
  refine lv_iload_n hx hb dL_444 rfl (lv_at hl 0 rfl) ?_
  refine lv_iconst (v := iI (1)) hx hb dL_445 (by decide) ?_
  refine lv_iadd hx hb dL_446 ?_
  refine x_top (y := iI (i + 1)) (iI_add _ _) ?_
  refine va_sld (i := iI (i + 1)) hx hb hX hbl hbA hS (iI_in (n := L) (by omega)) dL_447 ?_
  refine x_top ez1 ?_
  refine lv_aload_n hx hb dL_448 rfl (lv_at hl 3 rfl) ?_
  refine lv_iload_n hx hb dL_449 rfl (lv_at hl 0 rfl) ?_
  refine lv_iconst (v := iI (2)) hx hb dL_450 (by decide) ?_
  refine lv_iadd hx hb dL_451 ?_
  refine x_top (y := iI (i + 2)) (iI_add _ _) ?_
  refine va_sld (i := iI (i + 2)) hx hb hX hbl hbA hS (iI_in (n := L) (by omega)) dL_452 ?_
  refine x_top ez2 ?_
  refine x_vp (nn := 2) (As := [.int (iI (z1)), .int (iI (z2))]) (rest := []) hE (s_X8_motif_0 l D K ax mm N hNN v ar al hXI  (z1) (by omega) (z2) (by omega)) wPre_blind (wPre_now hK hNX hPX) (x_recv hK hPX 0 (by omega) (xG_8 rfl) rfl) rfl mw_690 mw_691 mw_692 mw_114 mw_693 (by decide +kernel) ⟨Nat.le_of_ble_eq_true rfl, Nat.le_of_ble_eq_true rfl⟩ hl.1 rfl (Nat.le_of_ble_eq_true rfl) hcc dL_453 (fun r1 hr1 => ?_)
  exact cont ax mm N cells slots v ar al H locs ls r1 hNX hAX hdis hPX hPY hS hXI hmd hR hl
theorem dL_475 : decode code 475 = .ok (.aload_n 1, 1) := by decide +kernel
theorem dL_476 : decode code 476 = .ok (.aload_n 0, 1) := by decide +kernel
theorem dL_477 : decode code 477 = .ok (.iload_n 3, 1) := by decide +kernel
theorem dL_478 : decode code 478 = .ok (.iconst 1, 1) := by decide +kernel
theorem dL_479 : decode code 479 = .ok (.iadd, 1) := by decide +kernel
theorem dL_480 : decode code 480 = .ok (.iaload, 1) := by decide +kernel
theorem dL_481 : decode code 481 = .ok (.aload_n 0, 1) := by decide +kernel
theorem dL_482 : decode code 482 = .ok (.iload_n 3, 1) := by decide +kernel
theorem dL_483 : decode code 483 = .ok (.iconst 2, 1) := by decide +kernel
theorem dL_484 : decode code 484 = .ok (.iadd, 1) := by decide +kernel
theorem dL_485 : decode code 485 = .ok (.iaload, 1) := by decide +kernel
theorem dL_486 : decode code 486 = .ok (.invokevirtual 37, 3) := by decide +kernel
theorem dL_489 : decode code 489 = .ok (.pop, 1) := by decide +kernel
theorem dL_490 : decode code 490 = .ok (.aload_n 2, 1) := by decide +kernel
theorem dL_491 : decode code 491 = .ok (.aload_n 0, 1) := by decide +kernel
theorem dL_492 : decode code 492 = .ok (.iload_n 3, 1) := by decide +kernel
theorem dL_493 : decode code 493 = .ok (.iconst 1, 1) := by decide +kernel
theorem dL_494 : decode code 494 = .ok (.iadd, 1) := by decide +kernel
theorem dL_495 : decode code 495 = .ok (.iaload, 1) := by decide +kernel
theorem dL_496 : decode code 496 = .ok (.aload_n 0, 1) := by decide +kernel
theorem dL_497 : decode code 497 = .ok (.iload_n 3, 1) := by decide +kernel
theorem dL_498 : decode code 498 = .ok (.iconst 2, 1) := by decide +kernel
theorem dL_499 : decode code 499 = .ok (.iadd, 1) := by decide +kernel
theorem dL_500 : decode code 500 = .ok (.iaload, 1) := by decide +kernel
theorem dL_501 : decode code 501 = .ok (.invokevirtual 40, 3) := by decide +kernel
theorem dL_504 : decode code 504 = .ok (.pop, 1) := by decide +kernel
theorem dL_505 : decode code 505 = .ok (.goto 1449, 3) := by decide +kernel
set_option maxHeartbeats 4000000 in
set_option maxRecDepth 100000 in
theorem lc_5 {p : Program} {l : Launch} {e : Env} {s : State} {m : MethodId} {below : List Frame} {meth : Method} {c : Code} {b L : Nat} {xs : Nat → Int32} {D : va_G} {K : Nat → ClassId} {ay ax : Nat → Nat} {mm : Option Nat} {N cells slots : Nat} {v ar : sI} {al : sL} {v' ar' : sI} {al' : sL} {H : Heap} {locs : List Loc} {ls : Array Slot} {tk tv : Nat → Nat} {i : Int} (hi : 0 ≤ i ∧ i + 6 ≤ (L : Int) ∧ L ≤ 3072) (F : lawF p s m meth c b L xs D K tk tv) (C : lawI s D K ay ax mm N cells slots v ar al v' ar' al' H locs) (hl : lv_has ls 4 [(3, .int (iI i)), (2, .ref (ay 0)), (1, .ref (ax 0)), (0, .ref b)]) (kk : lawK p l e s m below meth c b D K ay i) : W p l e room_1 s m #[Value.ref b] below meth c H locs cells slots (lw_Z below #[Value.ref b] s) (F0 m 475 ls []) := by
  obtain ⟨C0, hE, hK, hT, hTR⟩ := F
  obtain ⟨hx, hb, hr, hml, hown, hts, hX, hbl, hlocks, hgv⟩ := id C0
  have hbA : ¬ lawA s b := Nat.not_le.mpr hbl
  obtain ⟨hNX, hNY, hAX, hAY, hdis, hPX, hPY, hS, hXI, hYI, hmd, hR⟩ := C
  have hcc := lawM_c hmd
  have hNN := lawM_N hmd
  obtain ⟨z1, hz1, ez1⟩ := iI_of (xs (iI (i + 1)).toNatClampNeg)
  obtain ⟨z2, hz2, ez2⟩ := iI_of (xs (iI (i + 2)).toNatClampNeg)
  have cont : ∀ (ax : Nat → Nat) (mm : Option Nat) (N cells slots : Nat) (v ar : sI) (al : sL) (H : Heap) (locs : List Loc) (ls : Array Slot) (r : Int32), apart ax N → (∀ i, i < N → lawA s (ax i)) → (∀ i j, i < N → j < 21 → ax i ≠ ay j) → va_P D xcl (wW ax (xG ax K mm) N v ar al) H → va_P D xcl (wW ay (yG ay K) 21 v' ar' al') H → va_S (lawA s) s.heap H locs → XI v → lawM ax mm N cells slots → lawR v ar al v' ar' al' → lv_has ls 4 [(3, .int (iI i)), (2, .ref (ay 0)), (1, .ref (ax 0)), (0, .ref b)] → W p l e room_1 s m #[Value.ref b] below meth c H locs cells slots (lw_Z below #[Value.ref b] s) (F0 m 489 ls [.int r]) := by
    intro ax mm N cells slots v ar al H locs ls r hNX hAX hdis hPX hPY hS hXI hmd hR hl
    have hcc := lawM_c hmd
    refine lv_pop hx hb dL_489 rfl ?_
    refine lv_aload_n hx hb dL_490 rfl (lv_at hl 1 rfl) ?_
    refine lv_aload_n hx hb dL_491 rfl (lv_at hl 3 rfl) ?_
    refine lv_iload_n hx hb dL_492 rfl (lv_at hl 0 rfl) ?_
    refine lv_iconst (v := iI (1)) hx hb dL_493 (by decide) ?_
    refine lv_iadd hx hb dL_494 ?_
    refine x_top (y := iI (i + 1)) (iI_add _ _) ?_
    refine va_sld (i := iI (i + 1)) hx hb hX hbl hbA hS (iI_in (n := L) (by omega)) dL_495 ?_
    refine x_top ez1 ?_
    refine lv_aload_n hx hb dL_496 rfl (lv_at hl 3 rfl) ?_
    refine lv_iload_n hx hb dL_497 rfl (lv_at hl 0 rfl) ?_
    refine lv_iconst (v := iI (2)) hx hb dL_498 (by decide) ?_
    refine lv_iadd hx hb dL_499 ?_
    refine x_top (y := iI (i + 2)) (iI_add _ _) ?_
    refine va_sld (i := iI (i + 2)) hx hb hX hbl hbA hS (iI_in (n := L) (by omega)) dL_500 ?_
    refine x_top ez2 ?_
    refine l_viG (nn := 2) (As := [.int (iI (z1)), .int (iI (z2))]) (rest := []) hE hS hAY (s_X9_joins l D K ay v' ar' al' hYI  (z1) (by omega) (z2) (by omega)) wPre_blind (wPre_now hK hNY hPY) (x_recv hK hPY 0 (by decide) (yG_9 rfl) rfl) rfl mw_1667 mw_1668 mw_1669 mw_123 mw_1670 (by decide +kernel) ⟨Nat.le_of_ble_eq_true rfl, Nat.le_of_ble_eq_true rfl⟩ hl.1 rfl (Nat.le_of_ble_eq_true rfl) hcc dL_501 (fun r2 v2 ar2 al2 H2 locs2 hp2 hPY2 hk2 hS2 => ?_)
    have hYI2 : YI v2 ar2 := hp2.2.1
    have hPX2 := w_keep hPX (fun i j hi hj e => hdis j i hj hi e.symm) hk2
    refine lv_pop hx hb dL_504 rfl ?_
    refine lv_goto (tgt := 1954) hx hb dL_505 (by decide) ?_
    exact kk ax mm N cells slots v ar al v2 ar2 al2 H2 locs2 ls ⟨hNX, hNY, hAX, hAY, hdis, hPX2, hPY2, hS2, hXI, hYI2, hmd, R_y hR (hp2.2.2.2.1 1 (by decide)) (hp2.2.2.2.1 2 (by decide)) (hp2.2.2.2.1 11 (by decide))⟩ hl
  refine lv_aload_n hx hb dL_475 rfl (lv_at hl 2 rfl) ?_
  refine lv_aload_n hx hb dL_476 rfl (lv_at hl 3 rfl) ?_
  refine lv_iload_n hx hb dL_477 rfl (lv_at hl 0 rfl) ?_
  refine lv_iconst (v := iI (1)) hx hb dL_478 (by decide) ?_
  refine lv_iadd hx hb dL_479 ?_
  refine x_top (y := iI (i + 1)) (iI_add _ _) ?_
  refine va_sld (i := iI (i + 1)) hx hb hX hbl hbA hS (iI_in (n := L) (by omega)) dL_480 ?_
  refine x_top ez1 ?_
  refine lv_aload_n hx hb dL_481 rfl (lv_at hl 3 rfl) ?_
  refine lv_iload_n hx hb dL_482 rfl (lv_at hl 0 rfl) ?_
  refine lv_iconst (v := iI (2)) hx hb dL_483 (by decide) ?_
  refine lv_iadd hx hb dL_484 ?_
  refine x_top (y := iI (i + 2)) (iI_add _ _) ?_
  refine va_sld (i := iI (i + 2)) hx hb hX hbl hbA hS (iI_in (n := L) (by omega)) dL_485 ?_
  refine x_top ez2 ?_
  refine x_vp (nn := 2) (As := [.int (iI (z1)), .int (iI (z2))]) (rest := []) hE (s_X8_joins_0 l D K ax mm N hNN v ar al hXI  (z1) (by omega) (z2) (by omega)) wPre_blind (wPre_now hK hNX hPX) (x_recv hK hPX 0 (by omega) (xG_8 rfl) rfl) rfl mw_698 mw_699 mw_700 mw_114 mw_701 (by decide +kernel) ⟨Nat.le_of_ble_eq_true rfl, Nat.le_of_ble_eq_true rfl⟩ hl.1 rfl (Nat.le_of_ble_eq_true rfl) hcc dL_486 (fun r1 hr1 => ?_)
  exact cont ax mm N cells slots v ar al H locs ls r1 hNX hAX hdis hPX hPY hS hXI hmd hR hl
theorem dL_508 : decode code 508 = .ok (.aload_n 1, 1) := by decide +kernel
theorem dL_509 : decode code 509 = .ok (.aload_n 0, 1) := by decide +kernel
theorem dL_510 : decode code 510 = .ok (.iload_n 3, 1) := by decide +kernel
theorem dL_511 : decode code 511 = .ok (.iconst 1, 1) := by decide +kernel
theorem dL_512 : decode code 512 = .ok (.iadd, 1) := by decide +kernel
theorem dL_513 : decode code 513 = .ok (.iaload, 1) := by decide +kernel
theorem dL_514 : decode code 514 = .ok (.aload_n 0, 1) := by decide +kernel
theorem dL_515 : decode code 515 = .ok (.iload_n 3, 1) := by decide +kernel
theorem dL_516 : decode code 516 = .ok (.iconst 2, 1) := by decide +kernel
theorem dL_517 : decode code 517 = .ok (.iadd, 1) := by decide +kernel
theorem dL_518 : decode code 518 = .ok (.iaload, 1) := by decide +kernel
theorem dL_519 : decode code 519 = .ok (.invokevirtual 41, 3) := by decide +kernel
theorem dL_522 : decode code 522 = .ok (.pop, 1) := by decide +kernel
theorem dL_523 : decode code 523 = .ok (.aload_n 2, 1) := by decide +kernel
theorem dL_524 : decode code 524 = .ok (.aload_n 0, 1) := by decide +kernel
theorem dL_525 : decode code 525 = .ok (.iload_n 3, 1) := by decide +kernel
theorem dL_526 : decode code 526 = .ok (.iconst 1, 1) := by decide +kernel
theorem dL_527 : decode code 527 = .ok (.iadd, 1) := by decide +kernel
theorem dL_528 : decode code 528 = .ok (.iaload, 1) := by decide +kernel
theorem dL_529 : decode code 529 = .ok (.aload_n 0, 1) := by decide +kernel
theorem dL_530 : decode code 530 = .ok (.iload_n 3, 1) := by decide +kernel
theorem dL_531 : decode code 531 = .ok (.iconst 2, 1) := by decide +kernel
theorem dL_532 : decode code 532 = .ok (.iadd, 1) := by decide +kernel
theorem dL_533 : decode code 533 = .ok (.iaload, 1) := by decide +kernel
theorem dL_534 : decode code 534 = .ok (.invokevirtual 44, 3) := by decide +kernel
theorem dL_537 : decode code 537 = .ok (.pop, 1) := by decide +kernel
theorem dL_538 : decode code 538 = .ok (.goto 1416, 3) := by decide +kernel
set_option maxHeartbeats 4000000 in
set_option maxRecDepth 100000 in
theorem lc_6 {p : Program} {l : Launch} {e : Env} {s : State} {m : MethodId} {below : List Frame} {meth : Method} {c : Code} {b L : Nat} {xs : Nat → Int32} {D : va_G} {K : Nat → ClassId} {ay ax : Nat → Nat} {mm : Option Nat} {N cells slots : Nat} {v ar : sI} {al : sL} {v' ar' : sI} {al' : sL} {H : Heap} {locs : List Loc} {ls : Array Slot} {tk tv : Nat → Nat} {i : Int} (hi : 0 ≤ i ∧ i + 6 ≤ (L : Int) ∧ L ≤ 3072) (F : lawF p s m meth c b L xs D K tk tv) (C : lawI s D K ay ax mm N cells slots v ar al v' ar' al' H locs) (hl : lv_has ls 4 [(3, .int (iI i)), (2, .ref (ay 0)), (1, .ref (ax 0)), (0, .ref b)]) (kk : lawK p l e s m below meth c b D K ay i) : W p l e room_1 s m #[Value.ref b] below meth c H locs cells slots (lw_Z below #[Value.ref b] s) (F0 m 508 ls []) := by
  obtain ⟨C0, hE, hK, hT, hTR⟩ := F
  obtain ⟨hx, hb, hr, hml, hown, hts, hX, hbl, hlocks, hgv⟩ := id C0
  have hbA : ¬ lawA s b := Nat.not_le.mpr hbl
  obtain ⟨hNX, hNY, hAX, hAY, hdis, hPX, hPY, hS, hXI, hYI, hmd, hR⟩ := C
  have hcc := lawM_c hmd
  have hNN := lawM_N hmd
  obtain ⟨z1, hz1, ez1⟩ := iI_of (xs (iI (i + 1)).toNatClampNeg)
  obtain ⟨z2, hz2, ez2⟩ := iI_of (xs (iI (i + 2)).toNatClampNeg)
  have cont : ∀ (ax : Nat → Nat) (mm : Option Nat) (N cells slots : Nat) (v ar : sI) (al : sL) (H : Heap) (locs : List Loc) (ls : Array Slot) (r : Int32), apart ax N → (∀ i, i < N → lawA s (ax i)) → (∀ i j, i < N → j < 21 → ax i ≠ ay j) → va_P D xcl (wW ax (xG ax K mm) N v ar al) H → va_P D xcl (wW ay (yG ay K) 21 v' ar' al') H → va_S (lawA s) s.heap H locs → XI v → lawM ax mm N cells slots → lawR v ar al v' ar' al' → lv_has ls 4 [(3, .int (iI i)), (2, .ref (ay 0)), (1, .ref (ax 0)), (0, .ref b)] → W p l e room_1 s m #[Value.ref b] below meth c H locs cells slots (lw_Z below #[Value.ref b] s) (F0 m 522 ls [.int r]) := by
    intro ax mm N cells slots v ar al H locs ls r hNX hAX hdis hPX hPY hS hXI hmd hR hl
    have hcc := lawM_c hmd
    refine lv_pop hx hb dL_522 rfl ?_
    refine lv_aload_n hx hb dL_523 rfl (lv_at hl 1 rfl) ?_
    refine lv_aload_n hx hb dL_524 rfl (lv_at hl 3 rfl) ?_
    refine lv_iload_n hx hb dL_525 rfl (lv_at hl 0 rfl) ?_
    refine lv_iconst (v := iI (1)) hx hb dL_526 (by decide) ?_
    refine lv_iadd hx hb dL_527 ?_
    refine x_top (y := iI (i + 1)) (iI_add _ _) ?_
    refine va_sld (i := iI (i + 1)) hx hb hX hbl hbA hS (iI_in (n := L) (by omega)) dL_528 ?_
    refine x_top ez1 ?_
    refine lv_aload_n hx hb dL_529 rfl (lv_at hl 3 rfl) ?_
    refine lv_iload_n hx hb dL_530 rfl (lv_at hl 0 rfl) ?_
    refine lv_iconst (v := iI (2)) hx hb dL_531 (by decide) ?_
    refine lv_iadd hx hb dL_532 ?_
    refine x_top (y := iI (i + 2)) (iI_add _ _) ?_
    refine va_sld (i := iI (i + 2)) hx hb hX hbl hbA hS (iI_in (n := L) (by omega)) dL_533 ?_
    refine x_top ez2 ?_
    refine l_viG (nn := 2) (As := [.int (iI (z1)), .int (iI (z2))]) (rest := []) hE hS hAY (s_X9_clash l D K ay v' ar' al' hYI  (z1) (by omega) (z2) (by omega)) wPre_blind (wPre_now hK hNY hPY) (x_recv hK hPY 0 (by decide) (yG_9 rfl) rfl) rfl mw_1671 mw_1672 mw_1673 mw_123 mw_1674 (by decide +kernel) ⟨Nat.le_of_ble_eq_true rfl, Nat.le_of_ble_eq_true rfl⟩ hl.1 rfl (Nat.le_of_ble_eq_true rfl) hcc dL_534 (fun r2 v2 ar2 al2 H2 locs2 hp2 hPY2 hk2 hS2 => ?_)
    have hYI2 : YI v2 ar2 := hp2.2.1
    have hPX2 := w_keep hPX (fun i j hi hj e => hdis j i hj hi e.symm) hk2
    refine lv_pop hx hb dL_537 rfl ?_
    refine lv_goto (tgt := 1954) hx hb dL_538 (by decide) ?_
    exact kk ax mm N cells slots v ar al v2 ar2 al2 H2 locs2 ls ⟨hNX, hNY, hAX, hAY, hdis, hPX2, hPY2, hS2, hXI, hYI2, hmd, R_y hR (hp2.2.2.2.1 1 (by decide)) (hp2.2.2.2.1 2 (by decide)) (hp2.2.2.2.1 11 (by decide))⟩ hl
  refine lv_aload_n hx hb dL_508 rfl (lv_at hl 2 rfl) ?_
  refine lv_aload_n hx hb dL_509 rfl (lv_at hl 3 rfl) ?_
  refine lv_iload_n hx hb dL_510 rfl (lv_at hl 0 rfl) ?_
  refine lv_iconst (v := iI (1)) hx hb dL_511 (by decide) ?_
  refine lv_iadd hx hb dL_512 ?_
  refine x_top (y := iI (i + 1)) (iI_add _ _) ?_
  refine va_sld (i := iI (i + 1)) hx hb hX hbl hbA hS (iI_in (n := L) (by omega)) dL_513 ?_
  refine x_top ez1 ?_
  refine lv_aload_n hx hb dL_514 rfl (lv_at hl 3 rfl) ?_
  refine lv_iload_n hx hb dL_515 rfl (lv_at hl 0 rfl) ?_
  refine lv_iconst (v := iI (2)) hx hb dL_516 (by decide) ?_
  refine lv_iadd hx hb dL_517 ?_
  refine x_top (y := iI (i + 2)) (iI_add _ _) ?_
  refine va_sld (i := iI (i + 2)) hx hb hX hbl hbA hS (iI_in (n := L) (by omega)) dL_518 ?_
  refine x_top ez2 ?_
  refine x_vp (nn := 2) (As := [.int (iI (z1)), .int (iI (z2))]) (rest := []) hE (s_X8_clash_0 l D K ax mm N hNN v ar al hXI  (z1) (by omega) (z2) (by omega)) wPre_blind (wPre_now hK hNX hPX) (x_recv hK hPX 0 (by omega) (xG_8 rfl) rfl) rfl mw_702 mw_703 mw_704 mw_114 mw_705 (by decide +kernel) ⟨Nat.le_of_ble_eq_true rfl, Nat.le_of_ble_eq_true rfl⟩ hl.1 rfl (Nat.le_of_ble_eq_true rfl) hcc dL_519 (fun r1 hr1 => ?_)
  exact cont ax mm N cells slots v ar al H locs ls r1 hNX hAX hdis hPX hPY hS hXI hmd hR hl
theorem dL_541 : decode code 541 = .ok (.aload_n 1, 1) := by decide +kernel
theorem dL_542 : decode code 542 = .ok (.aload_n 0, 1) := by decide +kernel
theorem dL_543 : decode code 543 = .ok (.iload_n 3, 1) := by decide +kernel
theorem dL_544 : decode code 544 = .ok (.iconst 1, 1) := by decide +kernel
theorem dL_545 : decode code 545 = .ok (.iadd, 1) := by decide +kernel
theorem dL_546 : decode code 546 = .ok (.iaload, 1) := by decide +kernel
theorem dL_547 : decode code 547 = .ok (.invokevirtual 45, 3) := by decide +kernel
theorem dL_550 : decode code 550 = .ok (.pop, 1) := by decide +kernel
theorem dL_551 : decode code 551 = .ok (.aload_n 2, 1) := by decide +kernel
theorem dL_552 : decode code 552 = .ok (.aload_n 0, 1) := by decide +kernel
theorem dL_553 : decode code 553 = .ok (.iload_n 3, 1) := by decide +kernel
theorem dL_554 : decode code 554 = .ok (.iconst 1, 1) := by decide +kernel
theorem dL_555 : decode code 555 = .ok (.iadd, 1) := by decide +kernel
theorem dL_556 : decode code 556 = .ok (.iaload, 1) := by decide +kernel
theorem dL_557 : decode code 557 = .ok (.invokevirtual 48, 3) := by decide +kernel
theorem dL_560 : decode code 560 = .ok (.pop, 1) := by decide +kernel
theorem dL_561 : decode code 561 = .ok (.goto 1393, 3) := by decide +kernel
set_option maxHeartbeats 4000000 in
set_option maxRecDepth 100000 in
theorem lc_7 {p : Program} {l : Launch} {e : Env} {s : State} {m : MethodId} {below : List Frame} {meth : Method} {c : Code} {b L : Nat} {xs : Nat → Int32} {D : va_G} {K : Nat → ClassId} {ay ax : Nat → Nat} {mm : Option Nat} {N cells slots : Nat} {v ar : sI} {al : sL} {v' ar' : sI} {al' : sL} {H : Heap} {locs : List Loc} {ls : Array Slot} {tk tv : Nat → Nat} {i : Int} (hi : 0 ≤ i ∧ i + 6 ≤ (L : Int) ∧ L ≤ 3072) (F : lawF p s m meth c b L xs D K tk tv) (C : lawI s D K ay ax mm N cells slots v ar al v' ar' al' H locs) (hl : lv_has ls 4 [(3, .int (iI i)), (2, .ref (ay 0)), (1, .ref (ax 0)), (0, .ref b)]) (kk : lawK p l e s m below meth c b D K ay i) : W p l e room_1 s m #[Value.ref b] below meth c H locs cells slots (lw_Z below #[Value.ref b] s) (F0 m 541 ls []) := by
  obtain ⟨C0, hE, hK, hT, hTR⟩ := F
  obtain ⟨hx, hb, hr, hml, hown, hts, hX, hbl, hlocks, hgv⟩ := id C0
  have hbA : ¬ lawA s b := Nat.not_le.mpr hbl
  obtain ⟨hNX, hNY, hAX, hAY, hdis, hPX, hPY, hS, hXI, hYI, hmd, hR⟩ := C
  have hcc := lawM_c hmd
  have hNN := lawM_N hmd
  obtain ⟨z1, hz1, ez1⟩ := iI_of (xs (iI (i + 1)).toNatClampNeg)
  have cont : ∀ (ax : Nat → Nat) (mm : Option Nat) (N cells slots : Nat) (v ar : sI) (al : sL) (H : Heap) (locs : List Loc) (ls : Array Slot) (r : Int32), apart ax N → (∀ i, i < N → lawA s (ax i)) → (∀ i j, i < N → j < 21 → ax i ≠ ay j) → va_P D xcl (wW ax (xG ax K mm) N v ar al) H → va_P D xcl (wW ay (yG ay K) 21 v' ar' al') H → va_S (lawA s) s.heap H locs → XI v → lawM ax mm N cells slots → lawR v ar al v' ar' al' → lv_has ls 4 [(3, .int (iI i)), (2, .ref (ay 0)), (1, .ref (ax 0)), (0, .ref b)] → W p l e room_1 s m #[Value.ref b] below meth c H locs cells slots (lw_Z below #[Value.ref b] s) (F0 m 550 ls [.int r]) := by
    intro ax mm N cells slots v ar al H locs ls r hNX hAX hdis hPX hPY hS hXI hmd hR hl
    have hcc := lawM_c hmd
    refine lv_pop hx hb dL_550 rfl ?_
    refine lv_aload_n hx hb dL_551 rfl (lv_at hl 1 rfl) ?_
    refine lv_aload_n hx hb dL_552 rfl (lv_at hl 3 rfl) ?_
    refine lv_iload_n hx hb dL_553 rfl (lv_at hl 0 rfl) ?_
    refine lv_iconst (v := iI (1)) hx hb dL_554 (by decide) ?_
    refine lv_iadd hx hb dL_555 ?_
    refine x_top (y := iI (i + 1)) (iI_add _ _) ?_
    refine va_sld (i := iI (i + 1)) hx hb hX hbl hbA hS (iI_in (n := L) (by omega)) dL_556 ?_
    refine x_top ez1 ?_
    refine l_viG (nn := 1) (As := [.int (iI (z1))]) (rest := []) hE hS hAY (s_X9_behind l D K ay v' ar' al' hYI  (z1) (by omega)) wPre_blind (wPre_now hK hNY hPY) (x_recv hK hPY 0 (by decide) (yG_9 rfl) rfl) rfl mw_1675 mw_1676 mw_1677 mw_123 mw_1678 (by decide +kernel) ⟨Nat.le_of_ble_eq_true rfl, Nat.le_of_ble_eq_true rfl⟩ hl.1 rfl (Nat.le_of_ble_eq_true rfl) hcc dL_557 (fun r2 v2 ar2 al2 H2 locs2 hp2 hPY2 hk2 hS2 => ?_)
    have hYI2 : YI v2 ar2 := hp2.2.1
    have hPX2 := w_keep hPX (fun i j hi hj e => hdis j i hj hi e.symm) hk2
    refine lv_pop hx hb dL_560 rfl ?_
    refine lv_goto (tgt := 1954) hx hb dL_561 (by decide) ?_
    exact kk ax mm N cells slots v ar al v2 ar2 al2 H2 locs2 ls ⟨hNX, hNY, hAX, hAY, hdis, hPX2, hPY2, hS2, hXI, hYI2, hmd, R_y hR (hp2.2.2.2.1 1 (by decide)) (hp2.2.2.2.1 2 (by decide)) (hp2.2.2.2.1 11 (by decide))⟩ hl
  refine lv_aload_n hx hb dL_541 rfl (lv_at hl 2 rfl) ?_
  refine lv_aload_n hx hb dL_542 rfl (lv_at hl 3 rfl) ?_
  refine lv_iload_n hx hb dL_543 rfl (lv_at hl 0 rfl) ?_
  refine lv_iconst (v := iI (1)) hx hb dL_544 (by decide) ?_
  refine lv_iadd hx hb dL_545 ?_
  refine x_top (y := iI (i + 1)) (iI_add _ _) ?_
  refine va_sld (i := iI (i + 1)) hx hb hX hbl hbA hS (iI_in (n := L) (by omega)) dL_546 ?_
  refine x_top ez1 ?_
  refine x_vp (nn := 1) (As := [.int (iI (z1))]) (rest := []) hE (s_X8_behind_0 l D K ax mm N hNN v ar al hXI  (z1) (by omega)) wPre_blind (wPre_now hK hNX hPX) (x_recv hK hPX 0 (by omega) (xG_8 rfl) rfl) rfl mw_706 mw_707 mw_708 mw_114 mw_709 (by decide +kernel) ⟨Nat.le_of_ble_eq_true rfl, Nat.le_of_ble_eq_true rfl⟩ hl.1 rfl (Nat.le_of_ble_eq_true rfl) hcc dL_547 (fun r1 hr1 => ?_)
  exact cont ax mm N cells slots v ar al H locs ls r1 hNX hAX hdis hPX hPY hS hXI hmd hR hl
theorem dL_564 : decode code 564 = .ok (.aload_n 1, 1) := by decide +kernel
theorem dL_565 : decode code 565 = .ok (.aload_n 0, 1) := by decide +kernel
theorem dL_566 : decode code 566 = .ok (.iload_n 3, 1) := by decide +kernel
theorem dL_567 : decode code 567 = .ok (.iconst 1, 1) := by decide +kernel
theorem dL_568 : decode code 568 = .ok (.iadd, 1) := by decide +kernel
theorem dL_569 : decode code 569 = .ok (.iaload, 1) := by decide +kernel
theorem dL_570 : decode code 570 = .ok (.invokevirtual 49, 3) := by decide +kernel
theorem dL_573 : decode code 573 = .ok (.pop, 1) := by decide +kernel
theorem dL_574 : decode code 574 = .ok (.aload_n 2, 1) := by decide +kernel
theorem dL_575 : decode code 575 = .ok (.aload_n 0, 1) := by decide +kernel
theorem dL_576 : decode code 576 = .ok (.iload_n 3, 1) := by decide +kernel
theorem dL_577 : decode code 577 = .ok (.iconst 1, 1) := by decide +kernel
theorem dL_578 : decode code 578 = .ok (.iadd, 1) := by decide +kernel
theorem dL_579 : decode code 579 = .ok (.iaload, 1) := by decide +kernel
theorem dL_580 : decode code 580 = .ok (.invokevirtual 52, 3) := by decide +kernel
theorem dL_583 : decode code 583 = .ok (.pop, 1) := by decide +kernel
theorem dL_584 : decode code 584 = .ok (.goto 1370, 3) := by decide +kernel
set_option maxHeartbeats 4000000 in
set_option maxRecDepth 100000 in
theorem lc_8 {p : Program} {l : Launch} {e : Env} {s : State} {m : MethodId} {below : List Frame} {meth : Method} {c : Code} {b L : Nat} {xs : Nat → Int32} {D : va_G} {K : Nat → ClassId} {ay ax : Nat → Nat} {mm : Option Nat} {N cells slots : Nat} {v ar : sI} {al : sL} {v' ar' : sI} {al' : sL} {H : Heap} {locs : List Loc} {ls : Array Slot} {tk tv : Nat → Nat} {i : Int} (hi : 0 ≤ i ∧ i + 6 ≤ (L : Int) ∧ L ≤ 3072) (F : lawF p s m meth c b L xs D K tk tv) (C : lawI s D K ay ax mm N cells slots v ar al v' ar' al' H locs) (hl : lv_has ls 4 [(3, .int (iI i)), (2, .ref (ay 0)), (1, .ref (ax 0)), (0, .ref b)]) (kk : lawK p l e s m below meth c b D K ay i) : W p l e room_1 s m #[Value.ref b] below meth c H locs cells slots (lw_Z below #[Value.ref b] s) (F0 m 564 ls []) := by
  obtain ⟨C0, hE, hK, hT, hTR⟩ := F
  obtain ⟨hx, hb, hr, hml, hown, hts, hX, hbl, hlocks, hgv⟩ := id C0
  have hbA : ¬ lawA s b := Nat.not_le.mpr hbl
  obtain ⟨hNX, hNY, hAX, hAY, hdis, hPX, hPY, hS, hXI, hYI, hmd, hR⟩ := C
  have hcc := lawM_c hmd
  have hNN := lawM_N hmd
  obtain ⟨z1, hz1, ez1⟩ := iI_of (xs (iI (i + 1)).toNatClampNeg)
  have cont : ∀ (ax : Nat → Nat) (mm : Option Nat) (N cells slots : Nat) (v ar : sI) (al : sL) (H : Heap) (locs : List Loc) (ls : Array Slot) (r : Int32), apart ax N → (∀ i, i < N → lawA s (ax i)) → (∀ i j, i < N → j < 21 → ax i ≠ ay j) → va_P D xcl (wW ax (xG ax K mm) N v ar al) H → va_P D xcl (wW ay (yG ay K) 21 v' ar' al') H → va_S (lawA s) s.heap H locs → XI v → lawM ax mm N cells slots → lawR v ar al v' ar' al' → lv_has ls 4 [(3, .int (iI i)), (2, .ref (ay 0)), (1, .ref (ax 0)), (0, .ref b)] → W p l e room_1 s m #[Value.ref b] below meth c H locs cells slots (lw_Z below #[Value.ref b] s) (F0 m 573 ls [.int r]) := by
    intro ax mm N cells slots v ar al H locs ls r hNX hAX hdis hPX hPY hS hXI hmd hR hl
    have hcc := lawM_c hmd
    refine lv_pop hx hb dL_573 rfl ?_
    refine lv_aload_n hx hb dL_574 rfl (lv_at hl 1 rfl) ?_
    refine lv_aload_n hx hb dL_575 rfl (lv_at hl 3 rfl) ?_
    refine lv_iload_n hx hb dL_576 rfl (lv_at hl 0 rfl) ?_
    refine lv_iconst (v := iI (1)) hx hb dL_577 (by decide) ?_
    refine lv_iadd hx hb dL_578 ?_
    refine x_top (y := iI (i + 1)) (iI_add _ _) ?_
    refine va_sld (i := iI (i + 1)) hx hb hX hbl hbA hS (iI_in (n := L) (by omega)) dL_579 ?_
    refine x_top ez1 ?_
    refine l_viG (nn := 1) (As := [.int (iI (z1))]) (rest := []) hE hS hAY (s_X9_ahead l D K ay v' ar' al' hYI  (z1) (by omega)) wPre_blind (wPre_now hK hNY hPY) (x_recv hK hPY 0 (by decide) (yG_9 rfl) rfl) rfl mw_1679 mw_1680 mw_1681 mw_123 mw_1682 (by decide +kernel) ⟨Nat.le_of_ble_eq_true rfl, Nat.le_of_ble_eq_true rfl⟩ hl.1 rfl (Nat.le_of_ble_eq_true rfl) hcc dL_580 (fun r2 v2 ar2 al2 H2 locs2 hp2 hPY2 hk2 hS2 => ?_)
    have hYI2 : YI v2 ar2 := hp2.2.1
    have hPX2 := w_keep hPX (fun i j hi hj e => hdis j i hj hi e.symm) hk2
    refine lv_pop hx hb dL_583 rfl ?_
    refine lv_goto (tgt := 1954) hx hb dL_584 (by decide) ?_
    exact kk ax mm N cells slots v ar al v2 ar2 al2 H2 locs2 ls ⟨hNX, hNY, hAX, hAY, hdis, hPX2, hPY2, hS2, hXI, hYI2, hmd, R_y hR (hp2.2.2.2.1 1 (by decide)) (hp2.2.2.2.1 2 (by decide)) (hp2.2.2.2.1 11 (by decide))⟩ hl
  refine lv_aload_n hx hb dL_564 rfl (lv_at hl 2 rfl) ?_
  refine lv_aload_n hx hb dL_565 rfl (lv_at hl 3 rfl) ?_
  refine lv_iload_n hx hb dL_566 rfl (lv_at hl 0 rfl) ?_
  refine lv_iconst (v := iI (1)) hx hb dL_567 (by decide) ?_
  refine lv_iadd hx hb dL_568 ?_
  refine x_top (y := iI (i + 1)) (iI_add _ _) ?_
  refine va_sld (i := iI (i + 1)) hx hb hX hbl hbA hS (iI_in (n := L) (by omega)) dL_569 ?_
  refine x_top ez1 ?_
  refine x_vp (nn := 1) (As := [.int (iI (z1))]) (rest := []) hE (s_X8_ahead_0 l D K ax mm N hNN v ar al hXI  (z1) (by omega)) wPre_blind (wPre_now hK hNX hPX) (x_recv hK hPX 0 (by omega) (xG_8 rfl) rfl) rfl mw_710 mw_711 mw_712 mw_114 mw_713 (by decide +kernel) ⟨Nat.le_of_ble_eq_true rfl, Nat.le_of_ble_eq_true rfl⟩ hl.1 rfl (Nat.le_of_ble_eq_true rfl) hcc dL_570 (fun r1 hr1 => ?_)
  exact cont ax mm N cells slots v ar al H locs ls r1 hNX hAX hdis hPX hPY hS hXI hmd hR hl
