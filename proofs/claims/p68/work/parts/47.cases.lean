theorem dL_1472 : decode code 1472 = .ok (.aload_n 1, 1) := by decide +kernel
theorem dL_1473 : decode code 1473 = .ok (.aload_n 0, 1) := by decide +kernel
theorem dL_1474 : decode code 1474 = .ok (.iload_n 3, 1) := by decide +kernel
theorem dL_1475 : decode code 1475 = .ok (.iconst 1, 1) := by decide +kernel
theorem dL_1476 : decode code 1476 = .ok (.iadd, 1) := by decide +kernel
theorem dL_1477 : decode code 1477 = .ok (.iaload, 1) := by decide +kernel
theorem dL_1478 : decode code 1478 = .ok (.invokevirtual 233, 3) := by decide +kernel
theorem dL_1481 : decode code 1481 = .ok (.pop, 1) := by decide +kernel
theorem dL_1482 : decode code 1482 = .ok (.aload_n 2, 1) := by decide +kernel
theorem dL_1483 : decode code 1483 = .ok (.aload_n 0, 1) := by decide +kernel
theorem dL_1484 : decode code 1484 = .ok (.iload_n 3, 1) := by decide +kernel
theorem dL_1485 : decode code 1485 = .ok (.iconst 1, 1) := by decide +kernel
theorem dL_1486 : decode code 1486 = .ok (.iadd, 1) := by decide +kernel
theorem dL_1487 : decode code 1487 = .ok (.iaload, 1) := by decide +kernel
theorem dL_1488 : decode code 1488 = .ok (.invokevirtual 236, 3) := by decide +kernel
theorem dL_1491 : decode code 1491 = .ok (.pop, 1) := by decide +kernel
theorem dL_1492 : decode code 1492 = .ok (.goto 462, 3) := by decide +kernel
set_option maxHeartbeats 4000000 in
set_option maxRecDepth 100000 in
theorem lc_54 {p : Program} {l : Launch} {e : Env} {s : State} {m : MethodId} {below : List Frame} {meth : Method} {c : Code} {b L : Nat} {xs : Nat → Int32} {D : va_G} {K : Nat → ClassId} {ay ax : Nat → Nat} {mm : Option Nat} {N cells slots : Nat} {v ar : sI} {al : sL} {v' ar' : sI} {al' : sL} {H : Heap} {locs : List Loc} {ls : Array Slot} {tk tv : Nat → Nat} {i : Int} (hi : 0 ≤ i ∧ i + 6 ≤ (L : Int) ∧ L ≤ 3072) (F : lawF p s m meth c b L xs D K tk tv) (C : lawI s D K ay ax mm N cells slots v ar al v' ar' al' H locs) (hl : lv_has ls 4 [(3, .int (iI i)), (2, .ref (ay 0)), (1, .ref (ax 0)), (0, .ref b)]) (kk : lawK p l e s m below meth c b D K ay i) : W p l e room_1 s m #[Value.ref b] below meth c H locs cells slots (lw_Z below #[Value.ref b] s) (F0 m 1472 ls []) := by
  obtain ⟨C0, hE, hK, hT, hTR⟩ := F
  obtain ⟨hx, hb, hr, hml, hown, hts, hX, hbl, hlocks, hgv⟩ := id C0
  have hbA : ¬ lawA s b := Nat.not_le.mpr hbl
  obtain ⟨hNX, hNY, hAX, hAY, hdis, hPX, hPY, hS, hXI, hYI, hmd, hR⟩ := C
  have hcc := lawM_c hmd
  have hNN := lawM_N hmd
  obtain ⟨z1, hz1, ez1⟩ := iI_of (xs (iI (i + 1)).toNatClampNeg)
  have cont : ∀ (ax : Nat → Nat) (mm : Option Nat) (N cells slots : Nat) (v ar : sI) (al : sL) (H : Heap) (locs : List Loc) (ls : Array Slot) (r : Int32), apart ax N → (∀ i, i < N → lawA s (ax i)) → (∀ i j, i < N → j < 21 → ax i ≠ ay j) → va_P D xcl (wW ax (xG ax K mm) N v ar al) H → va_P D xcl (wW ay (yG ay K) 21 v' ar' al') H → va_S (lawA s) s.heap H locs → XI v → lawM ax mm N cells slots → lawR v ar al v' ar' al' → lv_has ls 4 [(3, .int (iI i)), (2, .ref (ay 0)), (1, .ref (ax 0)), (0, .ref b)] → W p l e room_1 s m #[Value.ref b] below meth c H locs cells slots (lw_Z below #[Value.ref b] s) (F0 m 1481 ls [.int r]) := by
    intro ax mm N cells slots v ar al H locs ls r hNX hAX hdis hPX hPY hS hXI hmd hR hl
    have hcc := lawM_c hmd
    refine lv_pop hx hb dL_1481 rfl ?_
    refine lv_aload_n hx hb dL_1482 rfl (lv_at hl 1 rfl) ?_
    refine lv_aload_n hx hb dL_1483 rfl (lv_at hl 3 rfl) ?_
    refine lv_iload_n hx hb dL_1484 rfl (lv_at hl 0 rfl) ?_
    refine lv_iconst (v := iI (1)) hx hb dL_1485 (by decide) ?_
    refine lv_iadd hx hb dL_1486 ?_
    refine x_top (y := iI (i + 1)) (iI_add _ _) ?_
    refine va_sld (i := iI (i + 1)) hx hb hX hbl hbA hS (iI_in (n := L) (by omega)) dL_1487 ?_
    refine x_top ez1 ?_
    refine l_viG (nn := 1) (As := [.int (iI (z1))]) (rest := []) hE hS hAY (s_X9_fits l D K ay v' ar' al' hYI  (z1) (by omega)) wPre_blind (wPre_now hK hNY hPY) (x_recv hK hPY 0 (by decide) (yG_9 rfl) rfl) rfl mw_2002 mw_2003 mw_2004 mw_123 mw_2005 (by decide +kernel) ⟨Nat.le_of_ble_eq_true rfl, Nat.le_of_ble_eq_true rfl⟩ hl.1 rfl (Nat.le_of_ble_eq_true rfl) hcc dL_1488 (fun r2 v2 ar2 al2 H2 locs2 hp2 hPY2 hk2 hS2 => ?_)
    have hYI2 : YI v2 ar2 := hp2.2.1
    have hPX2 := w_keep hPX (fun i j hi hj e => hdis j i hj hi e.symm) hk2
    refine lv_pop hx hb dL_1491 rfl ?_
    refine lv_goto (tgt := 1954) hx hb dL_1492 (by decide) ?_
    exact kk ax mm N cells slots v ar al v2 ar2 al2 H2 locs2 ls ⟨hNX, hNY, hAX, hAY, hdis, hPX2, hPY2, hS2, hXI, hYI2, hmd, R_y hR (hp2.2.2.2.1 1 (by decide)) (hp2.2.2.2.1 2 (by decide)) (hp2.2.2.2.1 11 (by decide))⟩ hl
  refine lv_aload_n hx hb dL_1472 rfl (lv_at hl 2 rfl) ?_
  refine lv_aload_n hx hb dL_1473 rfl (lv_at hl 3 rfl) ?_
  refine lv_iload_n hx hb dL_1474 rfl (lv_at hl 0 rfl) ?_
  refine lv_iconst (v := iI (1)) hx hb dL_1475 (by decide) ?_
  refine lv_iadd hx hb dL_1476 ?_
  refine x_top (y := iI (i + 1)) (iI_add _ _) ?_
  refine va_sld (i := iI (i + 1)) hx hb hX hbl hbA hS (iI_in (n := L) (by omega)) dL_1477 ?_
  refine x_top ez1 ?_
  refine l_viG (nn := 1) (As := [.int (iI (z1))]) (rest := []) hE hS hAX (s_X8_fits_0 l D K ax mm N hNN v ar al hXI   (z1) (by omega)) wPre_blind (wPre_now hK hNX hPX) (x_recv hK hPX 0 (by omega) (xG_8 rfl) rfl) rfl mw_1205 mw_1206 mw_1207 mw_114 mw_1208 (by decide +kernel) ⟨Nat.le_of_ble_eq_true rfl, Nat.le_of_ble_eq_true rfl⟩ hl.1 rfl (Nat.le_of_ble_eq_true rfl) hcc dL_1478 (fun r1 v1 ar1 al1 H1 locs1 hp1 hPX1 hk1 hS1 => ?_)
  exact cont ax mm N cells slots v1 ar1 al1 H1 locs1 ls r1 hNX hAX hdis hPX1 (w_keep hPY hdis hk1) hS1 hp1.2.1 hmd (R_x hR (fun i j h => hp1.2.2 i j (fl_out (by decide) h))) hl
theorem dL_1495 : decode code 1495 = .ok (.aload_n 1, 1) := by decide +kernel
theorem dL_1496 : decode code 1496 = .ok (.aload_n 0, 1) := by decide +kernel
theorem dL_1497 : decode code 1497 = .ok (.iload_n 3, 1) := by decide +kernel
theorem dL_1498 : decode code 1498 = .ok (.iconst 1, 1) := by decide +kernel
theorem dL_1499 : decode code 1499 = .ok (.iadd, 1) := by decide +kernel
theorem dL_1500 : decode code 1500 = .ok (.iaload, 1) := by decide +kernel
theorem dL_1501 : decode code 1501 = .ok (.invokevirtual 237, 3) := by decide +kernel
theorem dL_1504 : decode code 1504 = .ok (.pop, 1) := by decide +kernel
theorem dL_1505 : decode code 1505 = .ok (.aload_n 2, 1) := by decide +kernel
theorem dL_1506 : decode code 1506 = .ok (.aload_n 0, 1) := by decide +kernel
theorem dL_1507 : decode code 1507 = .ok (.iload_n 3, 1) := by decide +kernel
theorem dL_1508 : decode code 1508 = .ok (.iconst 1, 1) := by decide +kernel
theorem dL_1509 : decode code 1509 = .ok (.iadd, 1) := by decide +kernel
theorem dL_1510 : decode code 1510 = .ok (.iaload, 1) := by decide +kernel
theorem dL_1511 : decode code 1511 = .ok (.invokevirtual 240, 3) := by decide +kernel
theorem dL_1514 : decode code 1514 = .ok (.pop, 1) := by decide +kernel
theorem dL_1515 : decode code 1515 = .ok (.goto 439, 3) := by decide +kernel
set_option maxHeartbeats 4000000 in
set_option maxRecDepth 100000 in
theorem lc_55 {p : Program} {l : Launch} {e : Env} {s : State} {m : MethodId} {below : List Frame} {meth : Method} {c : Code} {b L : Nat} {xs : Nat → Int32} {D : va_G} {K : Nat → ClassId} {ay ax : Nat → Nat} {mm : Option Nat} {N cells slots : Nat} {v ar : sI} {al : sL} {v' ar' : sI} {al' : sL} {H : Heap} {locs : List Loc} {ls : Array Slot} {tk tv : Nat → Nat} {i : Int} (hi : 0 ≤ i ∧ i + 6 ≤ (L : Int) ∧ L ≤ 3072) (F : lawF p s m meth c b L xs D K tk tv) (C : lawI s D K ay ax mm N cells slots v ar al v' ar' al' H locs) (hl : lv_has ls 4 [(3, .int (iI i)), (2, .ref (ay 0)), (1, .ref (ax 0)), (0, .ref b)]) (kk : lawK p l e s m below meth c b D K ay i) : W p l e room_1 s m #[Value.ref b] below meth c H locs cells slots (lw_Z below #[Value.ref b] s) (F0 m 1495 ls []) := by
  obtain ⟨C0, hE, hK, hT, hTR⟩ := F
  obtain ⟨hx, hb, hr, hml, hown, hts, hX, hbl, hlocks, hgv⟩ := id C0
  have hbA : ¬ lawA s b := Nat.not_le.mpr hbl
  obtain ⟨hNX, hNY, hAX, hAY, hdis, hPX, hPY, hS, hXI, hYI, hmd, hR⟩ := C
  have hcc := lawM_c hmd
  have hNN := lawM_N hmd
  obtain ⟨z1, hz1, ez1⟩ := iI_of (xs (iI (i + 1)).toNatClampNeg)
  have cont : ∀ (ax : Nat → Nat) (mm : Option Nat) (N cells slots : Nat) (v ar : sI) (al : sL) (H : Heap) (locs : List Loc) (ls : Array Slot) (r : Int32), apart ax N → (∀ i, i < N → lawA s (ax i)) → (∀ i j, i < N → j < 21 → ax i ≠ ay j) → va_P D xcl (wW ax (xG ax K mm) N v ar al) H → va_P D xcl (wW ay (yG ay K) 21 v' ar' al') H → va_S (lawA s) s.heap H locs → XI v → lawM ax mm N cells slots → lawR v ar al v' ar' al' → lv_has ls 4 [(3, .int (iI i)), (2, .ref (ay 0)), (1, .ref (ax 0)), (0, .ref b)] → W p l e room_1 s m #[Value.ref b] below meth c H locs cells slots (lw_Z below #[Value.ref b] s) (F0 m 1504 ls [.int r]) := by
    intro ax mm N cells slots v ar al H locs ls r hNX hAX hdis hPX hPY hS hXI hmd hR hl
    have hcc := lawM_c hmd
    refine lv_pop hx hb dL_1504 rfl ?_
    refine lv_aload_n hx hb dL_1505 rfl (lv_at hl 1 rfl) ?_
    refine lv_aload_n hx hb dL_1506 rfl (lv_at hl 3 rfl) ?_
    refine lv_iload_n hx hb dL_1507 rfl (lv_at hl 0 rfl) ?_
    refine lv_iconst (v := iI (1)) hx hb dL_1508 (by decide) ?_
    refine lv_iadd hx hb dL_1509 ?_
    refine x_top (y := iI (i + 1)) (iI_add _ _) ?_
    refine va_sld (i := iI (i + 1)) hx hb hX hbl hbA hS (iI_in (n := L) (by omega)) dL_1510 ?_
    refine x_top ez1 ?_
    refine l_viG (nn := 1) (As := [.int (iI (z1))]) (rest := []) hE hS hAY (s_X9_liars l D K ay v' ar' al' hYI  (z1) (by omega)) wPre_blind (wPre_now hK hNY hPY) (x_recv hK hPY 0 (by decide) (yG_9 rfl) rfl) rfl mw_2006 mw_2007 mw_2008 mw_123 mw_2009 (by decide +kernel) ⟨Nat.le_of_ble_eq_true rfl, Nat.le_of_ble_eq_true rfl⟩ hl.1 rfl (Nat.le_of_ble_eq_true rfl) hcc dL_1511 (fun r2 v2 ar2 al2 H2 locs2 hp2 hPY2 hk2 hS2 => ?_)
    have hYI2 : YI v2 ar2 := hp2.2.1
    have hPX2 := w_keep hPX (fun i j hi hj e => hdis j i hj hi e.symm) hk2
    refine lv_pop hx hb dL_1514 rfl ?_
    refine lv_goto (tgt := 1954) hx hb dL_1515 (by decide) ?_
    exact kk ax mm N cells slots v ar al v2 ar2 al2 H2 locs2 ls ⟨hNX, hNY, hAX, hAY, hdis, hPX2, hPY2, hS2, hXI, hYI2, hmd, R_y hR (hp2.2.2.2.1 1 (by decide)) (hp2.2.2.2.1 2 (by decide)) (hp2.2.2.2.1 11 (by decide))⟩ hl
  refine lv_aload_n hx hb dL_1495 rfl (lv_at hl 2 rfl) ?_
  refine lv_aload_n hx hb dL_1496 rfl (lv_at hl 3 rfl) ?_
  refine lv_iload_n hx hb dL_1497 rfl (lv_at hl 0 rfl) ?_
  refine lv_iconst (v := iI (1)) hx hb dL_1498 (by decide) ?_
  refine lv_iadd hx hb dL_1499 ?_
  refine x_top (y := iI (i + 1)) (iI_add _ _) ?_
  refine va_sld (i := iI (i + 1)) hx hb hX hbl hbA hS (iI_in (n := L) (by omega)) dL_1500 ?_
  refine x_top ez1 ?_
  refine l_viG (nn := 1) (As := [.int (iI (z1))]) (rest := []) hE hS hAX (s_X8_liars_0 l D K ax mm N hNN v ar al hXI   (z1) (by omega)) wPre_blind (wPre_now hK hNX hPX) (x_recv hK hPX 0 (by omega) (xG_8 rfl) rfl) rfl mw_1213 mw_1214 mw_1215 mw_114 mw_1216 (by decide +kernel) ⟨Nat.le_of_ble_eq_true rfl, Nat.le_of_ble_eq_true rfl⟩ hl.1 rfl (Nat.le_of_ble_eq_true rfl) hcc dL_1501 (fun r1 v1 ar1 al1 H1 locs1 hp1 hPX1 hk1 hS1 => ?_)
  exact cont ax mm N cells slots v1 ar1 al1 H1 locs1 ls r1 hNX hAX hdis hPX1 (w_keep hPY hdis hk1) hS1 hp1.2.1 hmd (R_x hR (fun i j h => hp1.2.2 i j (fl_out (by decide) h))) hl
theorem dL_1518 : decode code 1518 = .ok (.aload_n 1, 1) := by decide +kernel
theorem dL_1519 : decode code 1519 = .ok (.aload_n 0, 1) := by decide +kernel
theorem dL_1520 : decode code 1520 = .ok (.iload_n 3, 1) := by decide +kernel
theorem dL_1521 : decode code 1521 = .ok (.iconst 1, 1) := by decide +kernel
theorem dL_1522 : decode code 1522 = .ok (.iadd, 1) := by decide +kernel
theorem dL_1523 : decode code 1523 = .ok (.iaload, 1) := by decide +kernel
theorem dL_1524 : decode code 1524 = .ok (.invokevirtual 241, 3) := by decide +kernel
theorem dL_1527 : decode code 1527 = .ok (.pop, 1) := by decide +kernel
theorem dL_1528 : decode code 1528 = .ok (.aload_n 2, 1) := by decide +kernel
theorem dL_1529 : decode code 1529 = .ok (.aload_n 0, 1) := by decide +kernel
theorem dL_1530 : decode code 1530 = .ok (.iload_n 3, 1) := by decide +kernel
theorem dL_1531 : decode code 1531 = .ok (.iconst 1, 1) := by decide +kernel
theorem dL_1532 : decode code 1532 = .ok (.iadd, 1) := by decide +kernel
theorem dL_1533 : decode code 1533 = .ok (.iaload, 1) := by decide +kernel
theorem dL_1534 : decode code 1534 = .ok (.invokevirtual 244, 3) := by decide +kernel
theorem dL_1537 : decode code 1537 = .ok (.pop, 1) := by decide +kernel
theorem dL_1538 : decode code 1538 = .ok (.goto 416, 3) := by decide +kernel
set_option maxHeartbeats 4000000 in
set_option maxRecDepth 100000 in
theorem lc_56 {p : Program} {l : Launch} {e : Env} {s : State} {m : MethodId} {below : List Frame} {meth : Method} {c : Code} {b L : Nat} {xs : Nat → Int32} {D : va_G} {K : Nat → ClassId} {ay ax : Nat → Nat} {mm : Option Nat} {N cells slots : Nat} {v ar : sI} {al : sL} {v' ar' : sI} {al' : sL} {H : Heap} {locs : List Loc} {ls : Array Slot} {tk tv : Nat → Nat} {i : Int} (hi : 0 ≤ i ∧ i + 6 ≤ (L : Int) ∧ L ≤ 3072) (F : lawF p s m meth c b L xs D K tk tv) (C : lawI s D K ay ax mm N cells slots v ar al v' ar' al' H locs) (hl : lv_has ls 4 [(3, .int (iI i)), (2, .ref (ay 0)), (1, .ref (ax 0)), (0, .ref b)]) (kk : lawK p l e s m below meth c b D K ay i) : W p l e room_1 s m #[Value.ref b] below meth c H locs cells slots (lw_Z below #[Value.ref b] s) (F0 m 1518 ls []) := by
  obtain ⟨C0, hE, hK, hT, hTR⟩ := F
  obtain ⟨hx, hb, hr, hml, hown, hts, hX, hbl, hlocks, hgv⟩ := id C0
  have hbA : ¬ lawA s b := Nat.not_le.mpr hbl
  obtain ⟨hNX, hNY, hAX, hAY, hdis, hPX, hPY, hS, hXI, hYI, hmd, hR⟩ := C
  have hcc := lawM_c hmd
  have hNN := lawM_N hmd
  obtain ⟨z1, hz1, ez1⟩ := iI_of (xs (iI (i + 1)).toNatClampNeg)
  have cont : ∀ (ax : Nat → Nat) (mm : Option Nat) (N cells slots : Nat) (v ar : sI) (al : sL) (H : Heap) (locs : List Loc) (ls : Array Slot) (r : Int32), apart ax N → (∀ i, i < N → lawA s (ax i)) → (∀ i j, i < N → j < 21 → ax i ≠ ay j) → va_P D xcl (wW ax (xG ax K mm) N v ar al) H → va_P D xcl (wW ay (yG ay K) 21 v' ar' al') H → va_S (lawA s) s.heap H locs → XI v → lawM ax mm N cells slots → lawR v ar al v' ar' al' → lv_has ls 4 [(3, .int (iI i)), (2, .ref (ay 0)), (1, .ref (ax 0)), (0, .ref b)] → W p l e room_1 s m #[Value.ref b] below meth c H locs cells slots (lw_Z below #[Value.ref b] s) (F0 m 1527 ls [.int r]) := by
    intro ax mm N cells slots v ar al H locs ls r hNX hAX hdis hPX hPY hS hXI hmd hR hl
    have hcc := lawM_c hmd
    refine lv_pop hx hb dL_1527 rfl ?_
    refine lv_aload_n hx hb dL_1528 rfl (lv_at hl 1 rfl) ?_
    refine lv_aload_n hx hb dL_1529 rfl (lv_at hl 3 rfl) ?_
    refine lv_iload_n hx hb dL_1530 rfl (lv_at hl 0 rfl) ?_
    refine lv_iconst (v := iI (1)) hx hb dL_1531 (by decide) ?_
    refine lv_iadd hx hb dL_1532 ?_
    refine x_top (y := iI (i + 1)) (iI_add _ _) ?_
    refine va_sld (i := iI (i + 1)) hx hb hX hbl hbA hS (iI_in (n := L) (by omega)) dL_1533 ?_
    refine x_top ez1 ?_
    refine l_viG (nn := 1) (As := [.int (iI (z1))]) (rest := []) hE hS hAY (s_X9_who l D K ay v' ar' al' hYI  (z1) (by omega)) wPre_blind (wPre_now hK hNY hPY) (x_recv hK hPY 0 (by decide) (yG_9 rfl) rfl) rfl mw_2017 mw_2018 mw_2019 mw_123 mw_2020 (by decide +kernel) ⟨Nat.le_of_ble_eq_true rfl, Nat.le_of_ble_eq_true rfl⟩ hl.1 rfl (Nat.le_of_ble_eq_true rfl) hcc dL_1534 (fun r2 v2 ar2 al2 H2 locs2 hp2 hPY2 hk2 hS2 => ?_)
    have hYI2 : YI v2 ar2 := hp2.2.1
    have hPX2 := w_keep hPX (fun i j hi hj e => hdis j i hj hi e.symm) hk2
    refine lv_pop hx hb dL_1537 rfl ?_
    refine lv_goto (tgt := 1954) hx hb dL_1538 (by decide) ?_
    exact kk ax mm N cells slots v ar al v2 ar2 al2 H2 locs2 ls ⟨hNX, hNY, hAX, hAY, hdis, hPX2, hPY2, hS2, hXI, hYI2, hmd, R_y hR (hp2.2.2.2.1 1 (by decide)) (hp2.2.2.2.1 2 (by decide)) (hp2.2.2.2.1 11 (by decide))⟩ hl
  refine lv_aload_n hx hb dL_1518 rfl (lv_at hl 2 rfl) ?_
  refine lv_aload_n hx hb dL_1519 rfl (lv_at hl 3 rfl) ?_
  refine lv_iload_n hx hb dL_1520 rfl (lv_at hl 0 rfl) ?_
  refine lv_iconst (v := iI (1)) hx hb dL_1521 (by decide) ?_
  refine lv_iadd hx hb dL_1522 ?_
  refine x_top (y := iI (i + 1)) (iI_add _ _) ?_
  refine va_sld (i := iI (i + 1)) hx hb hX hbl hbA hS (iI_in (n := L) (by omega)) dL_1523 ?_
  refine x_top ez1 ?_
  refine l_viG (nn := 1) (As := [.int (iI (z1))]) (rest := []) hE hS hAX (s_X8_who_0 l D K ax mm N hNN v ar al hXI   (z1) (by omega)) wPre_blind (wPre_now hK hNX hPX) (x_recv hK hPX 0 (by omega) (xG_8 rfl) rfl) rfl mw_1227 mw_1228 mw_1229 mw_114 mw_1230 (by decide +kernel) ⟨Nat.le_of_ble_eq_true rfl, Nat.le_of_ble_eq_true rfl⟩ hl.1 rfl (Nat.le_of_ble_eq_true rfl) hcc dL_1524 (fun r1 v1 ar1 al1 H1 locs1 hp1 hPX1 hk1 hS1 => ?_)
  exact cont ax mm N cells slots v1 ar1 al1 H1 locs1 ls r1 hNX hAX hdis hPX1 (w_keep hPY hdis hk1) hS1 hp1.2.1 hmd (R_x hR (fun i j h => hp1.2.2 i j (fl_out (by decide) h))) hl
theorem dL_1541 : decode code 1541 = .ok (.aload_n 1, 1) := by decide +kernel
theorem dL_1542 : decode code 1542 = .ok (.aload_n 0, 1) := by decide +kernel
theorem dL_1543 : decode code 1543 = .ok (.iload_n 3, 1) := by decide +kernel
theorem dL_1544 : decode code 1544 = .ok (.iconst 1, 1) := by decide +kernel
theorem dL_1545 : decode code 1545 = .ok (.iadd, 1) := by decide +kernel
theorem dL_1546 : decode code 1546 = .ok (.iaload, 1) := by decide +kernel
theorem dL_1547 : decode code 1547 = .ok (.aload_n 0, 1) := by decide +kernel
theorem dL_1548 : decode code 1548 = .ok (.iload_n 3, 1) := by decide +kernel
theorem dL_1549 : decode code 1549 = .ok (.iconst 2, 1) := by decide +kernel
theorem dL_1550 : decode code 1550 = .ok (.iadd, 1) := by decide +kernel
theorem dL_1551 : decode code 1551 = .ok (.iaload, 1) := by decide +kernel
theorem dL_1552 : decode code 1552 = .ok (.invokevirtual 245, 3) := by decide +kernel
theorem dL_1555 : decode code 1555 = .ok (.pop, 1) := by decide +kernel
theorem dL_1556 : decode code 1556 = .ok (.aload_n 2, 1) := by decide +kernel
theorem dL_1557 : decode code 1557 = .ok (.aload_n 0, 1) := by decide +kernel
theorem dL_1558 : decode code 1558 = .ok (.iload_n 3, 1) := by decide +kernel
theorem dL_1559 : decode code 1559 = .ok (.iconst 1, 1) := by decide +kernel
theorem dL_1560 : decode code 1560 = .ok (.iadd, 1) := by decide +kernel
theorem dL_1561 : decode code 1561 = .ok (.iaload, 1) := by decide +kernel
theorem dL_1562 : decode code 1562 = .ok (.aload_n 0, 1) := by decide +kernel
theorem dL_1563 : decode code 1563 = .ok (.iload_n 3, 1) := by decide +kernel
theorem dL_1564 : decode code 1564 = .ok (.iconst 2, 1) := by decide +kernel
theorem dL_1565 : decode code 1565 = .ok (.iadd, 1) := by decide +kernel
theorem dL_1566 : decode code 1566 = .ok (.iaload, 1) := by decide +kernel
theorem dL_1567 : decode code 1567 = .ok (.invokevirtual 248, 3) := by decide +kernel
theorem dL_1570 : decode code 1570 = .ok (.pop, 1) := by decide +kernel
theorem dL_1571 : decode code 1571 = .ok (.goto 383, 3) := by decide +kernel
set_option maxHeartbeats 4000000 in
set_option maxRecDepth 100000 in
theorem lc_57 {p : Program} {l : Launch} {e : Env} {s : State} {m : MethodId} {below : List Frame} {meth : Method} {c : Code} {b L : Nat} {xs : Nat → Int32} {D : va_G} {K : Nat → ClassId} {ay ax : Nat → Nat} {mm : Option Nat} {N cells slots : Nat} {v ar : sI} {al : sL} {v' ar' : sI} {al' : sL} {H : Heap} {locs : List Loc} {ls : Array Slot} {tk tv : Nat → Nat} {i : Int} (hi : 0 ≤ i ∧ i + 6 ≤ (L : Int) ∧ L ≤ 3072) (F : lawF p s m meth c b L xs D K tk tv) (C : lawI s D K ay ax mm N cells slots v ar al v' ar' al' H locs) (hl : lv_has ls 4 [(3, .int (iI i)), (2, .ref (ay 0)), (1, .ref (ax 0)), (0, .ref b)]) (kk : lawK p l e s m below meth c b D K ay i) : W p l e room_1 s m #[Value.ref b] below meth c H locs cells slots (lw_Z below #[Value.ref b] s) (F0 m 1541 ls []) := by
  obtain ⟨C0, hE, hK, hT, hTR⟩ := F
  obtain ⟨hx, hb, hr, hml, hown, hts, hX, hbl, hlocks, hgv⟩ := id C0
  have hbA : ¬ lawA s b := Nat.not_le.mpr hbl
  obtain ⟨hNX, hNY, hAX, hAY, hdis, hPX, hPY, hS, hXI, hYI, hmd, hR⟩ := C
  have hcc := lawM_c hmd
  have hNN := lawM_N hmd
  obtain ⟨z1, hz1, ez1⟩ := iI_of (xs (iI (i + 1)).toNatClampNeg)
  obtain ⟨z2, hz2, ez2⟩ := iI_of (xs (iI (i + 2)).toNatClampNeg)
  have cont : ∀ (ax : Nat → Nat) (mm : Option Nat) (N cells slots : Nat) (v ar : sI) (al : sL) (H : Heap) (locs : List Loc) (ls : Array Slot) (r : Int32), apart ax N → (∀ i, i < N → lawA s (ax i)) → (∀ i j, i < N → j < 21 → ax i ≠ ay j) → va_P D xcl (wW ax (xG ax K mm) N v ar al) H → va_P D xcl (wW ay (yG ay K) 21 v' ar' al') H → va_S (lawA s) s.heap H locs → XI v → lawM ax mm N cells slots → lawR v ar al v' ar' al' → lv_has ls 4 [(3, .int (iI i)), (2, .ref (ay 0)), (1, .ref (ax 0)), (0, .ref b)] → W p l e room_1 s m #[Value.ref b] below meth c H locs cells slots (lw_Z below #[Value.ref b] s) (F0 m 1555 ls [.int r]) := by
    intro ax mm N cells slots v ar al H locs ls r hNX hAX hdis hPX hPY hS hXI hmd hR hl
    have hcc := lawM_c hmd
    refine lv_pop hx hb dL_1555 rfl ?_
    refine lv_aload_n hx hb dL_1556 rfl (lv_at hl 1 rfl) ?_
    refine lv_aload_n hx hb dL_1557 rfl (lv_at hl 3 rfl) ?_
    refine lv_iload_n hx hb dL_1558 rfl (lv_at hl 0 rfl) ?_
    refine lv_iconst (v := iI (1)) hx hb dL_1559 (by decide) ?_
    refine lv_iadd hx hb dL_1560 ?_
    refine x_top (y := iI (i + 1)) (iI_add _ _) ?_
    refine va_sld (i := iI (i + 1)) hx hb hX hbl hbA hS (iI_in (n := L) (by omega)) dL_1561 ?_
    refine x_top ez1 ?_
    refine lv_aload_n hx hb dL_1562 rfl (lv_at hl 3 rfl) ?_
    refine lv_iload_n hx hb dL_1563 rfl (lv_at hl 0 rfl) ?_
    refine lv_iconst (v := iI (2)) hx hb dL_1564 (by decide) ?_
    refine lv_iadd hx hb dL_1565 ?_
    refine x_top (y := iI (i + 2)) (iI_add _ _) ?_
    refine va_sld (i := iI (i + 2)) hx hb hX hbl hbA hS (iI_in (n := L) (by omega)) dL_1566 ?_
    refine x_top ez2 ?_
    refine l_viG (nn := 2) (As := [.int (iI (z1)), .int (iI (z2))]) (rest := []) hE hS hAY (s_X9_votes l D K ay v' ar' al' hYI  (z1) (by omega) (z2) (by omega)) wPre_blind (wPre_now hK hNY hPY) (x_recv hK hPY 0 (by decide) (yG_9 rfl) rfl) rfl mw_2021 mw_2022 mw_2023 mw_123 mw_2024 (by decide +kernel) ⟨Nat.le_of_ble_eq_true rfl, Nat.le_of_ble_eq_true rfl⟩ hl.1 rfl (Nat.le_of_ble_eq_true rfl) hcc dL_1567 (fun r2 v2 ar2 al2 H2 locs2 hp2 hPY2 hk2 hS2 => ?_)
    have hYI2 : YI v2 ar2 := hp2.2.1
    have hPX2 := w_keep hPX (fun i j hi hj e => hdis j i hj hi e.symm) hk2
    refine lv_pop hx hb dL_1570 rfl ?_
    refine lv_goto (tgt := 1954) hx hb dL_1571 (by decide) ?_
    exact kk ax mm N cells slots v ar al v2 ar2 al2 H2 locs2 ls ⟨hNX, hNY, hAX, hAY, hdis, hPX2, hPY2, hS2, hXI, hYI2, hmd, R_y hR (hp2.2.2.2.1 1 (by decide)) (hp2.2.2.2.1 2 (by decide)) (hp2.2.2.2.1 11 (by decide))⟩ hl
  refine lv_aload_n hx hb dL_1541 rfl (lv_at hl 2 rfl) ?_
  refine lv_aload_n hx hb dL_1542 rfl (lv_at hl 3 rfl) ?_
  refine lv_iload_n hx hb dL_1543 rfl (lv_at hl 0 rfl) ?_
  refine lv_iconst (v := iI (1)) hx hb dL_1544 (by decide) ?_
  refine lv_iadd hx hb dL_1545 ?_
  refine x_top (y := iI (i + 1)) (iI_add _ _) ?_
  refine va_sld (i := iI (i + 1)) hx hb hX hbl hbA hS (iI_in (n := L) (by omega)) dL_1546 ?_
  refine x_top ez1 ?_
  refine lv_aload_n hx hb dL_1547 rfl (lv_at hl 3 rfl) ?_
  refine lv_iload_n hx hb dL_1548 rfl (lv_at hl 0 rfl) ?_
  refine lv_iconst (v := iI (2)) hx hb dL_1549 (by decide) ?_
  refine lv_iadd hx hb dL_1550 ?_
  refine x_top (y := iI (i + 2)) (iI_add _ _) ?_
  refine va_sld (i := iI (i + 2)) hx hb hX hbl hbA hS (iI_in (n := L) (by omega)) dL_1551 ?_
  refine x_top ez2 ?_
  refine x_vp (nn := 2) (As := [.int (iI (z1)), .int (iI (z2))]) (rest := []) hE (s_X8_votes_0 l D K ax mm N hNN v ar al hXI  (z1) (by omega) (z2) (by omega)) wPre_blind (wPre_now hK hNX hPX) (x_recv hK hPX 0 (by omega) (xG_8 rfl) rfl) rfl mw_1231 mw_1232 mw_1233 mw_114 mw_1234 (by decide +kernel) ⟨Nat.le_of_ble_eq_true rfl, Nat.le_of_ble_eq_true rfl⟩ hl.1 rfl (Nat.le_of_ble_eq_true rfl) hcc dL_1552 (fun r1 hr1 => ?_)
  exact cont ax mm N cells slots v ar al H locs ls r1 hNX hAX hdis hPX hPY hS hXI hmd hR hl
theorem dL_1574 : decode code 1574 = .ok (.aload_n 1, 1) := by decide +kernel
theorem dL_1575 : decode code 1575 = .ok (.aload_n 0, 1) := by decide +kernel
theorem dL_1576 : decode code 1576 = .ok (.iload_n 3, 1) := by decide +kernel
theorem dL_1577 : decode code 1577 = .ok (.iconst 1, 1) := by decide +kernel
theorem dL_1578 : decode code 1578 = .ok (.iadd, 1) := by decide +kernel
theorem dL_1579 : decode code 1579 = .ok (.iaload, 1) := by decide +kernel
theorem dL_1580 : decode code 1580 = .ok (.aload_n 0, 1) := by decide +kernel
theorem dL_1581 : decode code 1581 = .ok (.iload_n 3, 1) := by decide +kernel
theorem dL_1582 : decode code 1582 = .ok (.iconst 2, 1) := by decide +kernel
theorem dL_1583 : decode code 1583 = .ok (.iadd, 1) := by decide +kernel
theorem dL_1584 : decode code 1584 = .ok (.iaload, 1) := by decide +kernel
theorem dL_1585 : decode code 1585 = .ok (.invokevirtual 249, 3) := by decide +kernel
theorem dL_1588 : decode code 1588 = .ok (.pop, 1) := by decide +kernel
theorem dL_1589 : decode code 1589 = .ok (.aload_n 2, 1) := by decide +kernel
theorem dL_1590 : decode code 1590 = .ok (.aload_n 0, 1) := by decide +kernel
theorem dL_1591 : decode code 1591 = .ok (.iload_n 3, 1) := by decide +kernel
theorem dL_1592 : decode code 1592 = .ok (.iconst 1, 1) := by decide +kernel
theorem dL_1593 : decode code 1593 = .ok (.iadd, 1) := by decide +kernel
theorem dL_1594 : decode code 1594 = .ok (.iaload, 1) := by decide +kernel
theorem dL_1595 : decode code 1595 = .ok (.aload_n 0, 1) := by decide +kernel
theorem dL_1596 : decode code 1596 = .ok (.iload_n 3, 1) := by decide +kernel
theorem dL_1597 : decode code 1597 = .ok (.iconst 2, 1) := by decide +kernel
theorem dL_1598 : decode code 1598 = .ok (.iadd, 1) := by decide +kernel
theorem dL_1599 : decode code 1599 = .ok (.iaload, 1) := by decide +kernel
theorem dL_1600 : decode code 1600 = .ok (.invokevirtual 252, 3) := by decide +kernel
theorem dL_1603 : decode code 1603 = .ok (.pop, 1) := by decide +kernel
theorem dL_1604 : decode code 1604 = .ok (.goto 350, 3) := by decide +kernel
set_option maxHeartbeats 4000000 in
set_option maxRecDepth 100000 in
theorem lc_58 {p : Program} {l : Launch} {e : Env} {s : State} {m : MethodId} {below : List Frame} {meth : Method} {c : Code} {b L : Nat} {xs : Nat → Int32} {D : va_G} {K : Nat → ClassId} {ay ax : Nat → Nat} {mm : Option Nat} {N cells slots : Nat} {v ar : sI} {al : sL} {v' ar' : sI} {al' : sL} {H : Heap} {locs : List Loc} {ls : Array Slot} {tk tv : Nat → Nat} {i : Int} (hi : 0 ≤ i ∧ i + 6 ≤ (L : Int) ∧ L ≤ 3072) (F : lawF p s m meth c b L xs D K tk tv) (C : lawI s D K ay ax mm N cells slots v ar al v' ar' al' H locs) (hl : lv_has ls 4 [(3, .int (iI i)), (2, .ref (ay 0)), (1, .ref (ax 0)), (0, .ref b)]) (kk : lawK p l e s m below meth c b D K ay i) : W p l e room_1 s m #[Value.ref b] below meth c H locs cells slots (lw_Z below #[Value.ref b] s) (F0 m 1574 ls []) := by
  obtain ⟨C0, hE, hK, hT, hTR⟩ := F
  obtain ⟨hx, hb, hr, hml, hown, hts, hX, hbl, hlocks, hgv⟩ := id C0
  have hbA : ¬ lawA s b := Nat.not_le.mpr hbl
  obtain ⟨hNX, hNY, hAX, hAY, hdis, hPX, hPY, hS, hXI, hYI, hmd, hR⟩ := C
  have hcc := lawM_c hmd
  have hNN := lawM_N hmd
  obtain ⟨z1, hz1, ez1⟩ := iI_of (xs (iI (i + 1)).toNatClampNeg)
  obtain ⟨z2, hz2, ez2⟩ := iI_of (xs (iI (i + 2)).toNatClampNeg)
  have cont : ∀ (ax : Nat → Nat) (mm : Option Nat) (N cells slots : Nat) (v ar : sI) (al : sL) (H : Heap) (locs : List Loc) (ls : Array Slot) (r : Int32), apart ax N → (∀ i, i < N → lawA s (ax i)) → (∀ i j, i < N → j < 21 → ax i ≠ ay j) → va_P D xcl (wW ax (xG ax K mm) N v ar al) H → va_P D xcl (wW ay (yG ay K) 21 v' ar' al') H → va_S (lawA s) s.heap H locs → XI v → lawM ax mm N cells slots → lawR v ar al v' ar' al' → lv_has ls 4 [(3, .int (iI i)), (2, .ref (ay 0)), (1, .ref (ax 0)), (0, .ref b)] → W p l e room_1 s m #[Value.ref b] below meth c H locs cells slots (lw_Z below #[Value.ref b] s) (F0 m 1588 ls [.int r]) := by
    intro ax mm N cells slots v ar al H locs ls r hNX hAX hdis hPX hPY hS hXI hmd hR hl
    have hcc := lawM_c hmd
    refine lv_pop hx hb dL_1588 rfl ?_
    refine lv_aload_n hx hb dL_1589 rfl (lv_at hl 1 rfl) ?_
    refine lv_aload_n hx hb dL_1590 rfl (lv_at hl 3 rfl) ?_
    refine lv_iload_n hx hb dL_1591 rfl (lv_at hl 0 rfl) ?_
    refine lv_iconst (v := iI (1)) hx hb dL_1592 (by decide) ?_
    refine lv_iadd hx hb dL_1593 ?_
    refine x_top (y := iI (i + 1)) (iI_add _ _) ?_
    refine va_sld (i := iI (i + 1)) hx hb hX hbl hbA hS (iI_in (n := L) (by omega)) dL_1594 ?_
    refine x_top ez1 ?_
    refine lv_aload_n hx hb dL_1595 rfl (lv_at hl 3 rfl) ?_
    refine lv_iload_n hx hb dL_1596 rfl (lv_at hl 0 rfl) ?_
    refine lv_iconst (v := iI (2)) hx hb dL_1597 (by decide) ?_
    refine lv_iadd hx hb dL_1598 ?_
    refine x_top (y := iI (i + 2)) (iI_add _ _) ?_
    refine va_sld (i := iI (i + 2)) hx hb hX hbl hbA hS (iI_in (n := L) (by omega)) dL_1599 ?_
    refine x_top ez2 ?_
    refine l_viG (nn := 2) (As := [.int (iI (z1)), .int (iI (z2))]) (rest := []) hE hS hAY (s_X9_taste l D K ay v' ar' al' hYI  (z1) (by omega) (z2) (by omega)) wPre_blind (wPre_now hK hNY hPY) (x_recv hK hPY 0 (by decide) (yG_9 rfl) rfl) rfl mw_2033 mw_2034 mw_2035 mw_123 mw_2036 (by decide +kernel) ⟨Nat.le_of_ble_eq_true rfl, Nat.le_of_ble_eq_true rfl⟩ hl.1 rfl (Nat.le_of_ble_eq_true rfl) hcc dL_1600 (fun r2 v2 ar2 al2 H2 locs2 hp2 hPY2 hk2 hS2 => ?_)
    have hYI2 : YI v2 ar2 := hp2.2.1
    have hPX2 := w_keep hPX (fun i j hi hj e => hdis j i hj hi e.symm) hk2
    refine lv_pop hx hb dL_1603 rfl ?_
    refine lv_goto (tgt := 1954) hx hb dL_1604 (by decide) ?_
    exact kk ax mm N cells slots v ar al v2 ar2 al2 H2 locs2 ls ⟨hNX, hNY, hAX, hAY, hdis, hPX2, hPY2, hS2, hXI, hYI2, hmd, R_y hR (hp2.2.2.2.1 1 (by decide)) (hp2.2.2.2.1 2 (by decide)) (hp2.2.2.2.1 11 (by decide))⟩ hl
  refine lv_aload_n hx hb dL_1574 rfl (lv_at hl 2 rfl) ?_
  refine lv_aload_n hx hb dL_1575 rfl (lv_at hl 3 rfl) ?_
  refine lv_iload_n hx hb dL_1576 rfl (lv_at hl 0 rfl) ?_
  refine lv_iconst (v := iI (1)) hx hb dL_1577 (by decide) ?_
  refine lv_iadd hx hb dL_1578 ?_
  refine x_top (y := iI (i + 1)) (iI_add _ _) ?_
  refine va_sld (i := iI (i + 1)) hx hb hX hbl hbA hS (iI_in (n := L) (by omega)) dL_1579 ?_
  refine x_top ez1 ?_
  refine lv_aload_n hx hb dL_1580 rfl (lv_at hl 3 rfl) ?_
  refine lv_iload_n hx hb dL_1581 rfl (lv_at hl 0 rfl) ?_
  refine lv_iconst (v := iI (2)) hx hb dL_1582 (by decide) ?_
  refine lv_iadd hx hb dL_1583 ?_
  refine x_top (y := iI (i + 2)) (iI_add _ _) ?_
  refine va_sld (i := iI (i + 2)) hx hb hX hbl hbA hS (iI_in (n := L) (by omega)) dL_1584 ?_
  refine x_top ez2 ?_
  refine x_vp (nn := 2) (As := [.int (iI (z1)), .int (iI (z2))]) (rest := []) hE (s_X8_taste_0 l D K ax mm N hNN v ar al hXI  (z1) (by omega) (z2) (by omega)) wPre_blind (wPre_now hK hNX hPX) (x_recv hK hPX 0 (by omega) (xG_8 rfl) rfl) rfl mw_1249 mw_1250 mw_1251 mw_114 mw_1252 (by decide +kernel) ⟨Nat.le_of_ble_eq_true rfl, Nat.le_of_ble_eq_true rfl⟩ hl.1 rfl (Nat.le_of_ble_eq_true rfl) hcc dL_1585 (fun r1 hr1 => ?_)
  exact cont ax mm N cells slots v ar al H locs ls r1 hNX hAX hdis hPX hPY hS hXI hmd hR hl
theorem dL_1607 : decode code 1607 = .ok (.aload_n 1, 1) := by decide +kernel
theorem dL_1608 : decode code 1608 = .ok (.aload_n 0, 1) := by decide +kernel
theorem dL_1609 : decode code 1609 = .ok (.iload_n 3, 1) := by decide +kernel
theorem dL_1610 : decode code 1610 = .ok (.iconst 1, 1) := by decide +kernel
theorem dL_1611 : decode code 1611 = .ok (.iadd, 1) := by decide +kernel
theorem dL_1612 : decode code 1612 = .ok (.iaload, 1) := by decide +kernel
theorem dL_1613 : decode code 1613 = .ok (.aload_n 0, 1) := by decide +kernel
theorem dL_1614 : decode code 1614 = .ok (.iload_n 3, 1) := by decide +kernel
theorem dL_1615 : decode code 1615 = .ok (.iconst 2, 1) := by decide +kernel
theorem dL_1616 : decode code 1616 = .ok (.iadd, 1) := by decide +kernel
theorem dL_1617 : decode code 1617 = .ok (.iaload, 1) := by decide +kernel
theorem dL_1618 : decode code 1618 = .ok (.invokevirtual 253, 3) := by decide +kernel
theorem dL_1621 : decode code 1621 = .ok (.pop, 1) := by decide +kernel
theorem dL_1622 : decode code 1622 = .ok (.aload_n 2, 1) := by decide +kernel
theorem dL_1623 : decode code 1623 = .ok (.aload_n 0, 1) := by decide +kernel
theorem dL_1624 : decode code 1624 = .ok (.iload_n 3, 1) := by decide +kernel
theorem dL_1625 : decode code 1625 = .ok (.iconst 1, 1) := by decide +kernel
theorem dL_1626 : decode code 1626 = .ok (.iadd, 1) := by decide +kernel
theorem dL_1627 : decode code 1627 = .ok (.iaload, 1) := by decide +kernel
theorem dL_1628 : decode code 1628 = .ok (.aload_n 0, 1) := by decide +kernel
theorem dL_1629 : decode code 1629 = .ok (.iload_n 3, 1) := by decide +kernel
theorem dL_1630 : decode code 1630 = .ok (.iconst 2, 1) := by decide +kernel
theorem dL_1631 : decode code 1631 = .ok (.iadd, 1) := by decide +kernel
theorem dL_1632 : decode code 1632 = .ok (.iaload, 1) := by decide +kernel
theorem dL_1633 : decode code 1633 = .ok (.invokevirtual 256, 3) := by decide +kernel
theorem dL_1636 : decode code 1636 = .ok (.pop, 1) := by decide +kernel
theorem dL_1637 : decode code 1637 = .ok (.goto 317, 3) := by decide +kernel
set_option maxHeartbeats 4000000 in
set_option maxRecDepth 100000 in
theorem lc_59 {p : Program} {l : Launch} {e : Env} {s : State} {m : MethodId} {below : List Frame} {meth : Method} {c : Code} {b L : Nat} {xs : Nat → Int32} {D : va_G} {K : Nat → ClassId} {ay ax : Nat → Nat} {mm : Option Nat} {N cells slots : Nat} {v ar : sI} {al : sL} {v' ar' : sI} {al' : sL} {H : Heap} {locs : List Loc} {ls : Array Slot} {tk tv : Nat → Nat} {i : Int} (hi : 0 ≤ i ∧ i + 6 ≤ (L : Int) ∧ L ≤ 3072) (F : lawF p s m meth c b L xs D K tk tv) (C : lawI s D K ay ax mm N cells slots v ar al v' ar' al' H locs) (hl : lv_has ls 4 [(3, .int (iI i)), (2, .ref (ay 0)), (1, .ref (ax 0)), (0, .ref b)]) (kk : lawK p l e s m below meth c b D K ay i) : W p l e room_1 s m #[Value.ref b] below meth c H locs cells slots (lw_Z below #[Value.ref b] s) (F0 m 1607 ls []) := by
  obtain ⟨C0, hE, hK, hT, hTR⟩ := F
  obtain ⟨hx, hb, hr, hml, hown, hts, hX, hbl, hlocks, hgv⟩ := id C0
  have hbA : ¬ lawA s b := Nat.not_le.mpr hbl
  obtain ⟨hNX, hNY, hAX, hAY, hdis, hPX, hPY, hS, hXI, hYI, hmd, hR⟩ := C
  have hcc := lawM_c hmd
  have hNN := lawM_N hmd
  obtain ⟨z1, hz1, ez1⟩ := iI_of (xs (iI (i + 1)).toNatClampNeg)
  obtain ⟨z2, hz2, ez2⟩ := iI_of (xs (iI (i + 2)).toNatClampNeg)
  have cont : ∀ (ax : Nat → Nat) (mm : Option Nat) (N cells slots : Nat) (v ar : sI) (al : sL) (H : Heap) (locs : List Loc) (ls : Array Slot) (r : Int32), apart ax N → (∀ i, i < N → lawA s (ax i)) → (∀ i j, i < N → j < 21 → ax i ≠ ay j) → va_P D xcl (wW ax (xG ax K mm) N v ar al) H → va_P D xcl (wW ay (yG ay K) 21 v' ar' al') H → va_S (lawA s) s.heap H locs → XI v → lawM ax mm N cells slots → lawR v ar al v' ar' al' → lv_has ls 4 [(3, .int (iI i)), (2, .ref (ay 0)), (1, .ref (ax 0)), (0, .ref b)] → W p l e room_1 s m #[Value.ref b] below meth c H locs cells slots (lw_Z below #[Value.ref b] s) (F0 m 1621 ls [.int r]) := by
    intro ax mm N cells slots v ar al H locs ls r hNX hAX hdis hPX hPY hS hXI hmd hR hl
    have hcc := lawM_c hmd
    refine lv_pop hx hb dL_1621 rfl ?_
    refine lv_aload_n hx hb dL_1622 rfl (lv_at hl 1 rfl) ?_
    refine lv_aload_n hx hb dL_1623 rfl (lv_at hl 3 rfl) ?_
    refine lv_iload_n hx hb dL_1624 rfl (lv_at hl 0 rfl) ?_
    refine lv_iconst (v := iI (1)) hx hb dL_1625 (by decide) ?_
    refine lv_iadd hx hb dL_1626 ?_
    refine x_top (y := iI (i + 1)) (iI_add _ _) ?_
    refine va_sld (i := iI (i + 1)) hx hb hX hbl hbA hS (iI_in (n := L) (by omega)) dL_1627 ?_
    refine x_top ez1 ?_
    refine lv_aload_n hx hb dL_1628 rfl (lv_at hl 3 rfl) ?_
    refine lv_iload_n hx hb dL_1629 rfl (lv_at hl 0 rfl) ?_
    refine lv_iconst (v := iI (2)) hx hb dL_1630 (by decide) ?_
    refine lv_iadd hx hb dL_1631 ?_
    refine x_top (y := iI (i + 2)) (iI_add _ _) ?_
    refine va_sld (i := iI (i + 2)) hx hb hX hbl hbA hS (iI_in (n := L) (by omega)) dL_1632 ?_
    refine x_top ez2 ?_
    refine l_viG (nn := 2) (As := [.int (iI (z1)), .int (iI (z2))]) (rest := []) hE hS hAY (s_X9_drawn l D K ay v' ar' al' hYI  (z1) (by omega) (z2) (by omega)) wPre_blind (wPre_now hK hNY hPY) (x_recv hK hPY 0 (by decide) (yG_9 rfl) rfl) rfl mw_2037 mw_2038 mw_2039 mw_123 mw_2040 (by decide +kernel) ⟨Nat.le_of_ble_eq_true rfl, Nat.le_of_ble_eq_true rfl⟩ hl.1 rfl (Nat.le_of_ble_eq_true rfl) hcc dL_1633 (fun r2 v2 ar2 al2 H2 locs2 hp2 hPY2 hk2 hS2 => ?_)
    have hYI2 : YI v2 ar2 := hp2.2.1
    have hPX2 := w_keep hPX (fun i j hi hj e => hdis j i hj hi e.symm) hk2
    refine lv_pop hx hb dL_1636 rfl ?_
    refine lv_goto (tgt := 1954) hx hb dL_1637 (by decide) ?_
    exact kk ax mm N cells slots v ar al v2 ar2 al2 H2 locs2 ls ⟨hNX, hNY, hAX, hAY, hdis, hPX2, hPY2, hS2, hXI, hYI2, hmd, R_y hR (hp2.2.2.2.1 1 (by decide)) (hp2.2.2.2.1 2 (by decide)) (hp2.2.2.2.1 11 (by decide))⟩ hl
  refine lv_aload_n hx hb dL_1607 rfl (lv_at hl 2 rfl) ?_
  refine lv_aload_n hx hb dL_1608 rfl (lv_at hl 3 rfl) ?_
  refine lv_iload_n hx hb dL_1609 rfl (lv_at hl 0 rfl) ?_
  refine lv_iconst (v := iI (1)) hx hb dL_1610 (by decide) ?_
  refine lv_iadd hx hb dL_1611 ?_
  refine x_top (y := iI (i + 1)) (iI_add _ _) ?_
  refine va_sld (i := iI (i + 1)) hx hb hX hbl hbA hS (iI_in (n := L) (by omega)) dL_1612 ?_
  refine x_top ez1 ?_
  refine lv_aload_n hx hb dL_1613 rfl (lv_at hl 3 rfl) ?_
  refine lv_iload_n hx hb dL_1614 rfl (lv_at hl 0 rfl) ?_
  refine lv_iconst (v := iI (2)) hx hb dL_1615 (by decide) ?_
  refine lv_iadd hx hb dL_1616 ?_
  refine x_top (y := iI (i + 2)) (iI_add _ _) ?_
  refine va_sld (i := iI (i + 2)) hx hb hX hbl hbA hS (iI_in (n := L) (by omega)) dL_1617 ?_
  refine x_top ez2 ?_
  refine l_viG (nn := 2) (As := [.int (iI (z1)), .int (iI (z2))]) (rest := []) hE hS hAX (s_X8_drawn_0 l D K ax mm N hNN v ar al hXI   (z1) (by omega) (z2) (by omega)) wPre_blind (wPre_now hK hNX hPX) (x_recv hK hPX 0 (by omega) (xG_8 rfl) rfl) rfl mw_1254 mw_1255 mw_1256 mw_114 mw_1257 (by decide +kernel) ⟨Nat.le_of_ble_eq_true rfl, Nat.le_of_ble_eq_true rfl⟩ hl.1 rfl (Nat.le_of_ble_eq_true rfl) hcc dL_1618 (fun r1 v1 ar1 al1 H1 locs1 hp1 hPX1 hk1 hS1 => ?_)
  exact cont ax mm N cells slots v1 ar1 al1 H1 locs1 ls r1 hNX hAX hdis hPX1 (w_keep hPY hdis hk1) hS1 hp1.2.1 hmd (R_x hR (fun i j h => hp1.2.2 i j (fl_out (by decide) h))) hl
theorem dL_1640 : decode code 1640 = .ok (.aload_n 1, 1) := by decide +kernel
theorem dL_1641 : decode code 1641 = .ok (.aload_n 0, 1) := by decide +kernel
theorem dL_1642 : decode code 1642 = .ok (.iload_n 3, 1) := by decide +kernel
theorem dL_1643 : decode code 1643 = .ok (.iconst 1, 1) := by decide +kernel
theorem dL_1644 : decode code 1644 = .ok (.iadd, 1) := by decide +kernel
theorem dL_1645 : decode code 1645 = .ok (.iaload, 1) := by decide +kernel
theorem dL_1646 : decode code 1646 = .ok (.aload_n 0, 1) := by decide +kernel
theorem dL_1647 : decode code 1647 = .ok (.iload_n 3, 1) := by decide +kernel
theorem dL_1648 : decode code 1648 = .ok (.iconst 2, 1) := by decide +kernel
theorem dL_1649 : decode code 1649 = .ok (.iadd, 1) := by decide +kernel
theorem dL_1650 : decode code 1650 = .ok (.iaload, 1) := by decide +kernel
theorem dL_1651 : decode code 1651 = .ok (.invokevirtual 257, 3) := by decide +kernel
theorem dL_1654 : decode code 1654 = .ok (.pop, 1) := by decide +kernel
theorem dL_1655 : decode code 1655 = .ok (.aload_n 2, 1) := by decide +kernel
theorem dL_1656 : decode code 1656 = .ok (.aload_n 0, 1) := by decide +kernel
theorem dL_1657 : decode code 1657 = .ok (.iload_n 3, 1) := by decide +kernel
theorem dL_1658 : decode code 1658 = .ok (.iconst 1, 1) := by decide +kernel
theorem dL_1659 : decode code 1659 = .ok (.iadd, 1) := by decide +kernel
theorem dL_1660 : decode code 1660 = .ok (.iaload, 1) := by decide +kernel
theorem dL_1661 : decode code 1661 = .ok (.aload_n 0, 1) := by decide +kernel
theorem dL_1662 : decode code 1662 = .ok (.iload_n 3, 1) := by decide +kernel
theorem dL_1663 : decode code 1663 = .ok (.iconst 2, 1) := by decide +kernel
theorem dL_1664 : decode code 1664 = .ok (.iadd, 1) := by decide +kernel
theorem dL_1665 : decode code 1665 = .ok (.iaload, 1) := by decide +kernel
theorem dL_1666 : decode code 1666 = .ok (.invokevirtual 260, 3) := by decide +kernel
theorem dL_1669 : decode code 1669 = .ok (.pop, 1) := by decide +kernel
theorem dL_1670 : decode code 1670 = .ok (.goto 284, 3) := by decide +kernel
set_option maxHeartbeats 4000000 in
set_option maxRecDepth 100000 in
theorem lc_60 {p : Program} {l : Launch} {e : Env} {s : State} {m : MethodId} {below : List Frame} {meth : Method} {c : Code} {b L : Nat} {xs : Nat → Int32} {D : va_G} {K : Nat → ClassId} {ay ax : Nat → Nat} {mm : Option Nat} {N cells slots : Nat} {v ar : sI} {al : sL} {v' ar' : sI} {al' : sL} {H : Heap} {locs : List Loc} {ls : Array Slot} {tk tv : Nat → Nat} {i : Int} (hi : 0 ≤ i ∧ i + 6 ≤ (L : Int) ∧ L ≤ 3072) (F : lawF p s m meth c b L xs D K tk tv) (C : lawI s D K ay ax mm N cells slots v ar al v' ar' al' H locs) (hl : lv_has ls 4 [(3, .int (iI i)), (2, .ref (ay 0)), (1, .ref (ax 0)), (0, .ref b)]) (kk : lawK p l e s m below meth c b D K ay i) : W p l e room_1 s m #[Value.ref b] below meth c H locs cells slots (lw_Z below #[Value.ref b] s) (F0 m 1640 ls []) := by
  obtain ⟨C0, hE, hK, hT, hTR⟩ := F
  obtain ⟨hx, hb, hr, hml, hown, hts, hX, hbl, hlocks, hgv⟩ := id C0
  have hbA : ¬ lawA s b := Nat.not_le.mpr hbl
  obtain ⟨hNX, hNY, hAX, hAY, hdis, hPX, hPY, hS, hXI, hYI, hmd, hR⟩ := C
  have hcc := lawM_c hmd
  have hNN := lawM_N hmd
  obtain ⟨z1, hz1, ez1⟩ := iI_of (xs (iI (i + 1)).toNatClampNeg)
  obtain ⟨z2, hz2, ez2⟩ := iI_of (xs (iI (i + 2)).toNatClampNeg)
  have cont : ∀ (ax : Nat → Nat) (mm : Option Nat) (N cells slots : Nat) (v ar : sI) (al : sL) (H : Heap) (locs : List Loc) (ls : Array Slot) (r : Int32), apart ax N → (∀ i, i < N → lawA s (ax i)) → (∀ i j, i < N → j < 21 → ax i ≠ ay j) → va_P D xcl (wW ax (xG ax K mm) N v ar al) H → va_P D xcl (wW ay (yG ay K) 21 v' ar' al') H → va_S (lawA s) s.heap H locs → XI v → lawM ax mm N cells slots → lawR v ar al v' ar' al' → lv_has ls 4 [(3, .int (iI i)), (2, .ref (ay 0)), (1, .ref (ax 0)), (0, .ref b)] → W p l e room_1 s m #[Value.ref b] below meth c H locs cells slots (lw_Z below #[Value.ref b] s) (F0 m 1654 ls [.int r]) := by
    intro ax mm N cells slots v ar al H locs ls r hNX hAX hdis hPX hPY hS hXI hmd hR hl
    have hcc := lawM_c hmd
    refine lv_pop hx hb dL_1654 rfl ?_
    refine lv_aload_n hx hb dL_1655 rfl (lv_at hl 1 rfl) ?_
    refine lv_aload_n hx hb dL_1656 rfl (lv_at hl 3 rfl) ?_
    refine lv_iload_n hx hb dL_1657 rfl (lv_at hl 0 rfl) ?_
    refine lv_iconst (v := iI (1)) hx hb dL_1658 (by decide) ?_
    refine lv_iadd hx hb dL_1659 ?_
    refine x_top (y := iI (i + 1)) (iI_add _ _) ?_
    refine va_sld (i := iI (i + 1)) hx hb hX hbl hbA hS (iI_in (n := L) (by omega)) dL_1660 ?_
    refine x_top ez1 ?_
    refine lv_aload_n hx hb dL_1661 rfl (lv_at hl 3 rfl) ?_
    refine lv_iload_n hx hb dL_1662 rfl (lv_at hl 0 rfl) ?_
    refine lv_iconst (v := iI (2)) hx hb dL_1663 (by decide) ?_
    refine lv_iadd hx hb dL_1664 ?_
    refine x_top (y := iI (i + 2)) (iI_add _ _) ?_
    refine va_sld (i := iI (i + 2)) hx hb hX hbl hbA hS (iI_in (n := L) (by omega)) dL_1665 ?_
    refine x_top ez2 ?_
    refine l_viG (nn := 2) (As := [.int (iI (z1)), .int (iI (z2))]) (rest := []) hE hS hAY (s_X9_lot l D K ay v' ar' al' hYI  (z1) (by omega) (z2) (by omega)) wPre_blind (wPre_now hK hNY hPY) (x_recv hK hPY 0 (by decide) (yG_9 rfl) rfl) rfl mw_2055 mw_2056 mw_2057 mw_123 mw_2058 (by decide +kernel) ⟨Nat.le_of_ble_eq_true rfl, Nat.le_of_ble_eq_true rfl⟩ hl.1 rfl (Nat.le_of_ble_eq_true rfl) hcc dL_1666 (fun r2 v2 ar2 al2 H2 locs2 hp2 hPY2 hk2 hS2 => ?_)
    have hYI2 : YI v2 ar2 := hp2.2.1
    have hPX2 := w_keep hPX (fun i j hi hj e => hdis j i hj hi e.symm) hk2
    refine lv_pop hx hb dL_1669 rfl ?_
    refine lv_goto (tgt := 1954) hx hb dL_1670 (by decide) ?_
    exact kk ax mm N cells slots v ar al v2 ar2 al2 H2 locs2 ls ⟨hNX, hNY, hAX, hAY, hdis, hPX2, hPY2, hS2, hXI, hYI2, hmd, R_y hR (hp2.2.2.2.1 1 (by decide)) (hp2.2.2.2.1 2 (by decide)) (hp2.2.2.2.1 11 (by decide))⟩ hl
  refine lv_aload_n hx hb dL_1640 rfl (lv_at hl 2 rfl) ?_
  refine lv_aload_n hx hb dL_1641 rfl (lv_at hl 3 rfl) ?_
  refine lv_iload_n hx hb dL_1642 rfl (lv_at hl 0 rfl) ?_
  refine lv_iconst (v := iI (1)) hx hb dL_1643 (by decide) ?_
  refine lv_iadd hx hb dL_1644 ?_
  refine x_top (y := iI (i + 1)) (iI_add _ _) ?_
  refine va_sld (i := iI (i + 1)) hx hb hX hbl hbA hS (iI_in (n := L) (by omega)) dL_1645 ?_
  refine x_top ez1 ?_
  refine lv_aload_n hx hb dL_1646 rfl (lv_at hl 3 rfl) ?_
  refine lv_iload_n hx hb dL_1647 rfl (lv_at hl 0 rfl) ?_
  refine lv_iconst (v := iI (2)) hx hb dL_1648 (by decide) ?_
  refine lv_iadd hx hb dL_1649 ?_
  refine x_top (y := iI (i + 2)) (iI_add _ _) ?_
  refine va_sld (i := iI (i + 2)) hx hb hX hbl hbA hS (iI_in (n := L) (by omega)) dL_1650 ?_
  refine x_top ez2 ?_
  refine l_viG (nn := 2) (As := [.int (iI (z1)), .int (iI (z2))]) (rest := []) hE hS hAX (s_X8_lot_0 l D K ax mm N hNN v ar al hXI   (z1) (by omega) (z2) (by omega)) wPre_blind (wPre_now hK hNX hPX) (x_recv hK hPX 0 (by omega) (xG_8 rfl) rfl) rfl mw_1275 mw_1276 mw_1277 mw_114 mw_1278 (by decide +kernel) ⟨Nat.le_of_ble_eq_true rfl, Nat.le_of_ble_eq_true rfl⟩ hl.1 rfl (Nat.le_of_ble_eq_true rfl) hcc dL_1651 (fun r1 v1 ar1 al1 H1 locs1 hp1 hPX1 hk1 hS1 => ?_)
  exact cont ax mm N cells slots v1 ar1 al1 H1 locs1 ls r1 hNX hAX hdis hPX1 (w_keep hPY hdis hk1) hS1 hp1.2.1 hmd (R_x hR (fun i j h => hp1.2.2 i j (fl_out (by decide) h))) hl
theorem dL_1673 : decode code 1673 = .ok (.aload_n 1, 1) := by decide +kernel
theorem dL_1674 : decode code 1674 = .ok (.aload_n 0, 1) := by decide +kernel
theorem dL_1675 : decode code 1675 = .ok (.iload_n 3, 1) := by decide +kernel
theorem dL_1676 : decode code 1676 = .ok (.iconst 1, 1) := by decide +kernel
theorem dL_1677 : decode code 1677 = .ok (.iadd, 1) := by decide +kernel
theorem dL_1678 : decode code 1678 = .ok (.iaload, 1) := by decide +kernel
theorem dL_1679 : decode code 1679 = .ok (.aload_n 0, 1) := by decide +kernel
theorem dL_1680 : decode code 1680 = .ok (.iload_n 3, 1) := by decide +kernel
theorem dL_1681 : decode code 1681 = .ok (.iconst 2, 1) := by decide +kernel
theorem dL_1682 : decode code 1682 = .ok (.iadd, 1) := by decide +kernel
theorem dL_1683 : decode code 1683 = .ok (.iaload, 1) := by decide +kernel
theorem dL_1684 : decode code 1684 = .ok (.invokevirtual 261, 3) := by decide +kernel
theorem dL_1687 : decode code 1687 = .ok (.pop, 1) := by decide +kernel
theorem dL_1688 : decode code 1688 = .ok (.aload_n 2, 1) := by decide +kernel
theorem dL_1689 : decode code 1689 = .ok (.aload_n 0, 1) := by decide +kernel
theorem dL_1690 : decode code 1690 = .ok (.iload_n 3, 1) := by decide +kernel
theorem dL_1691 : decode code 1691 = .ok (.iconst 1, 1) := by decide +kernel
theorem dL_1692 : decode code 1692 = .ok (.iadd, 1) := by decide +kernel
theorem dL_1693 : decode code 1693 = .ok (.iaload, 1) := by decide +kernel
theorem dL_1694 : decode code 1694 = .ok (.aload_n 0, 1) := by decide +kernel
theorem dL_1695 : decode code 1695 = .ok (.iload_n 3, 1) := by decide +kernel
theorem dL_1696 : decode code 1696 = .ok (.iconst 2, 1) := by decide +kernel
theorem dL_1697 : decode code 1697 = .ok (.iadd, 1) := by decide +kernel
theorem dL_1698 : decode code 1698 = .ok (.iaload, 1) := by decide +kernel
theorem dL_1699 : decode code 1699 = .ok (.invokevirtual 264, 3) := by decide +kernel
theorem dL_1702 : decode code 1702 = .ok (.pop, 1) := by decide +kernel
theorem dL_1703 : decode code 1703 = .ok (.goto 251, 3) := by decide +kernel
set_option maxHeartbeats 4000000 in
set_option maxRecDepth 100000 in
theorem lc_61 {p : Program} {l : Launch} {e : Env} {s : State} {m : MethodId} {below : List Frame} {meth : Method} {c : Code} {b L : Nat} {xs : Nat → Int32} {D : va_G} {K : Nat → ClassId} {ay ax : Nat → Nat} {mm : Option Nat} {N cells slots : Nat} {v ar : sI} {al : sL} {v' ar' : sI} {al' : sL} {H : Heap} {locs : List Loc} {ls : Array Slot} {tk tv : Nat → Nat} {i : Int} (hi : 0 ≤ i ∧ i + 6 ≤ (L : Int) ∧ L ≤ 3072) (F : lawF p s m meth c b L xs D K tk tv) (C : lawI s D K ay ax mm N cells slots v ar al v' ar' al' H locs) (hl : lv_has ls 4 [(3, .int (iI i)), (2, .ref (ay 0)), (1, .ref (ax 0)), (0, .ref b)]) (kk : lawK p l e s m below meth c b D K ay i) : W p l e room_1 s m #[Value.ref b] below meth c H locs cells slots (lw_Z below #[Value.ref b] s) (F0 m 1673 ls []) := by
  obtain ⟨C0, hE, hK, hT, hTR⟩ := F
  obtain ⟨hx, hb, hr, hml, hown, hts, hX, hbl, hlocks, hgv⟩ := id C0
  have hbA : ¬ lawA s b := Nat.not_le.mpr hbl
  obtain ⟨hNX, hNY, hAX, hAY, hdis, hPX, hPY, hS, hXI, hYI, hmd, hR⟩ := C
  have hcc := lawM_c hmd
  have hNN := lawM_N hmd
  obtain ⟨z1, hz1, ez1⟩ := iI_of (xs (iI (i + 1)).toNatClampNeg)
  obtain ⟨z2, hz2, ez2⟩ := iI_of (xs (iI (i + 2)).toNatClampNeg)
  have cont : ∀ (ax : Nat → Nat) (mm : Option Nat) (N cells slots : Nat) (v ar : sI) (al : sL) (H : Heap) (locs : List Loc) (ls : Array Slot) (r : Int32), apart ax N → (∀ i, i < N → lawA s (ax i)) → (∀ i j, i < N → j < 21 → ax i ≠ ay j) → va_P D xcl (wW ax (xG ax K mm) N v ar al) H → va_P D xcl (wW ay (yG ay K) 21 v' ar' al') H → va_S (lawA s) s.heap H locs → XI v → lawM ax mm N cells slots → lawR v ar al v' ar' al' → lv_has ls 4 [(3, .int (iI i)), (2, .ref (ay 0)), (1, .ref (ax 0)), (0, .ref b)] → W p l e room_1 s m #[Value.ref b] below meth c H locs cells slots (lw_Z below #[Value.ref b] s) (F0 m 1687 ls [.int r]) := by
    intro ax mm N cells slots v ar al H locs ls r hNX hAX hdis hPX hPY hS hXI hmd hR hl
    have hcc := lawM_c hmd
    refine lv_pop hx hb dL_1687 rfl ?_
    refine lv_aload_n hx hb dL_1688 rfl (lv_at hl 1 rfl) ?_
    refine lv_aload_n hx hb dL_1689 rfl (lv_at hl 3 rfl) ?_
    refine lv_iload_n hx hb dL_1690 rfl (lv_at hl 0 rfl) ?_
    refine lv_iconst (v := iI (1)) hx hb dL_1691 (by decide) ?_
    refine lv_iadd hx hb dL_1692 ?_
    refine x_top (y := iI (i + 1)) (iI_add _ _) ?_
    refine va_sld (i := iI (i + 1)) hx hb hX hbl hbA hS (iI_in (n := L) (by omega)) dL_1693 ?_
    refine x_top ez1 ?_
    refine lv_aload_n hx hb dL_1694 rfl (lv_at hl 3 rfl) ?_
    refine lv_iload_n hx hb dL_1695 rfl (lv_at hl 0 rfl) ?_
    refine lv_iconst (v := iI (2)) hx hb dL_1696 (by decide) ?_
    refine lv_iadd hx hb dL_1697 ?_
    refine x_top (y := iI (i + 2)) (iI_add _ _) ?_
    refine va_sld (i := iI (i + 2)) hx hb hX hbl hbA hS (iI_in (n := L) (by omega)) dL_1698 ?_
    refine x_top ez2 ?_
    refine l_viG (nn := 2) (As := [.int (iI (z1)), .int (iI (z2))]) (rest := []) hE hS hAY (s_X9_nights l D K ay v' ar' al' hYI  (z1) (by omega) (z2) (by omega)) wPre_blind (wPre_now hK hNY hPY) (x_recv hK hPY 0 (by decide) (yG_9 rfl) rfl) rfl mw_2059 mw_2060 mw_2061 mw_123 mw_2062 (by decide +kernel) ⟨Nat.le_of_ble_eq_true rfl, Nat.le_of_ble_eq_true rfl⟩ hl.1 rfl (Nat.le_of_ble_eq_true rfl) hcc dL_1699 (fun r2 v2 ar2 al2 H2 locs2 hp2 hPY2 hk2 hS2 => ?_)
    have hYI2 : YI v2 ar2 := hp2.2.1
    have hPX2 := w_keep hPX (fun i j hi hj e => hdis j i hj hi e.symm) hk2
    refine lv_pop hx hb dL_1702 rfl ?_
    refine lv_goto (tgt := 1954) hx hb dL_1703 (by decide) ?_
    exact kk ax mm N cells slots v ar al v2 ar2 al2 H2 locs2 ls ⟨hNX, hNY, hAX, hAY, hdis, hPX2, hPY2, hS2, hXI, hYI2, hmd, R_y hR (hp2.2.2.2.1 1 (by decide)) (hp2.2.2.2.1 2 (by decide)) (hp2.2.2.2.1 11 (by decide))⟩ hl
  refine lv_aload_n hx hb dL_1673 rfl (lv_at hl 2 rfl) ?_
  refine lv_aload_n hx hb dL_1674 rfl (lv_at hl 3 rfl) ?_
  refine lv_iload_n hx hb dL_1675 rfl (lv_at hl 0 rfl) ?_
  refine lv_iconst (v := iI (1)) hx hb dL_1676 (by decide) ?_
  refine lv_iadd hx hb dL_1677 ?_
  refine x_top (y := iI (i + 1)) (iI_add _ _) ?_
  refine va_sld (i := iI (i + 1)) hx hb hX hbl hbA hS (iI_in (n := L) (by omega)) dL_1678 ?_
  refine x_top ez1 ?_
  refine lv_aload_n hx hb dL_1679 rfl (lv_at hl 3 rfl) ?_
  refine lv_iload_n hx hb dL_1680 rfl (lv_at hl 0 rfl) ?_
  refine lv_iconst (v := iI (2)) hx hb dL_1681 (by decide) ?_
  refine lv_iadd hx hb dL_1682 ?_
  refine x_top (y := iI (i + 2)) (iI_add _ _) ?_
  refine va_sld (i := iI (i + 2)) hx hb hX hbl hbA hS (iI_in (n := L) (by omega)) dL_1683 ?_
  refine x_top ez2 ?_
  refine l_viG (nn := 2) (As := [.int (iI (z1)), .int (iI (z2))]) (rest := []) hE hS hAX (s_X8_nights_0 l D K ax mm N hNN v ar al hXI   (z1) (by omega) (z2) (by omega)) wPre_blind (wPre_now hK hNX hPX) (x_recv hK hPX 0 (by omega) (xG_8 rfl) rfl) rfl mw_1279 mw_1280 mw_1281 mw_114 mw_1282 (by decide +kernel) ⟨Nat.le_of_ble_eq_true rfl, Nat.le_of_ble_eq_true rfl⟩ hl.1 rfl (Nat.le_of_ble_eq_true rfl) hcc dL_1684 (fun r1 v1 ar1 al1 H1 locs1 hp1 hPX1 hk1 hS1 => ?_)
  exact cont ax mm N cells slots v1 ar1 al1 H1 locs1 ls r1 hNX hAX hdis hPX1 (w_keep hPY hdis hk1) hS1 hp1.2.1 hmd (R_x hR (fun i j h => hp1.2.2 i j (fl_out (by decide) h))) hl
theorem dL_1706 : decode code 1706 = .ok (.aload_n 1, 1) := by decide +kernel
theorem dL_1707 : decode code 1707 = .ok (.aload_n 0, 1) := by decide +kernel
theorem dL_1708 : decode code 1708 = .ok (.iload_n 3, 1) := by decide +kernel
theorem dL_1709 : decode code 1709 = .ok (.iconst 1, 1) := by decide +kernel
theorem dL_1710 : decode code 1710 = .ok (.iadd, 1) := by decide +kernel
theorem dL_1711 : decode code 1711 = .ok (.iaload, 1) := by decide +kernel
theorem dL_1712 : decode code 1712 = .ok (.invokevirtual 265, 3) := by decide +kernel
theorem dL_1715 : decode code 1715 = .ok (.pop, 1) := by decide +kernel
theorem dL_1716 : decode code 1716 = .ok (.aload_n 2, 1) := by decide +kernel
theorem dL_1717 : decode code 1717 = .ok (.aload_n 0, 1) := by decide +kernel
theorem dL_1718 : decode code 1718 = .ok (.iload_n 3, 1) := by decide +kernel
theorem dL_1719 : decode code 1719 = .ok (.iconst 1, 1) := by decide +kernel
theorem dL_1720 : decode code 1720 = .ok (.iadd, 1) := by decide +kernel
theorem dL_1721 : decode code 1721 = .ok (.iaload, 1) := by decide +kernel
theorem dL_1722 : decode code 1722 = .ok (.invokevirtual 268, 3) := by decide +kernel
theorem dL_1725 : decode code 1725 = .ok (.pop, 1) := by decide +kernel
theorem dL_1726 : decode code 1726 = .ok (.goto 228, 3) := by decide +kernel
set_option maxHeartbeats 4000000 in
set_option maxRecDepth 100000 in
theorem lc_62 {p : Program} {l : Launch} {e : Env} {s : State} {m : MethodId} {below : List Frame} {meth : Method} {c : Code} {b L : Nat} {xs : Nat → Int32} {D : va_G} {K : Nat → ClassId} {ay ax : Nat → Nat} {mm : Option Nat} {N cells slots : Nat} {v ar : sI} {al : sL} {v' ar' : sI} {al' : sL} {H : Heap} {locs : List Loc} {ls : Array Slot} {tk tv : Nat → Nat} {i : Int} (hi : 0 ≤ i ∧ i + 6 ≤ (L : Int) ∧ L ≤ 3072) (F : lawF p s m meth c b L xs D K tk tv) (C : lawI s D K ay ax mm N cells slots v ar al v' ar' al' H locs) (hl : lv_has ls 4 [(3, .int (iI i)), (2, .ref (ay 0)), (1, .ref (ax 0)), (0, .ref b)]) (kk : lawK p l e s m below meth c b D K ay i) : W p l e room_1 s m #[Value.ref b] below meth c H locs cells slots (lw_Z below #[Value.ref b] s) (F0 m 1706 ls []) := by
  obtain ⟨C0, hE, hK, hT, hTR⟩ := F
  obtain ⟨hx, hb, hr, hml, hown, hts, hX, hbl, hlocks, hgv⟩ := id C0
  have hbA : ¬ lawA s b := Nat.not_le.mpr hbl
  obtain ⟨hNX, hNY, hAX, hAY, hdis, hPX, hPY, hS, hXI, hYI, hmd, hR⟩ := C
  have hcc := lawM_c hmd
  have hNN := lawM_N hmd
  obtain ⟨z1, hz1, ez1⟩ := iI_of (xs (iI (i + 1)).toNatClampNeg)
  have cont : ∀ (ax : Nat → Nat) (mm : Option Nat) (N cells slots : Nat) (v ar : sI) (al : sL) (H : Heap) (locs : List Loc) (ls : Array Slot) (r : Int32), apart ax N → (∀ i, i < N → lawA s (ax i)) → (∀ i j, i < N → j < 21 → ax i ≠ ay j) → va_P D xcl (wW ax (xG ax K mm) N v ar al) H → va_P D xcl (wW ay (yG ay K) 21 v' ar' al') H → va_S (lawA s) s.heap H locs → XI v → lawM ax mm N cells slots → lawR v ar al v' ar' al' → lv_has ls 4 [(3, .int (iI i)), (2, .ref (ay 0)), (1, .ref (ax 0)), (0, .ref b)] → W p l e room_1 s m #[Value.ref b] below meth c H locs cells slots (lw_Z below #[Value.ref b] s) (F0 m 1715 ls [.int r]) := by
    intro ax mm N cells slots v ar al H locs ls r hNX hAX hdis hPX hPY hS hXI hmd hR hl
    have hcc := lawM_c hmd
    refine lv_pop hx hb dL_1715 rfl ?_
    refine lv_aload_n hx hb dL_1716 rfl (lv_at hl 1 rfl) ?_
    refine lv_aload_n hx hb dL_1717 rfl (lv_at hl 3 rfl) ?_
    refine lv_iload_n hx hb dL_1718 rfl (lv_at hl 0 rfl) ?_
    refine lv_iconst (v := iI (1)) hx hb dL_1719 (by decide) ?_
    refine lv_iadd hx hb dL_1720 ?_
    refine x_top (y := iI (i + 1)) (iI_add _ _) ?_
    refine va_sld (i := iI (i + 1)) hx hb hX hbl hbA hS (iI_in (n := L) (by omega)) dL_1721 ?_
    refine x_top ez1 ?_
    refine l_viG (nn := 1) (As := [.int (iI (z1))]) (rest := []) hE hS hAY (s_X9_count l D K ay v' ar' al' hYI  (z1) (by omega)) wPre_blind (wPre_now hK hNY hPY) (x_recv hK hPY 0 (by decide) (yG_9 rfl) rfl) rfl mw_2064 mw_2065 mw_2066 mw_123 mw_2067 (by decide +kernel) ⟨Nat.le_of_ble_eq_true rfl, Nat.le_of_ble_eq_true rfl⟩ hl.1 rfl (Nat.le_of_ble_eq_true rfl) hcc dL_1722 (fun r2 v2 ar2 al2 H2 locs2 hp2 hPY2 hk2 hS2 => ?_)
    have hYI2 : YI v2 ar2 := hp2.2.1
    have hPX2 := w_keep hPX (fun i j hi hj e => hdis j i hj hi e.symm) hk2
    refine lv_pop hx hb dL_1725 rfl ?_
    refine lv_goto (tgt := 1954) hx hb dL_1726 (by decide) ?_
    exact kk ax mm N cells slots v ar al v2 ar2 al2 H2 locs2 ls ⟨hNX, hNY, hAX, hAY, hdis, hPX2, hPY2, hS2, hXI, hYI2, hmd, R_y hR (hp2.2.2.2.1 1 (by decide)) (hp2.2.2.2.1 2 (by decide)) (hp2.2.2.2.1 11 (by decide))⟩ hl
  refine lv_aload_n hx hb dL_1706 rfl (lv_at hl 2 rfl) ?_
  refine lv_aload_n hx hb dL_1707 rfl (lv_at hl 3 rfl) ?_
  refine lv_iload_n hx hb dL_1708 rfl (lv_at hl 0 rfl) ?_
  refine lv_iconst (v := iI (1)) hx hb dL_1709 (by decide) ?_
  refine lv_iadd hx hb dL_1710 ?_
  refine x_top (y := iI (i + 1)) (iI_add _ _) ?_
  refine va_sld (i := iI (i + 1)) hx hb hX hbl hbA hS (iI_in (n := L) (by omega)) dL_1711 ?_
  refine x_top ez1 ?_
  refine x_vp (nn := 1) (As := [.int (iI (z1))]) (rest := []) hE (s_X8_count_0 l D K ax mm N hNN v ar al hXI  (z1) (by omega)) wPre_blind (wPre_now hK hNX hPX) (x_recv hK hPX 0 (by omega) (xG_8 rfl) rfl) rfl mw_1283 mw_1284 mw_1285 mw_114 mw_1286 (by decide +kernel) ⟨Nat.le_of_ble_eq_true rfl, Nat.le_of_ble_eq_true rfl⟩ hl.1 rfl (Nat.le_of_ble_eq_true rfl) hcc dL_1712 (fun r1 hr1 => ?_)
  exact cont ax mm N cells slots v ar al H locs ls r1 hNX hAX hdis hPX hPY hS hXI hmd hR hl
