theorem dL_1472 : decode code 1472 = .ok (.aload_n 1, 1) := by decide +kernel
theorem dL_1473 : decode code 1473 = .ok (.aload_n 0, 1) := by decide +kernel
theorem dL_1474 : decode code 1474 = .ok (.iload_n 3, 1) := by decide +kernel
theorem dL_1475 : decode code 1475 = .ok (.iconst 1, 1) := by decide +kernel
theorem dL_1476 : decode code 1476 = .ok (.iadd, 1) := by decide +kernel
theorem dL_1477 : decode code 1477 = .ok (.iaload, 1) := by decide +kernel
theorem dL_1478 : decode code 1478 = .ok (.invokevirtual 233, 3) := by decide +kernel
theorem dL_1481 : decode code 1481 = .ok (.aload_n 2, 1) := by decide +kernel
theorem dL_1482 : decode code 1482 = .ok (.aload_n 0, 1) := by decide +kernel
theorem dL_1483 : decode code 1483 = .ok (.iload_n 3, 1) := by decide +kernel
theorem dL_1484 : decode code 1484 = .ok (.iconst 1, 1) := by decide +kernel
theorem dL_1485 : decode code 1485 = .ok (.iadd, 1) := by decide +kernel
theorem dL_1486 : decode code 1486 = .ok (.iaload, 1) := by decide +kernel
theorem dL_1487 : decode code 1487 = .ok (.invokevirtual 236, 3) := by decide +kernel
theorem dL_1490 : decode code 1490 = .ok (.if_icmp .eq 464, 3) := by decide +kernel
set_option maxHeartbeats 4000000 in
set_option maxRecDepth 100000 in
theorem lc_54 {p : Program} {l : Launch} {e : Env} {s : State} {m : MethodId} {below : List Frame} {meth : Method} {c : Code} {b : Nat} {xs : Nat → Int32} {D : va_G} {K : Nat → ClassId} {ax ay : Nat → Nat} {H : Heap} {locs : List Loc} {ls : Array Slot} (C : lawC p s m meth c b xs D K ax ay H locs ls) : W p l e room_1 s m #[Value.ref b] below meth c H locs 153 180094 (lw_Z below #[Value.ref b] s) (F0 m 1472 ls []) := by
  obtain ⟨C0, hE, hK, hNX, hNY, hAX, hAY, hdis, hPX, hPY, hS, hl⟩ := C
  obtain ⟨hx, hb, hr, hml, hown, hts, hX, hbl, hlocks, hgv⟩ := id C0
  have hbA : ¬ lawA s b := Nat.not_le.mpr hbl
  refine lv_aload_n hx hb dL_1472 rfl (lv_at hl 2 rfl) ?_
  refine lv_aload_n hx hb dL_1473 rfl (lv_at hl 3 rfl) ?_
  refine lv_iload_n hx hb dL_1474 rfl (lv_at hl 0 rfl) ?_
  refine lv_iconst (v := 1) hx hb dL_1475 (by decide) ?_
  refine lv_iadd hx hb dL_1476 ?_
  refine x_top (y := 1) (by decide) ?_
  refine va_sld (i := 1) hx hb hX hbl hbA hS (by unfold vp_in; decide) dL_1477 ?_
  refine x_vp (nn := 1) (As := [.int (xs (1 : Int32).toNatClampNeg)]) (rest := []) hE (k_X8_fits l D K ax none (xs (1 : Int32).toNatClampNeg)) wPre_blind (wPre_now hK hNX hPX) (x_recv hK hPX 0 (by decide) (xG_8 rfl) rfl) rfl mw_1205 mw_1206 mw_1207 mw_114 mw_1208 (by decide +kernel) ⟨Nat.le_of_ble_eq_true rfl, Nat.le_of_ble_eq_true rfl⟩ hl.1 rfl (Nat.le_of_ble_eq_true rfl) ⟨Nat.le_of_ble_eq_true rfl, Nat.le_of_ble_eq_true rfl⟩ dL_1478 (fun r1 hr1 => ?_)
  have hr1 : r1 = (-2) := hr1
  rw [hr1]
  refine lv_aload_n hx hb dL_1481 rfl (lv_at hl 1 rfl) ?_
  refine lv_aload_n hx hb dL_1482 rfl (lv_at hl 3 rfl) ?_
  refine lv_iload_n hx hb dL_1483 rfl (lv_at hl 0 rfl) ?_
  refine lv_iconst (v := 1) hx hb dL_1484 (by decide) ?_
  refine lv_iadd hx hb dL_1485 ?_
  refine x_top (y := 1) (by decide) ?_
  refine va_sld (i := 1) hx hb hX hbl hbA hS (by unfold vp_in; decide) dL_1486 ?_
  refine l_vi (nn := 1) (As := [.int (xs (1 : Int32).toNatClampNeg)]) (rest := [.int (-2)]) hE hK hNY hPY hS hAY (k_X9_fits l D K ay (xs (1 : Int32).toNatClampNeg)) (x_recv hK hPY 0 (by decide) (yG_9 rfl) rfl) rfl mw_2002 mw_2003 mw_2004 mw_123 mw_2005 (by decide +kernel) ⟨Nat.le_of_ble_eq_true rfl, Nat.le_of_ble_eq_true rfl⟩ hl.1 rfl (Nat.le_of_ble_eq_true rfl) ⟨Nat.le_of_ble_eq_true rfl, Nat.le_of_ble_eq_true rfl⟩ dL_1487 (fun r2 u2 H locs hr2 hk2 hS => ?_)
  have hr2 : r2 = (-2) := hr2
  rw [hr2]
  refine lv_icmp_eq (tgt := 1954) hx hb dL_1490 (by decide) (fun _ => ?_) (fun h => absurd rfl h)
  exact lawtail C0 hS hl
theorem dL_1495 : decode code 1495 = .ok (.aload_n 1, 1) := by decide +kernel
theorem dL_1496 : decode code 1496 = .ok (.aload_n 0, 1) := by decide +kernel
theorem dL_1497 : decode code 1497 = .ok (.iload_n 3, 1) := by decide +kernel
theorem dL_1498 : decode code 1498 = .ok (.iconst 1, 1) := by decide +kernel
theorem dL_1499 : decode code 1499 = .ok (.iadd, 1) := by decide +kernel
theorem dL_1500 : decode code 1500 = .ok (.iaload, 1) := by decide +kernel
theorem dL_1501 : decode code 1501 = .ok (.invokevirtual 237, 3) := by decide +kernel
theorem dL_1504 : decode code 1504 = .ok (.aload_n 2, 1) := by decide +kernel
theorem dL_1505 : decode code 1505 = .ok (.aload_n 0, 1) := by decide +kernel
theorem dL_1506 : decode code 1506 = .ok (.iload_n 3, 1) := by decide +kernel
theorem dL_1507 : decode code 1507 = .ok (.iconst 1, 1) := by decide +kernel
theorem dL_1508 : decode code 1508 = .ok (.iadd, 1) := by decide +kernel
theorem dL_1509 : decode code 1509 = .ok (.iaload, 1) := by decide +kernel
theorem dL_1510 : decode code 1510 = .ok (.invokevirtual 240, 3) := by decide +kernel
theorem dL_1513 : decode code 1513 = .ok (.if_icmp .eq 441, 3) := by decide +kernel
set_option maxHeartbeats 4000000 in
set_option maxRecDepth 100000 in
theorem lc_55 {p : Program} {l : Launch} {e : Env} {s : State} {m : MethodId} {below : List Frame} {meth : Method} {c : Code} {b : Nat} {xs : Nat → Int32} {D : va_G} {K : Nat → ClassId} {ax ay : Nat → Nat} {H : Heap} {locs : List Loc} {ls : Array Slot} (C : lawC p s m meth c b xs D K ax ay H locs ls) : W p l e room_1 s m #[Value.ref b] below meth c H locs 153 180094 (lw_Z below #[Value.ref b] s) (F0 m 1495 ls []) := by
  obtain ⟨C0, hE, hK, hNX, hNY, hAX, hAY, hdis, hPX, hPY, hS, hl⟩ := C
  obtain ⟨hx, hb, hr, hml, hown, hts, hX, hbl, hlocks, hgv⟩ := id C0
  have hbA : ¬ lawA s b := Nat.not_le.mpr hbl
  refine lv_aload_n hx hb dL_1495 rfl (lv_at hl 2 rfl) ?_
  refine lv_aload_n hx hb dL_1496 rfl (lv_at hl 3 rfl) ?_
  refine lv_iload_n hx hb dL_1497 rfl (lv_at hl 0 rfl) ?_
  refine lv_iconst (v := 1) hx hb dL_1498 (by decide) ?_
  refine lv_iadd hx hb dL_1499 ?_
  refine x_top (y := 1) (by decide) ?_
  refine va_sld (i := 1) hx hb hX hbl hbA hS (by unfold vp_in; decide) dL_1500 ?_
  refine x_vp (nn := 1) (As := [.int (xs (1 : Int32).toNatClampNeg)]) (rest := []) hE (k_X8_liars l D K ax none (xs (1 : Int32).toNatClampNeg)) wPre_blind (wPre_now hK hNX hPX) (x_recv hK hPX 0 (by decide) (xG_8 rfl) rfl) rfl mw_1213 mw_1214 mw_1215 mw_114 mw_1216 (by decide +kernel) ⟨Nat.le_of_ble_eq_true rfl, Nat.le_of_ble_eq_true rfl⟩ hl.1 rfl (Nat.le_of_ble_eq_true rfl) ⟨Nat.le_of_ble_eq_true rfl, Nat.le_of_ble_eq_true rfl⟩ dL_1501 (fun r1 hr1 => ?_)
  have hr1 : r1 = (-2) := hr1
  rw [hr1]
  refine lv_aload_n hx hb dL_1504 rfl (lv_at hl 1 rfl) ?_
  refine lv_aload_n hx hb dL_1505 rfl (lv_at hl 3 rfl) ?_
  refine lv_iload_n hx hb dL_1506 rfl (lv_at hl 0 rfl) ?_
  refine lv_iconst (v := 1) hx hb dL_1507 (by decide) ?_
  refine lv_iadd hx hb dL_1508 ?_
  refine x_top (y := 1) (by decide) ?_
  refine va_sld (i := 1) hx hb hX hbl hbA hS (by unfold vp_in; decide) dL_1509 ?_
  refine l_vi (nn := 1) (As := [.int (xs (1 : Int32).toNatClampNeg)]) (rest := [.int (-2)]) hE hK hNY hPY hS hAY (k_X9_liars l D K ay (xs (1 : Int32).toNatClampNeg)) (x_recv hK hPY 0 (by decide) (yG_9 rfl) rfl) rfl mw_2006 mw_2007 mw_2008 mw_123 mw_2009 (by decide +kernel) ⟨Nat.le_of_ble_eq_true rfl, Nat.le_of_ble_eq_true rfl⟩ hl.1 rfl (Nat.le_of_ble_eq_true rfl) ⟨Nat.le_of_ble_eq_true rfl, Nat.le_of_ble_eq_true rfl⟩ dL_1510 (fun r2 u2 H locs hr2 hk2 hS => ?_)
  have hr2 : r2 = (-2) := hr2
  rw [hr2]
  refine lv_icmp_eq (tgt := 1954) hx hb dL_1513 (by decide) (fun _ => ?_) (fun h => absurd rfl h)
  exact lawtail C0 hS hl
theorem dL_1518 : decode code 1518 = .ok (.aload_n 1, 1) := by decide +kernel
theorem dL_1519 : decode code 1519 = .ok (.aload_n 0, 1) := by decide +kernel
theorem dL_1520 : decode code 1520 = .ok (.iload_n 3, 1) := by decide +kernel
theorem dL_1521 : decode code 1521 = .ok (.iconst 1, 1) := by decide +kernel
theorem dL_1522 : decode code 1522 = .ok (.iadd, 1) := by decide +kernel
theorem dL_1523 : decode code 1523 = .ok (.iaload, 1) := by decide +kernel
theorem dL_1524 : decode code 1524 = .ok (.invokevirtual 241, 3) := by decide +kernel
theorem dL_1527 : decode code 1527 = .ok (.aload_n 2, 1) := by decide +kernel
theorem dL_1528 : decode code 1528 = .ok (.aload_n 0, 1) := by decide +kernel
theorem dL_1529 : decode code 1529 = .ok (.iload_n 3, 1) := by decide +kernel
theorem dL_1530 : decode code 1530 = .ok (.iconst 1, 1) := by decide +kernel
theorem dL_1531 : decode code 1531 = .ok (.iadd, 1) := by decide +kernel
theorem dL_1532 : decode code 1532 = .ok (.iaload, 1) := by decide +kernel
theorem dL_1533 : decode code 1533 = .ok (.invokevirtual 244, 3) := by decide +kernel
theorem dL_1536 : decode code 1536 = .ok (.if_icmp .eq 418, 3) := by decide +kernel
set_option maxHeartbeats 4000000 in
set_option maxRecDepth 100000 in
theorem lc_56 {p : Program} {l : Launch} {e : Env} {s : State} {m : MethodId} {below : List Frame} {meth : Method} {c : Code} {b : Nat} {xs : Nat → Int32} {D : va_G} {K : Nat → ClassId} {ax ay : Nat → Nat} {H : Heap} {locs : List Loc} {ls : Array Slot} (C : lawC p s m meth c b xs D K ax ay H locs ls) : W p l e room_1 s m #[Value.ref b] below meth c H locs 153 180094 (lw_Z below #[Value.ref b] s) (F0 m 1518 ls []) := by
  obtain ⟨C0, hE, hK, hNX, hNY, hAX, hAY, hdis, hPX, hPY, hS, hl⟩ := C
  obtain ⟨hx, hb, hr, hml, hown, hts, hX, hbl, hlocks, hgv⟩ := id C0
  have hbA : ¬ lawA s b := Nat.not_le.mpr hbl
  refine lv_aload_n hx hb dL_1518 rfl (lv_at hl 2 rfl) ?_
  refine lv_aload_n hx hb dL_1519 rfl (lv_at hl 3 rfl) ?_
  refine lv_iload_n hx hb dL_1520 rfl (lv_at hl 0 rfl) ?_
  refine lv_iconst (v := 1) hx hb dL_1521 (by decide) ?_
  refine lv_iadd hx hb dL_1522 ?_
  refine x_top (y := 1) (by decide) ?_
  refine va_sld (i := 1) hx hb hX hbl hbA hS (by unfold vp_in; decide) dL_1523 ?_
  refine x_vp (nn := 1) (As := [.int (xs (1 : Int32).toNatClampNeg)]) (rest := []) hE (k_X8_who l D K ax none (xs (1 : Int32).toNatClampNeg)) wPre_blind (wPre_now hK hNX hPX) (x_recv hK hPX 0 (by decide) (xG_8 rfl) rfl) rfl mw_1227 mw_1228 mw_1229 mw_114 mw_1230 (by decide +kernel) ⟨Nat.le_of_ble_eq_true rfl, Nat.le_of_ble_eq_true rfl⟩ hl.1 rfl (Nat.le_of_ble_eq_true rfl) ⟨Nat.le_of_ble_eq_true rfl, Nat.le_of_ble_eq_true rfl⟩ dL_1524 (fun r1 hr1 => ?_)
  have hr1 : r1 = (-2) := hr1
  rw [hr1]
  refine lv_aload_n hx hb dL_1527 rfl (lv_at hl 1 rfl) ?_
  refine lv_aload_n hx hb dL_1528 rfl (lv_at hl 3 rfl) ?_
  refine lv_iload_n hx hb dL_1529 rfl (lv_at hl 0 rfl) ?_
  refine lv_iconst (v := 1) hx hb dL_1530 (by decide) ?_
  refine lv_iadd hx hb dL_1531 ?_
  refine x_top (y := 1) (by decide) ?_
  refine va_sld (i := 1) hx hb hX hbl hbA hS (by unfold vp_in; decide) dL_1532 ?_
  refine l_vi (nn := 1) (As := [.int (xs (1 : Int32).toNatClampNeg)]) (rest := [.int (-2)]) hE hK hNY hPY hS hAY (k_X9_who l D K ay (xs (1 : Int32).toNatClampNeg)) (x_recv hK hPY 0 (by decide) (yG_9 rfl) rfl) rfl mw_2017 mw_2018 mw_2019 mw_123 mw_2020 (by decide +kernel) ⟨Nat.le_of_ble_eq_true rfl, Nat.le_of_ble_eq_true rfl⟩ hl.1 rfl (Nat.le_of_ble_eq_true rfl) ⟨Nat.le_of_ble_eq_true rfl, Nat.le_of_ble_eq_true rfl⟩ dL_1533 (fun r2 u2 H locs hr2 hk2 hS => ?_)
  have hr2 : r2 = (-2) := hr2
  rw [hr2]
  refine lv_icmp_eq (tgt := 1954) hx hb dL_1536 (by decide) (fun _ => ?_) (fun h => absurd rfl h)
  exact lawtail C0 hS hl
theorem dL_1541 : decode code 1541 = .ok (.aload_n 1, 1) := by decide +kernel
theorem dL_1542 : decode code 1542 = .ok (.aload_n 0, 1) := by decide +kernel
theorem dL_1543 : decode code 1543 = .ok (.iload_n 3, 1) := by decide +kernel
theorem dL_1544 : decode code 1544 = .ok (.iconst 1, 1) := by decide +kernel
theorem dL_1545 : decode code 1545 = .ok (.iadd, 1) := by decide +kernel
theorem dL_1546 : decode code 1546 = .ok (.iaload, 1) := by decide +kernel
theorem dL_1547 : decode code 1547 = .ok (.aload_n 0, 1) := by decide +kernel
theorem dL_1548 : decode code 1548 = .ok (.iload_n 3, 1) := by decide +kernel
theorem dL_1549 : decode code 1549 = .ok (.iconst 2, 1) := by decide +kernel
theorem dL_1550 : decode code 1550 = .ok (.iadd, 1) := by decide +kernel
theorem dL_1551 : decode code 1551 = .ok (.iaload, 1) := by decide +kernel
theorem dL_1552 : decode code 1552 = .ok (.invokevirtual 245, 3) := by decide +kernel
theorem dL_1555 : decode code 1555 = .ok (.aload_n 2, 1) := by decide +kernel
theorem dL_1556 : decode code 1556 = .ok (.aload_n 0, 1) := by decide +kernel
theorem dL_1557 : decode code 1557 = .ok (.iload_n 3, 1) := by decide +kernel
theorem dL_1558 : decode code 1558 = .ok (.iconst 1, 1) := by decide +kernel
theorem dL_1559 : decode code 1559 = .ok (.iadd, 1) := by decide +kernel
theorem dL_1560 : decode code 1560 = .ok (.iaload, 1) := by decide +kernel
theorem dL_1561 : decode code 1561 = .ok (.aload_n 0, 1) := by decide +kernel
theorem dL_1562 : decode code 1562 = .ok (.iload_n 3, 1) := by decide +kernel
theorem dL_1563 : decode code 1563 = .ok (.iconst 2, 1) := by decide +kernel
theorem dL_1564 : decode code 1564 = .ok (.iadd, 1) := by decide +kernel
theorem dL_1565 : decode code 1565 = .ok (.iaload, 1) := by decide +kernel
theorem dL_1566 : decode code 1566 = .ok (.invokevirtual 248, 3) := by decide +kernel
theorem dL_1569 : decode code 1569 = .ok (.if_icmp .eq 385, 3) := by decide +kernel
set_option maxHeartbeats 4000000 in
set_option maxRecDepth 100000 in
theorem lc_57 {p : Program} {l : Launch} {e : Env} {s : State} {m : MethodId} {below : List Frame} {meth : Method} {c : Code} {b : Nat} {xs : Nat → Int32} {D : va_G} {K : Nat → ClassId} {ax ay : Nat → Nat} {H : Heap} {locs : List Loc} {ls : Array Slot} (C : lawC p s m meth c b xs D K ax ay H locs ls) : W p l e room_1 s m #[Value.ref b] below meth c H locs 153 180094 (lw_Z below #[Value.ref b] s) (F0 m 1541 ls []) := by
  obtain ⟨C0, hE, hK, hNX, hNY, hAX, hAY, hdis, hPX, hPY, hS, hl⟩ := C
  obtain ⟨hx, hb, hr, hml, hown, hts, hX, hbl, hlocks, hgv⟩ := id C0
  have hbA : ¬ lawA s b := Nat.not_le.mpr hbl
  refine lv_aload_n hx hb dL_1541 rfl (lv_at hl 2 rfl) ?_
  refine lv_aload_n hx hb dL_1542 rfl (lv_at hl 3 rfl) ?_
  refine lv_iload_n hx hb dL_1543 rfl (lv_at hl 0 rfl) ?_
  refine lv_iconst (v := 1) hx hb dL_1544 (by decide) ?_
  refine lv_iadd hx hb dL_1545 ?_
  refine x_top (y := 1) (by decide) ?_
  refine va_sld (i := 1) hx hb hX hbl hbA hS (by unfold vp_in; decide) dL_1546 ?_
  refine lv_aload_n hx hb dL_1547 rfl (lv_at hl 3 rfl) ?_
  refine lv_iload_n hx hb dL_1548 rfl (lv_at hl 0 rfl) ?_
  refine lv_iconst (v := 2) hx hb dL_1549 (by decide) ?_
  refine lv_iadd hx hb dL_1550 ?_
  refine x_top (y := 2) (by decide) ?_
  refine va_sld (i := 2) hx hb hX hbl hbA hS (by unfold vp_in; decide) dL_1551 ?_
  refine x_vp (nn := 2) (As := [.int (xs (1 : Int32).toNatClampNeg), .int (xs (2 : Int32).toNatClampNeg)]) (rest := []) hE (k_X8_votes l D K ax none (xs (1 : Int32).toNatClampNeg) (xs (2 : Int32).toNatClampNeg)) wPre_blind (wPre_now hK hNX hPX) (x_recv hK hPX 0 (by decide) (xG_8 rfl) rfl) rfl mw_1231 mw_1232 mw_1233 mw_114 mw_1234 (by decide +kernel) ⟨Nat.le_of_ble_eq_true rfl, Nat.le_of_ble_eq_true rfl⟩ hl.1 rfl (Nat.le_of_ble_eq_true rfl) ⟨Nat.le_of_ble_eq_true rfl, Nat.le_of_ble_eq_true rfl⟩ dL_1552 (fun r1 hr1 => ?_)
  have hr1 : r1 = (-2) := hr1
  rw [hr1]
  refine lv_aload_n hx hb dL_1555 rfl (lv_at hl 1 rfl) ?_
  refine lv_aload_n hx hb dL_1556 rfl (lv_at hl 3 rfl) ?_
  refine lv_iload_n hx hb dL_1557 rfl (lv_at hl 0 rfl) ?_
  refine lv_iconst (v := 1) hx hb dL_1558 (by decide) ?_
  refine lv_iadd hx hb dL_1559 ?_
  refine x_top (y := 1) (by decide) ?_
  refine va_sld (i := 1) hx hb hX hbl hbA hS (by unfold vp_in; decide) dL_1560 ?_
  refine lv_aload_n hx hb dL_1561 rfl (lv_at hl 3 rfl) ?_
  refine lv_iload_n hx hb dL_1562 rfl (lv_at hl 0 rfl) ?_
  refine lv_iconst (v := 2) hx hb dL_1563 (by decide) ?_
  refine lv_iadd hx hb dL_1564 ?_
  refine x_top (y := 2) (by decide) ?_
  refine va_sld (i := 2) hx hb hX hbl hbA hS (by unfold vp_in; decide) dL_1565 ?_
  refine l_vi (nn := 2) (As := [.int (xs (1 : Int32).toNatClampNeg), .int (xs (2 : Int32).toNatClampNeg)]) (rest := [.int (-2)]) hE hK hNY hPY hS hAY (k_X9_votes l D K ay (xs (1 : Int32).toNatClampNeg) (xs (2 : Int32).toNatClampNeg)) (x_recv hK hPY 0 (by decide) (yG_9 rfl) rfl) rfl mw_2021 mw_2022 mw_2023 mw_123 mw_2024 (by decide +kernel) ⟨Nat.le_of_ble_eq_true rfl, Nat.le_of_ble_eq_true rfl⟩ hl.1 rfl (Nat.le_of_ble_eq_true rfl) ⟨Nat.le_of_ble_eq_true rfl, Nat.le_of_ble_eq_true rfl⟩ dL_1566 (fun r2 u2 H locs hr2 hk2 hS => ?_)
  have hr2 : r2 = (-2) := hr2
  rw [hr2]
  refine lv_icmp_eq (tgt := 1954) hx hb dL_1569 (by decide) (fun _ => ?_) (fun h => absurd rfl h)
  exact lawtail C0 hS hl
theorem dL_1574 : decode code 1574 = .ok (.aload_n 1, 1) := by decide +kernel
theorem dL_1575 : decode code 1575 = .ok (.aload_n 0, 1) := by decide +kernel
theorem dL_1576 : decode code 1576 = .ok (.iload_n 3, 1) := by decide +kernel
theorem dL_1577 : decode code 1577 = .ok (.iconst 1, 1) := by decide +kernel
theorem dL_1578 : decode code 1578 = .ok (.iadd, 1) := by decide +kernel
theorem dL_1579 : decode code 1579 = .ok (.iaload, 1) := by decide +kernel
theorem dL_1580 : decode code 1580 = .ok (.aload_n 0, 1) := by decide +kernel
theorem dL_1581 : decode code 1581 = .ok (.iload_n 3, 1) := by decide +kernel
theorem dL_1582 : decode code 1582 = .ok (.iconst 2, 1) := by decide +kernel
theorem dL_1583 : decode code 1583 = .ok (.iadd, 1) := by decide +kernel
theorem dL_1584 : decode code 1584 = .ok (.iaload, 1) := by decide +kernel
theorem dL_1585 : decode code 1585 = .ok (.invokevirtual 249, 3) := by decide +kernel
theorem dL_1588 : decode code 1588 = .ok (.aload_n 2, 1) := by decide +kernel
theorem dL_1589 : decode code 1589 = .ok (.aload_n 0, 1) := by decide +kernel
theorem dL_1590 : decode code 1590 = .ok (.iload_n 3, 1) := by decide +kernel
theorem dL_1591 : decode code 1591 = .ok (.iconst 1, 1) := by decide +kernel
theorem dL_1592 : decode code 1592 = .ok (.iadd, 1) := by decide +kernel
theorem dL_1593 : decode code 1593 = .ok (.iaload, 1) := by decide +kernel
theorem dL_1594 : decode code 1594 = .ok (.aload_n 0, 1) := by decide +kernel
theorem dL_1595 : decode code 1595 = .ok (.iload_n 3, 1) := by decide +kernel
theorem dL_1596 : decode code 1596 = .ok (.iconst 2, 1) := by decide +kernel
theorem dL_1597 : decode code 1597 = .ok (.iadd, 1) := by decide +kernel
theorem dL_1598 : decode code 1598 = .ok (.iaload, 1) := by decide +kernel
theorem dL_1599 : decode code 1599 = .ok (.invokevirtual 252, 3) := by decide +kernel
theorem dL_1602 : decode code 1602 = .ok (.if_icmp .eq 352, 3) := by decide +kernel
set_option maxHeartbeats 4000000 in
set_option maxRecDepth 100000 in
theorem lc_58 {p : Program} {l : Launch} {e : Env} {s : State} {m : MethodId} {below : List Frame} {meth : Method} {c : Code} {b : Nat} {xs : Nat → Int32} {D : va_G} {K : Nat → ClassId} {ax ay : Nat → Nat} {H : Heap} {locs : List Loc} {ls : Array Slot} (C : lawC p s m meth c b xs D K ax ay H locs ls) : W p l e room_1 s m #[Value.ref b] below meth c H locs 153 180094 (lw_Z below #[Value.ref b] s) (F0 m 1574 ls []) := by
  obtain ⟨C0, hE, hK, hNX, hNY, hAX, hAY, hdis, hPX, hPY, hS, hl⟩ := C
  obtain ⟨hx, hb, hr, hml, hown, hts, hX, hbl, hlocks, hgv⟩ := id C0
  have hbA : ¬ lawA s b := Nat.not_le.mpr hbl
  refine lv_aload_n hx hb dL_1574 rfl (lv_at hl 2 rfl) ?_
  refine lv_aload_n hx hb dL_1575 rfl (lv_at hl 3 rfl) ?_
  refine lv_iload_n hx hb dL_1576 rfl (lv_at hl 0 rfl) ?_
  refine lv_iconst (v := 1) hx hb dL_1577 (by decide) ?_
  refine lv_iadd hx hb dL_1578 ?_
  refine x_top (y := 1) (by decide) ?_
  refine va_sld (i := 1) hx hb hX hbl hbA hS (by unfold vp_in; decide) dL_1579 ?_
  refine lv_aload_n hx hb dL_1580 rfl (lv_at hl 3 rfl) ?_
  refine lv_iload_n hx hb dL_1581 rfl (lv_at hl 0 rfl) ?_
  refine lv_iconst (v := 2) hx hb dL_1582 (by decide) ?_
  refine lv_iadd hx hb dL_1583 ?_
  refine x_top (y := 2) (by decide) ?_
  refine va_sld (i := 2) hx hb hX hbl hbA hS (by unfold vp_in; decide) dL_1584 ?_
  refine x_vp (nn := 2) (As := [.int (xs (1 : Int32).toNatClampNeg), .int (xs (2 : Int32).toNatClampNeg)]) (rest := []) hE (k_X8_taste l D K ax none (xs (1 : Int32).toNatClampNeg) (xs (2 : Int32).toNatClampNeg)) wPre_blind (wPre_now hK hNX hPX) (x_recv hK hPX 0 (by decide) (xG_8 rfl) rfl) rfl mw_1249 mw_1250 mw_1251 mw_114 mw_1252 (by decide +kernel) ⟨Nat.le_of_ble_eq_true rfl, Nat.le_of_ble_eq_true rfl⟩ hl.1 rfl (Nat.le_of_ble_eq_true rfl) ⟨Nat.le_of_ble_eq_true rfl, Nat.le_of_ble_eq_true rfl⟩ dL_1585 (fun r1 hr1 => ?_)
  have hr1 : r1 = (-1000) := hr1
  rw [hr1]
  refine lv_aload_n hx hb dL_1588 rfl (lv_at hl 1 rfl) ?_
  refine lv_aload_n hx hb dL_1589 rfl (lv_at hl 3 rfl) ?_
  refine lv_iload_n hx hb dL_1590 rfl (lv_at hl 0 rfl) ?_
  refine lv_iconst (v := 1) hx hb dL_1591 (by decide) ?_
  refine lv_iadd hx hb dL_1592 ?_
  refine x_top (y := 1) (by decide) ?_
  refine va_sld (i := 1) hx hb hX hbl hbA hS (by unfold vp_in; decide) dL_1593 ?_
  refine lv_aload_n hx hb dL_1594 rfl (lv_at hl 3 rfl) ?_
  refine lv_iload_n hx hb dL_1595 rfl (lv_at hl 0 rfl) ?_
  refine lv_iconst (v := 2) hx hb dL_1596 (by decide) ?_
  refine lv_iadd hx hb dL_1597 ?_
  refine x_top (y := 2) (by decide) ?_
  refine va_sld (i := 2) hx hb hX hbl hbA hS (by unfold vp_in; decide) dL_1598 ?_
  refine l_vi (nn := 2) (As := [.int (xs (1 : Int32).toNatClampNeg), .int (xs (2 : Int32).toNatClampNeg)]) (rest := [.int (-1000)]) hE hK hNY hPY hS hAY (k_X9_taste l D K ay (xs (1 : Int32).toNatClampNeg) (xs (2 : Int32).toNatClampNeg)) (x_recv hK hPY 0 (by decide) (yG_9 rfl) rfl) rfl mw_2033 mw_2034 mw_2035 mw_123 mw_2036 (by decide +kernel) ⟨Nat.le_of_ble_eq_true rfl, Nat.le_of_ble_eq_true rfl⟩ hl.1 rfl (Nat.le_of_ble_eq_true rfl) ⟨Nat.le_of_ble_eq_true rfl, Nat.le_of_ble_eq_true rfl⟩ dL_1599 (fun r2 u2 H locs hr2 hk2 hS => ?_)
  have hr2 : r2 = (-1000) := hr2
  rw [hr2]
  refine lv_icmp_eq (tgt := 1954) hx hb dL_1602 (by decide) (fun _ => ?_) (fun h => absurd rfl h)
  exact lawtail C0 hS hl
theorem dL_1607 : decode code 1607 = .ok (.aload_n 1, 1) := by decide +kernel
theorem dL_1608 : decode code 1608 = .ok (.aload_n 0, 1) := by decide +kernel
theorem dL_1609 : decode code 1609 = .ok (.iload_n 3, 1) := by decide +kernel
theorem dL_1610 : decode code 1610 = .ok (.iconst 1, 1) := by decide +kernel
theorem dL_1611 : decode code 1611 = .ok (.iadd, 1) := by decide +kernel
theorem dL_1612 : decode code 1612 = .ok (.iaload, 1) := by decide +kernel
theorem dL_1613 : decode code 1613 = .ok (.aload_n 0, 1) := by decide +kernel
theorem dL_1614 : decode code 1614 = .ok (.iload_n 3, 1) := by decide +kernel
theorem dL_1615 : decode code 1615 = .ok (.iconst 2, 1) := by decide +kernel
theorem dL_1616 : decode code 1616 = .ok (.iadd, 1) := by decide +kernel
theorem dL_1617 : decode code 1617 = .ok (.iaload, 1) := by decide +kernel
theorem dL_1618 : decode code 1618 = .ok (.invokevirtual 253, 3) := by decide +kernel
theorem dL_1621 : decode code 1621 = .ok (.aload_n 2, 1) := by decide +kernel
theorem dL_1622 : decode code 1622 = .ok (.aload_n 0, 1) := by decide +kernel
theorem dL_1623 : decode code 1623 = .ok (.iload_n 3, 1) := by decide +kernel
theorem dL_1624 : decode code 1624 = .ok (.iconst 1, 1) := by decide +kernel
theorem dL_1625 : decode code 1625 = .ok (.iadd, 1) := by decide +kernel
theorem dL_1626 : decode code 1626 = .ok (.iaload, 1) := by decide +kernel
theorem dL_1627 : decode code 1627 = .ok (.aload_n 0, 1) := by decide +kernel
theorem dL_1628 : decode code 1628 = .ok (.iload_n 3, 1) := by decide +kernel
theorem dL_1629 : decode code 1629 = .ok (.iconst 2, 1) := by decide +kernel
theorem dL_1630 : decode code 1630 = .ok (.iadd, 1) := by decide +kernel
theorem dL_1631 : decode code 1631 = .ok (.iaload, 1) := by decide +kernel
theorem dL_1632 : decode code 1632 = .ok (.invokevirtual 256, 3) := by decide +kernel
theorem dL_1635 : decode code 1635 = .ok (.if_icmp .eq 319, 3) := by decide +kernel
set_option maxHeartbeats 4000000 in
set_option maxRecDepth 100000 in
theorem lc_59 {p : Program} {l : Launch} {e : Env} {s : State} {m : MethodId} {below : List Frame} {meth : Method} {c : Code} {b : Nat} {xs : Nat → Int32} {D : va_G} {K : Nat → ClassId} {ax ay : Nat → Nat} {H : Heap} {locs : List Loc} {ls : Array Slot} (C : lawC p s m meth c b xs D K ax ay H locs ls) : W p l e room_1 s m #[Value.ref b] below meth c H locs 153 180094 (lw_Z below #[Value.ref b] s) (F0 m 1607 ls []) := by
  obtain ⟨C0, hE, hK, hNX, hNY, hAX, hAY, hdis, hPX, hPY, hS, hl⟩ := C
  obtain ⟨hx, hb, hr, hml, hown, hts, hX, hbl, hlocks, hgv⟩ := id C0
  have hbA : ¬ lawA s b := Nat.not_le.mpr hbl
  refine lv_aload_n hx hb dL_1607 rfl (lv_at hl 2 rfl) ?_
  refine lv_aload_n hx hb dL_1608 rfl (lv_at hl 3 rfl) ?_
  refine lv_iload_n hx hb dL_1609 rfl (lv_at hl 0 rfl) ?_
  refine lv_iconst (v := 1) hx hb dL_1610 (by decide) ?_
  refine lv_iadd hx hb dL_1611 ?_
  refine x_top (y := 1) (by decide) ?_
  refine va_sld (i := 1) hx hb hX hbl hbA hS (by unfold vp_in; decide) dL_1612 ?_
  refine lv_aload_n hx hb dL_1613 rfl (lv_at hl 3 rfl) ?_
  refine lv_iload_n hx hb dL_1614 rfl (lv_at hl 0 rfl) ?_
  refine lv_iconst (v := 2) hx hb dL_1615 (by decide) ?_
  refine lv_iadd hx hb dL_1616 ?_
  refine x_top (y := 2) (by decide) ?_
  refine va_sld (i := 2) hx hb hX hbl hbA hS (by unfold vp_in; decide) dL_1617 ?_
  refine x_vp (nn := 2) (As := [.int (xs (1 : Int32).toNatClampNeg), .int (xs (2 : Int32).toNatClampNeg)]) (rest := []) hE (k_X8_drawn l D K ax none (xs (1 : Int32).toNatClampNeg) (xs (2 : Int32).toNatClampNeg)) wPre_blind (wPre_now hK hNX hPX) (x_recv hK hPX 0 (by decide) (xG_8 rfl) rfl) rfl mw_1254 mw_1255 mw_1256 mw_114 mw_1257 (by decide +kernel) ⟨Nat.le_of_ble_eq_true rfl, Nat.le_of_ble_eq_true rfl⟩ hl.1 rfl (Nat.le_of_ble_eq_true rfl) ⟨Nat.le_of_ble_eq_true rfl, Nat.le_of_ble_eq_true rfl⟩ dL_1618 (fun r1 hr1 => ?_)
  have hr1 : r1 = (-2) := hr1
  rw [hr1]
  refine lv_aload_n hx hb dL_1621 rfl (lv_at hl 1 rfl) ?_
  refine lv_aload_n hx hb dL_1622 rfl (lv_at hl 3 rfl) ?_
  refine lv_iload_n hx hb dL_1623 rfl (lv_at hl 0 rfl) ?_
  refine lv_iconst (v := 1) hx hb dL_1624 (by decide) ?_
  refine lv_iadd hx hb dL_1625 ?_
  refine x_top (y := 1) (by decide) ?_
  refine va_sld (i := 1) hx hb hX hbl hbA hS (by unfold vp_in; decide) dL_1626 ?_
  refine lv_aload_n hx hb dL_1627 rfl (lv_at hl 3 rfl) ?_
  refine lv_iload_n hx hb dL_1628 rfl (lv_at hl 0 rfl) ?_
  refine lv_iconst (v := 2) hx hb dL_1629 (by decide) ?_
  refine lv_iadd hx hb dL_1630 ?_
  refine x_top (y := 2) (by decide) ?_
  refine va_sld (i := 2) hx hb hX hbl hbA hS (by unfold vp_in; decide) dL_1631 ?_
  refine l_vi (nn := 2) (As := [.int (xs (1 : Int32).toNatClampNeg), .int (xs (2 : Int32).toNatClampNeg)]) (rest := [.int (-2)]) hE hK hNY hPY hS hAY (k_X9_drawn l D K ay (xs (1 : Int32).toNatClampNeg) (xs (2 : Int32).toNatClampNeg)) (x_recv hK hPY 0 (by decide) (yG_9 rfl) rfl) rfl mw_2037 mw_2038 mw_2039 mw_123 mw_2040 (by decide +kernel) ⟨Nat.le_of_ble_eq_true rfl, Nat.le_of_ble_eq_true rfl⟩ hl.1 rfl (Nat.le_of_ble_eq_true rfl) ⟨Nat.le_of_ble_eq_true rfl, Nat.le_of_ble_eq_true rfl⟩ dL_1632 (fun r2 u2 H locs hr2 hk2 hS => ?_)
  have hr2 : r2 = (-2) := hr2
  rw [hr2]
  refine lv_icmp_eq (tgt := 1954) hx hb dL_1635 (by decide) (fun _ => ?_) (fun h => absurd rfl h)
  exact lawtail C0 hS hl
theorem dL_1640 : decode code 1640 = .ok (.aload_n 1, 1) := by decide +kernel
theorem dL_1641 : decode code 1641 = .ok (.aload_n 0, 1) := by decide +kernel
theorem dL_1642 : decode code 1642 = .ok (.iload_n 3, 1) := by decide +kernel
theorem dL_1643 : decode code 1643 = .ok (.iconst 1, 1) := by decide +kernel
theorem dL_1644 : decode code 1644 = .ok (.iadd, 1) := by decide +kernel
theorem dL_1645 : decode code 1645 = .ok (.iaload, 1) := by decide +kernel
theorem dL_1646 : decode code 1646 = .ok (.aload_n 0, 1) := by decide +kernel
theorem dL_1647 : decode code 1647 = .ok (.iload_n 3, 1) := by decide +kernel
theorem dL_1648 : decode code 1648 = .ok (.iconst 2, 1) := by decide +kernel
theorem dL_1649 : decode code 1649 = .ok (.iadd, 1) := by decide +kernel
theorem dL_1650 : decode code 1650 = .ok (.iaload, 1) := by decide +kernel
theorem dL_1651 : decode code 1651 = .ok (.invokevirtual 257, 3) := by decide +kernel
theorem dL_1654 : decode code 1654 = .ok (.aload_n 2, 1) := by decide +kernel
theorem dL_1655 : decode code 1655 = .ok (.aload_n 0, 1) := by decide +kernel
theorem dL_1656 : decode code 1656 = .ok (.iload_n 3, 1) := by decide +kernel
theorem dL_1657 : decode code 1657 = .ok (.iconst 1, 1) := by decide +kernel
theorem dL_1658 : decode code 1658 = .ok (.iadd, 1) := by decide +kernel
theorem dL_1659 : decode code 1659 = .ok (.iaload, 1) := by decide +kernel
theorem dL_1660 : decode code 1660 = .ok (.aload_n 0, 1) := by decide +kernel
theorem dL_1661 : decode code 1661 = .ok (.iload_n 3, 1) := by decide +kernel
theorem dL_1662 : decode code 1662 = .ok (.iconst 2, 1) := by decide +kernel
theorem dL_1663 : decode code 1663 = .ok (.iadd, 1) := by decide +kernel
theorem dL_1664 : decode code 1664 = .ok (.iaload, 1) := by decide +kernel
theorem dL_1665 : decode code 1665 = .ok (.invokevirtual 260, 3) := by decide +kernel
theorem dL_1668 : decode code 1668 = .ok (.if_icmp .eq 286, 3) := by decide +kernel
set_option maxHeartbeats 4000000 in
set_option maxRecDepth 100000 in
theorem lc_60 {p : Program} {l : Launch} {e : Env} {s : State} {m : MethodId} {below : List Frame} {meth : Method} {c : Code} {b : Nat} {xs : Nat → Int32} {D : va_G} {K : Nat → ClassId} {ax ay : Nat → Nat} {H : Heap} {locs : List Loc} {ls : Array Slot} (C : lawC p s m meth c b xs D K ax ay H locs ls) : W p l e room_1 s m #[Value.ref b] below meth c H locs 153 180094 (lw_Z below #[Value.ref b] s) (F0 m 1640 ls []) := by
  obtain ⟨C0, hE, hK, hNX, hNY, hAX, hAY, hdis, hPX, hPY, hS, hl⟩ := C
  obtain ⟨hx, hb, hr, hml, hown, hts, hX, hbl, hlocks, hgv⟩ := id C0
  have hbA : ¬ lawA s b := Nat.not_le.mpr hbl
  refine lv_aload_n hx hb dL_1640 rfl (lv_at hl 2 rfl) ?_
  refine lv_aload_n hx hb dL_1641 rfl (lv_at hl 3 rfl) ?_
  refine lv_iload_n hx hb dL_1642 rfl (lv_at hl 0 rfl) ?_
  refine lv_iconst (v := 1) hx hb dL_1643 (by decide) ?_
  refine lv_iadd hx hb dL_1644 ?_
  refine x_top (y := 1) (by decide) ?_
  refine va_sld (i := 1) hx hb hX hbl hbA hS (by unfold vp_in; decide) dL_1645 ?_
  refine lv_aload_n hx hb dL_1646 rfl (lv_at hl 3 rfl) ?_
  refine lv_iload_n hx hb dL_1647 rfl (lv_at hl 0 rfl) ?_
  refine lv_iconst (v := 2) hx hb dL_1648 (by decide) ?_
  refine lv_iadd hx hb dL_1649 ?_
  refine x_top (y := 2) (by decide) ?_
  refine va_sld (i := 2) hx hb hX hbl hbA hS (by unfold vp_in; decide) dL_1650 ?_
  refine x_vp (nn := 2) (As := [.int (xs (1 : Int32).toNatClampNeg), .int (xs (2 : Int32).toNatClampNeg)]) (rest := []) hE (k_X8_lot l D K ax none (xs (1 : Int32).toNatClampNeg) (xs (2 : Int32).toNatClampNeg)) wPre_blind (wPre_now hK hNX hPX) (x_recv hK hPX 0 (by decide) (xG_8 rfl) rfl) rfl mw_1275 mw_1276 mw_1277 mw_114 mw_1278 (by decide +kernel) ⟨Nat.le_of_ble_eq_true rfl, Nat.le_of_ble_eq_true rfl⟩ hl.1 rfl (Nat.le_of_ble_eq_true rfl) ⟨Nat.le_of_ble_eq_true rfl, Nat.le_of_ble_eq_true rfl⟩ dL_1651 (fun r1 hr1 => ?_)
  have hr1 : r1 = (-2) := hr1
  rw [hr1]
  refine lv_aload_n hx hb dL_1654 rfl (lv_at hl 1 rfl) ?_
  refine lv_aload_n hx hb dL_1655 rfl (lv_at hl 3 rfl) ?_
  refine lv_iload_n hx hb dL_1656 rfl (lv_at hl 0 rfl) ?_
  refine lv_iconst (v := 1) hx hb dL_1657 (by decide) ?_
  refine lv_iadd hx hb dL_1658 ?_
  refine x_top (y := 1) (by decide) ?_
  refine va_sld (i := 1) hx hb hX hbl hbA hS (by unfold vp_in; decide) dL_1659 ?_
  refine lv_aload_n hx hb dL_1660 rfl (lv_at hl 3 rfl) ?_
  refine lv_iload_n hx hb dL_1661 rfl (lv_at hl 0 rfl) ?_
  refine lv_iconst (v := 2) hx hb dL_1662 (by decide) ?_
  refine lv_iadd hx hb dL_1663 ?_
  refine x_top (y := 2) (by decide) ?_
  refine va_sld (i := 2) hx hb hX hbl hbA hS (by unfold vp_in; decide) dL_1664 ?_
  refine l_vi (nn := 2) (As := [.int (xs (1 : Int32).toNatClampNeg), .int (xs (2 : Int32).toNatClampNeg)]) (rest := [.int (-2)]) hE hK hNY hPY hS hAY (k_X9_lot l D K ay (xs (1 : Int32).toNatClampNeg) (xs (2 : Int32).toNatClampNeg)) (x_recv hK hPY 0 (by decide) (yG_9 rfl) rfl) rfl mw_2055 mw_2056 mw_2057 mw_123 mw_2058 (by decide +kernel) ⟨Nat.le_of_ble_eq_true rfl, Nat.le_of_ble_eq_true rfl⟩ hl.1 rfl (Nat.le_of_ble_eq_true rfl) ⟨Nat.le_of_ble_eq_true rfl, Nat.le_of_ble_eq_true rfl⟩ dL_1665 (fun r2 u2 H locs hr2 hk2 hS => ?_)
  have hr2 : r2 = (-2) := hr2
  rw [hr2]
  refine lv_icmp_eq (tgt := 1954) hx hb dL_1668 (by decide) (fun _ => ?_) (fun h => absurd rfl h)
  exact lawtail C0 hS hl
theorem dL_1673 : decode code 1673 = .ok (.aload_n 1, 1) := by decide +kernel
theorem dL_1674 : decode code 1674 = .ok (.aload_n 0, 1) := by decide +kernel
theorem dL_1675 : decode code 1675 = .ok (.iload_n 3, 1) := by decide +kernel
theorem dL_1676 : decode code 1676 = .ok (.iconst 1, 1) := by decide +kernel
theorem dL_1677 : decode code 1677 = .ok (.iadd, 1) := by decide +kernel
theorem dL_1678 : decode code 1678 = .ok (.iaload, 1) := by decide +kernel
theorem dL_1679 : decode code 1679 = .ok (.aload_n 0, 1) := by decide +kernel
theorem dL_1680 : decode code 1680 = .ok (.iload_n 3, 1) := by decide +kernel
theorem dL_1681 : decode code 1681 = .ok (.iconst 2, 1) := by decide +kernel
theorem dL_1682 : decode code 1682 = .ok (.iadd, 1) := by decide +kernel
theorem dL_1683 : decode code 1683 = .ok (.iaload, 1) := by decide +kernel
theorem dL_1684 : decode code 1684 = .ok (.invokevirtual 261, 3) := by decide +kernel
theorem dL_1687 : decode code 1687 = .ok (.aload_n 2, 1) := by decide +kernel
theorem dL_1688 : decode code 1688 = .ok (.aload_n 0, 1) := by decide +kernel
theorem dL_1689 : decode code 1689 = .ok (.iload_n 3, 1) := by decide +kernel
theorem dL_1690 : decode code 1690 = .ok (.iconst 1, 1) := by decide +kernel
theorem dL_1691 : decode code 1691 = .ok (.iadd, 1) := by decide +kernel
theorem dL_1692 : decode code 1692 = .ok (.iaload, 1) := by decide +kernel
theorem dL_1693 : decode code 1693 = .ok (.aload_n 0, 1) := by decide +kernel
theorem dL_1694 : decode code 1694 = .ok (.iload_n 3, 1) := by decide +kernel
theorem dL_1695 : decode code 1695 = .ok (.iconst 2, 1) := by decide +kernel
theorem dL_1696 : decode code 1696 = .ok (.iadd, 1) := by decide +kernel
theorem dL_1697 : decode code 1697 = .ok (.iaload, 1) := by decide +kernel
theorem dL_1698 : decode code 1698 = .ok (.invokevirtual 264, 3) := by decide +kernel
theorem dL_1701 : decode code 1701 = .ok (.if_icmp .eq 253, 3) := by decide +kernel
set_option maxHeartbeats 4000000 in
set_option maxRecDepth 100000 in
theorem lc_61 {p : Program} {l : Launch} {e : Env} {s : State} {m : MethodId} {below : List Frame} {meth : Method} {c : Code} {b : Nat} {xs : Nat → Int32} {D : va_G} {K : Nat → ClassId} {ax ay : Nat → Nat} {H : Heap} {locs : List Loc} {ls : Array Slot} (C : lawC p s m meth c b xs D K ax ay H locs ls) : W p l e room_1 s m #[Value.ref b] below meth c H locs 153 180094 (lw_Z below #[Value.ref b] s) (F0 m 1673 ls []) := by
  obtain ⟨C0, hE, hK, hNX, hNY, hAX, hAY, hdis, hPX, hPY, hS, hl⟩ := C
  obtain ⟨hx, hb, hr, hml, hown, hts, hX, hbl, hlocks, hgv⟩ := id C0
  have hbA : ¬ lawA s b := Nat.not_le.mpr hbl
  refine lv_aload_n hx hb dL_1673 rfl (lv_at hl 2 rfl) ?_
  refine lv_aload_n hx hb dL_1674 rfl (lv_at hl 3 rfl) ?_
  refine lv_iload_n hx hb dL_1675 rfl (lv_at hl 0 rfl) ?_
  refine lv_iconst (v := 1) hx hb dL_1676 (by decide) ?_
  refine lv_iadd hx hb dL_1677 ?_
  refine x_top (y := 1) (by decide) ?_
  refine va_sld (i := 1) hx hb hX hbl hbA hS (by unfold vp_in; decide) dL_1678 ?_
  refine lv_aload_n hx hb dL_1679 rfl (lv_at hl 3 rfl) ?_
  refine lv_iload_n hx hb dL_1680 rfl (lv_at hl 0 rfl) ?_
  refine lv_iconst (v := 2) hx hb dL_1681 (by decide) ?_
  refine lv_iadd hx hb dL_1682 ?_
  refine x_top (y := 2) (by decide) ?_
  refine va_sld (i := 2) hx hb hX hbl hbA hS (by unfold vp_in; decide) dL_1683 ?_
  refine x_vp (nn := 2) (As := [.int (xs (1 : Int32).toNatClampNeg), .int (xs (2 : Int32).toNatClampNeg)]) (rest := []) hE (k_X8_nights l D K ax none (xs (1 : Int32).toNatClampNeg) (xs (2 : Int32).toNatClampNeg)) wPre_blind (wPre_now hK hNX hPX) (x_recv hK hPX 0 (by decide) (xG_8 rfl) rfl) rfl mw_1279 mw_1280 mw_1281 mw_114 mw_1282 (by decide +kernel) ⟨Nat.le_of_ble_eq_true rfl, Nat.le_of_ble_eq_true rfl⟩ hl.1 rfl (Nat.le_of_ble_eq_true rfl) ⟨Nat.le_of_ble_eq_true rfl, Nat.le_of_ble_eq_true rfl⟩ dL_1684 (fun r1 hr1 => ?_)
  have hr1 : r1 = (-2) := hr1
  rw [hr1]
  refine lv_aload_n hx hb dL_1687 rfl (lv_at hl 1 rfl) ?_
  refine lv_aload_n hx hb dL_1688 rfl (lv_at hl 3 rfl) ?_
  refine lv_iload_n hx hb dL_1689 rfl (lv_at hl 0 rfl) ?_
  refine lv_iconst (v := 1) hx hb dL_1690 (by decide) ?_
  refine lv_iadd hx hb dL_1691 ?_
  refine x_top (y := 1) (by decide) ?_
  refine va_sld (i := 1) hx hb hX hbl hbA hS (by unfold vp_in; decide) dL_1692 ?_
  refine lv_aload_n hx hb dL_1693 rfl (lv_at hl 3 rfl) ?_
  refine lv_iload_n hx hb dL_1694 rfl (lv_at hl 0 rfl) ?_
  refine lv_iconst (v := 2) hx hb dL_1695 (by decide) ?_
  refine lv_iadd hx hb dL_1696 ?_
  refine x_top (y := 2) (by decide) ?_
  refine va_sld (i := 2) hx hb hX hbl hbA hS (by unfold vp_in; decide) dL_1697 ?_
  refine l_vi (nn := 2) (As := [.int (xs (1 : Int32).toNatClampNeg), .int (xs (2 : Int32).toNatClampNeg)]) (rest := [.int (-2)]) hE hK hNY hPY hS hAY (k_X9_nights l D K ay (xs (1 : Int32).toNatClampNeg) (xs (2 : Int32).toNatClampNeg)) (x_recv hK hPY 0 (by decide) (yG_9 rfl) rfl) rfl mw_2059 mw_2060 mw_2061 mw_123 mw_2062 (by decide +kernel) ⟨Nat.le_of_ble_eq_true rfl, Nat.le_of_ble_eq_true rfl⟩ hl.1 rfl (Nat.le_of_ble_eq_true rfl) ⟨Nat.le_of_ble_eq_true rfl, Nat.le_of_ble_eq_true rfl⟩ dL_1698 (fun r2 u2 H locs hr2 hk2 hS => ?_)
  have hr2 : r2 = (-2) := hr2
  rw [hr2]
  refine lv_icmp_eq (tgt := 1954) hx hb dL_1701 (by decide) (fun _ => ?_) (fun h => absurd rfl h)
  exact lawtail C0 hS hl
theorem dL_1706 : decode code 1706 = .ok (.aload_n 1, 1) := by decide +kernel
theorem dL_1707 : decode code 1707 = .ok (.aload_n 0, 1) := by decide +kernel
theorem dL_1708 : decode code 1708 = .ok (.iload_n 3, 1) := by decide +kernel
theorem dL_1709 : decode code 1709 = .ok (.iconst 1, 1) := by decide +kernel
theorem dL_1710 : decode code 1710 = .ok (.iadd, 1) := by decide +kernel
theorem dL_1711 : decode code 1711 = .ok (.iaload, 1) := by decide +kernel
theorem dL_1712 : decode code 1712 = .ok (.invokevirtual 265, 3) := by decide +kernel
theorem dL_1715 : decode code 1715 = .ok (.aload_n 2, 1) := by decide +kernel
theorem dL_1716 : decode code 1716 = .ok (.aload_n 0, 1) := by decide +kernel
theorem dL_1717 : decode code 1717 = .ok (.iload_n 3, 1) := by decide +kernel
theorem dL_1718 : decode code 1718 = .ok (.iconst 1, 1) := by decide +kernel
theorem dL_1719 : decode code 1719 = .ok (.iadd, 1) := by decide +kernel
theorem dL_1720 : decode code 1720 = .ok (.iaload, 1) := by decide +kernel
theorem dL_1721 : decode code 1721 = .ok (.invokevirtual 268, 3) := by decide +kernel
theorem dL_1724 : decode code 1724 = .ok (.if_icmp .eq 230, 3) := by decide +kernel
set_option maxHeartbeats 4000000 in
set_option maxRecDepth 100000 in
theorem lc_62 {p : Program} {l : Launch} {e : Env} {s : State} {m : MethodId} {below : List Frame} {meth : Method} {c : Code} {b : Nat} {xs : Nat → Int32} {D : va_G} {K : Nat → ClassId} {ax ay : Nat → Nat} {H : Heap} {locs : List Loc} {ls : Array Slot} (C : lawC p s m meth c b xs D K ax ay H locs ls) : W p l e room_1 s m #[Value.ref b] below meth c H locs 153 180094 (lw_Z below #[Value.ref b] s) (F0 m 1706 ls []) := by
  obtain ⟨C0, hE, hK, hNX, hNY, hAX, hAY, hdis, hPX, hPY, hS, hl⟩ := C
  obtain ⟨hx, hb, hr, hml, hown, hts, hX, hbl, hlocks, hgv⟩ := id C0
  have hbA : ¬ lawA s b := Nat.not_le.mpr hbl
  refine lv_aload_n hx hb dL_1706 rfl (lv_at hl 2 rfl) ?_
  refine lv_aload_n hx hb dL_1707 rfl (lv_at hl 3 rfl) ?_
  refine lv_iload_n hx hb dL_1708 rfl (lv_at hl 0 rfl) ?_
  refine lv_iconst (v := 1) hx hb dL_1709 (by decide) ?_
  refine lv_iadd hx hb dL_1710 ?_
  refine x_top (y := 1) (by decide) ?_
  refine va_sld (i := 1) hx hb hX hbl hbA hS (by unfold vp_in; decide) dL_1711 ?_
  refine x_vp (nn := 1) (As := [.int (xs (1 : Int32).toNatClampNeg)]) (rest := []) hE (k_X8_count l D K ax none (xs (1 : Int32).toNatClampNeg)) wPre_blind (wPre_now hK hNX hPX) (x_recv hK hPX 0 (by decide) (xG_8 rfl) rfl) rfl mw_1283 mw_1284 mw_1285 mw_114 mw_1286 (by decide +kernel) ⟨Nat.le_of_ble_eq_true rfl, Nat.le_of_ble_eq_true rfl⟩ hl.1 rfl (Nat.le_of_ble_eq_true rfl) ⟨Nat.le_of_ble_eq_true rfl, Nat.le_of_ble_eq_true rfl⟩ dL_1712 (fun r1 hr1 => ?_)
  have hr1 : r1 = (fCount (xs (1 : Int32).toNatClampNeg)) := hr1
  rw [hr1]
  refine lv_aload_n hx hb dL_1715 rfl (lv_at hl 1 rfl) ?_
  refine lv_aload_n hx hb dL_1716 rfl (lv_at hl 3 rfl) ?_
  refine lv_iload_n hx hb dL_1717 rfl (lv_at hl 0 rfl) ?_
  refine lv_iconst (v := 1) hx hb dL_1718 (by decide) ?_
  refine lv_iadd hx hb dL_1719 ?_
  refine x_top (y := 1) (by decide) ?_
  refine va_sld (i := 1) hx hb hX hbl hbA hS (by unfold vp_in; decide) dL_1720 ?_
  refine l_vi (nn := 1) (As := [.int (xs (1 : Int32).toNatClampNeg)]) (rest := [.int (fCount (xs (1 : Int32).toNatClampNeg))]) hE hK hNY hPY hS hAY (k_X9_count l D K ay (xs (1 : Int32).toNatClampNeg)) (x_recv hK hPY 0 (by decide) (yG_9 rfl) rfl) rfl mw_2064 mw_2065 mw_2066 mw_123 mw_2067 (by decide +kernel) ⟨Nat.le_of_ble_eq_true rfl, Nat.le_of_ble_eq_true rfl⟩ hl.1 rfl (Nat.le_of_ble_eq_true rfl) ⟨Nat.le_of_ble_eq_true rfl, Nat.le_of_ble_eq_true rfl⟩ dL_1721 (fun r2 u2 H locs hr2 hk2 hS => ?_)
  have hr2 : r2 = (fCount (xs (1 : Int32).toNatClampNeg)) := hr2
  rw [hr2]
  refine lv_icmp_eq (tgt := 1954) hx hb dL_1724 (by decide) (fun _ => ?_) (fun h => absurd rfl h)
  exact lawtail C0 hS hl
