theorem dL_1285 : decode code 1285 = .ok (.aload_n 1, 1) := by decide +kernel
theorem dL_1286 : decode code 1286 = .ok (.aload_n 0, 1) := by decide +kernel
theorem dL_1287 : decode code 1287 = .ok (.iload_n 3, 1) := by decide +kernel
theorem dL_1288 : decode code 1288 = .ok (.iconst 1, 1) := by decide +kernel
theorem dL_1289 : decode code 1289 = .ok (.iadd, 1) := by decide +kernel
theorem dL_1290 : decode code 1290 = .ok (.iaload, 1) := by decide +kernel
theorem dL_1291 : decode code 1291 = .ok (.invokevirtual 197, 3) := by decide +kernel
theorem dL_1294 : decode code 1294 = .ok (.aload_n 2, 1) := by decide +kernel
theorem dL_1295 : decode code 1295 = .ok (.aload_n 0, 1) := by decide +kernel
theorem dL_1296 : decode code 1296 = .ok (.iload_n 3, 1) := by decide +kernel
theorem dL_1297 : decode code 1297 = .ok (.iconst 1, 1) := by decide +kernel
theorem dL_1298 : decode code 1298 = .ok (.iadd, 1) := by decide +kernel
theorem dL_1299 : decode code 1299 = .ok (.iaload, 1) := by decide +kernel
theorem dL_1300 : decode code 1300 = .ok (.invokevirtual 200, 3) := by decide +kernel
theorem dL_1303 : decode code 1303 = .ok (.if_icmp .eq 651, 3) := by decide +kernel
set_option maxHeartbeats 4000000 in
set_option maxRecDepth 100000 in
theorem lc_45 {p : Program} {l : Launch} {e : Env} {s : State} {m : MethodId} {below : List Frame} {meth : Method} {c : Code} {b : Nat} {xs : Nat → Int32} {D : va_G} {K : Nat → ClassId} {ax ay : Nat → Nat} {H : Heap} {locs : List Loc} {ls : Array Slot} (C : lawC p s m meth c b xs D K ax ay H locs ls) : W p l e room_1 s m #[Value.ref b] below meth c H locs 153 180094 (lw_Z below #[Value.ref b] s) (F0 m 1285 ls []) := by
  obtain ⟨C0, hE, hK, hNX, hNY, hAX, hAY, hdis, hPX, hPY, hS, hl⟩ := C
  obtain ⟨hx, hb, hr, hml, hown, hts, hX, hbl, hlocks, hgv⟩ := id C0
  have hbA : ¬ lawA s b := Nat.not_le.mpr hbl
  refine lv_aload_n hx hb dL_1285 rfl (lv_at hl 2 rfl) ?_
  refine lv_aload_n hx hb dL_1286 rfl (lv_at hl 3 rfl) ?_
  refine lv_iload_n hx hb dL_1287 rfl (lv_at hl 0 rfl) ?_
  refine lv_iconst (v := 1) hx hb dL_1288 (by decide) ?_
  refine lv_iadd hx hb dL_1289 ?_
  refine x_top (y := 1) (by decide) ?_
  refine va_sld (i := 1) hx hb hX hbl hbA hS (by unfold vp_in; decide) dL_1290 ?_
  refine x_vp (nn := 1) (As := [.int (xs (1 : Int32).toNatClampNeg)]) (rest := []) hE (k_X8_around l D K ax none (xs (1 : Int32).toNatClampNeg)) wPre_blind (wPre_now hK hNX hPX) (x_recv hK hPX 0 (by decide) (xG_8 rfl) rfl) rfl mw_1006 mw_1007 mw_1008 mw_114 mw_1009 (by decide +kernel) ⟨Nat.le_of_ble_eq_true rfl, Nat.le_of_ble_eq_true rfl⟩ hl.1 rfl (Nat.le_of_ble_eq_true rfl) ⟨Nat.le_of_ble_eq_true rfl, Nat.le_of_ble_eq_true rfl⟩ dL_1291 (fun r1 hr1 => ?_)
  have hr1 : r1 = (-2) := hr1
  rw [hr1]
  refine lv_aload_n hx hb dL_1294 rfl (lv_at hl 1 rfl) ?_
  refine lv_aload_n hx hb dL_1295 rfl (lv_at hl 3 rfl) ?_
  refine lv_iload_n hx hb dL_1296 rfl (lv_at hl 0 rfl) ?_
  refine lv_iconst (v := 1) hx hb dL_1297 (by decide) ?_
  refine lv_iadd hx hb dL_1298 ?_
  refine x_top (y := 1) (by decide) ?_
  refine va_sld (i := 1) hx hb hX hbl hbA hS (by unfold vp_in; decide) dL_1299 ?_
  refine l_vi (nn := 1) (As := [.int (xs (1 : Int32).toNatClampNeg)]) (rest := [.int (-2)]) hE hK hNY hPY hS hAY (k_X9_around l D K ay (xs (1 : Int32).toNatClampNeg)) (x_recv hK hPY 0 (by decide) (yG_9 rfl) rfl) rfl mw_1946 mw_1947 mw_1948 mw_123 mw_1949 (by decide +kernel) ⟨Nat.le_of_ble_eq_true rfl, Nat.le_of_ble_eq_true rfl⟩ hl.1 rfl (Nat.le_of_ble_eq_true rfl) ⟨Nat.le_of_ble_eq_true rfl, Nat.le_of_ble_eq_true rfl⟩ dL_1300 (fun r2 u2 H locs hr2 hk2 hS => ?_)
  have hr2 : r2 = (-2) := hr2
  rw [hr2]
  refine lv_icmp_eq (tgt := 1954) hx hb dL_1303 (by decide) (fun _ => ?_) (fun h => absurd rfl h)
  exact lawtail C0 hS hl
theorem dL_1308 : decode code 1308 = .ok (.aload_n 1, 1) := by decide +kernel
theorem dL_1309 : decode code 1309 = .ok (.invokevirtual 201, 3) := by decide +kernel
theorem dL_1312 : decode code 1312 = .ok (.aload_n 2, 1) := by decide +kernel
theorem dL_1313 : decode code 1313 = .ok (.invokevirtual 204, 3) := by decide +kernel
theorem dL_1316 : decode code 1316 = .ok (.if_icmp .eq 638, 3) := by decide +kernel
set_option maxHeartbeats 4000000 in
set_option maxRecDepth 100000 in
theorem lc_46 {p : Program} {l : Launch} {e : Env} {s : State} {m : MethodId} {below : List Frame} {meth : Method} {c : Code} {b : Nat} {xs : Nat → Int32} {D : va_G} {K : Nat → ClassId} {ax ay : Nat → Nat} {H : Heap} {locs : List Loc} {ls : Array Slot} (C : lawC p s m meth c b xs D K ax ay H locs ls) : W p l e room_1 s m #[Value.ref b] below meth c H locs 153 180094 (lw_Z below #[Value.ref b] s) (F0 m 1308 ls []) := by
  obtain ⟨C0, hE, hK, hNX, hNY, hAX, hAY, hdis, hPX, hPY, hS, hl⟩ := C
  obtain ⟨hx, hb, hr, hml, hown, hts, hX, hbl, hlocks, hgv⟩ := id C0
  have hbA : ¬ lawA s b := Nat.not_le.mpr hbl
  refine lv_aload_n hx hb dL_1308 rfl (lv_at hl 2 rfl) ?_
  refine x_vp (nn := 0) (As := []) (rest := []) hE (k_X8_blunder l D K ax none ) wPre_blind (wPre_now hK hNX hPX) (x_recv hK hPX 0 (by decide) (xG_8 rfl) rfl) rfl mw_1108 mw_1109 mw_1110 mw_114 mw_1111 (by decide +kernel) ⟨Nat.le_of_ble_eq_true rfl, Nat.le_of_ble_eq_true rfl⟩ hl.1 rfl (Nat.le_of_ble_eq_true rfl) ⟨Nat.le_of_ble_eq_true rfl, Nat.le_of_ble_eq_true rfl⟩ dL_1309 (fun r1 hr1 => ?_)
  have hr1 : r1 = (-2) := hr1
  rw [hr1]
  refine lv_aload_n hx hb dL_1312 rfl (lv_at hl 1 rfl) ?_
  refine l_vi (nn := 0) (As := []) (rest := [.int (-2)]) hE hK hNY hPY hS hAY (k_X9_blunder l D K ay ) (x_recv hK hPY 0 (by decide) (yG_9 rfl) rfl) rfl mw_1950 mw_1951 mw_1952 mw_123 mw_1953 (by decide +kernel) ⟨Nat.le_of_ble_eq_true rfl, Nat.le_of_ble_eq_true rfl⟩ hl.1 rfl (Nat.le_of_ble_eq_true rfl) ⟨Nat.le_of_ble_eq_true rfl, Nat.le_of_ble_eq_true rfl⟩ dL_1313 (fun r2 u2 H locs hr2 hk2 hS => ?_)
  have hr2 : r2 = (-2) := hr2
  rw [hr2]
  refine lv_icmp_eq (tgt := 1954) hx hb dL_1316 (by decide) (fun _ => ?_) (fun h => absurd rfl h)
  exact lawtail C0 hS hl
theorem dL_1321 : decode code 1321 = .ok (.aload_n 1, 1) := by decide +kernel
theorem dL_1322 : decode code 1322 = .ok (.aload_n 0, 1) := by decide +kernel
theorem dL_1323 : decode code 1323 = .ok (.iload_n 3, 1) := by decide +kernel
theorem dL_1324 : decode code 1324 = .ok (.iconst 1, 1) := by decide +kernel
theorem dL_1325 : decode code 1325 = .ok (.iadd, 1) := by decide +kernel
theorem dL_1326 : decode code 1326 = .ok (.iaload, 1) := by decide +kernel
theorem dL_1327 : decode code 1327 = .ok (.invokevirtual 205, 3) := by decide +kernel
theorem dL_1330 : decode code 1330 = .ok (.aload_n 2, 1) := by decide +kernel
theorem dL_1331 : decode code 1331 = .ok (.aload_n 0, 1) := by decide +kernel
theorem dL_1332 : decode code 1332 = .ok (.iload_n 3, 1) := by decide +kernel
theorem dL_1333 : decode code 1333 = .ok (.iconst 1, 1) := by decide +kernel
theorem dL_1334 : decode code 1334 = .ok (.iadd, 1) := by decide +kernel
theorem dL_1335 : decode code 1335 = .ok (.iaload, 1) := by decide +kernel
theorem dL_1336 : decode code 1336 = .ok (.invokevirtual 208, 3) := by decide +kernel
theorem dL_1339 : decode code 1339 = .ok (.if_icmp .eq 615, 3) := by decide +kernel
set_option maxHeartbeats 4000000 in
set_option maxRecDepth 100000 in
theorem lc_47 {p : Program} {l : Launch} {e : Env} {s : State} {m : MethodId} {below : List Frame} {meth : Method} {c : Code} {b : Nat} {xs : Nat → Int32} {D : va_G} {K : Nat → ClassId} {ax ay : Nat → Nat} {H : Heap} {locs : List Loc} {ls : Array Slot} (C : lawC p s m meth c b xs D K ax ay H locs ls) : W p l e room_1 s m #[Value.ref b] below meth c H locs 153 180094 (lw_Z below #[Value.ref b] s) (F0 m 1321 ls []) := by
  obtain ⟨C0, hE, hK, hNX, hNY, hAX, hAY, hdis, hPX, hPY, hS, hl⟩ := C
  obtain ⟨hx, hb, hr, hml, hown, hts, hX, hbl, hlocks, hgv⟩ := id C0
  have hbA : ¬ lawA s b := Nat.not_le.mpr hbl
  refine lv_aload_n hx hb dL_1321 rfl (lv_at hl 2 rfl) ?_
  refine lv_aload_n hx hb dL_1322 rfl (lv_at hl 3 rfl) ?_
  refine lv_iload_n hx hb dL_1323 rfl (lv_at hl 0 rfl) ?_
  refine lv_iconst (v := 1) hx hb dL_1324 (by decide) ?_
  refine lv_iadd hx hb dL_1325 ?_
  refine x_top (y := 1) (by decide) ?_
  refine va_sld (i := 1) hx hb hX hbl hbA hS (by unfold vp_in; decide) dL_1326 ?_
  refine x_vp (nn := 1) (As := [.int (xs (1 : Int32).toNatClampNeg)]) (rest := []) hE (k_X8_lack l D K ax none (xs (1 : Int32).toNatClampNeg)) wPre_blind (wPre_now hK hNX hPX) (x_recv hK hPX 0 (by decide) (xG_8 rfl) rfl) rfl mw_1011 mw_1012 mw_1013 mw_114 mw_1014 (by decide +kernel) ⟨Nat.le_of_ble_eq_true rfl, Nat.le_of_ble_eq_true rfl⟩ hl.1 rfl (Nat.le_of_ble_eq_true rfl) ⟨Nat.le_of_ble_eq_true rfl, Nat.le_of_ble_eq_true rfl⟩ dL_1327 (fun r1 hr1 => ?_)
  have hr1 : r1 = (-2) := hr1
  rw [hr1]
  refine lv_aload_n hx hb dL_1330 rfl (lv_at hl 1 rfl) ?_
  refine lv_aload_n hx hb dL_1331 rfl (lv_at hl 3 rfl) ?_
  refine lv_iload_n hx hb dL_1332 rfl (lv_at hl 0 rfl) ?_
  refine lv_iconst (v := 1) hx hb dL_1333 (by decide) ?_
  refine lv_iadd hx hb dL_1334 ?_
  refine x_top (y := 1) (by decide) ?_
  refine va_sld (i := 1) hx hb hX hbl hbA hS (by unfold vp_in; decide) dL_1335 ?_
  refine l_vi (nn := 1) (As := [.int (xs (1 : Int32).toNatClampNeg)]) (rest := [.int (-2)]) hE hK hNY hPY hS hAY (k_X9_lack l D K ay (xs (1 : Int32).toNatClampNeg)) (x_recv hK hPY 0 (by decide) (yG_9 rfl) rfl) rfl mw_1954 mw_1955 mw_1956 mw_123 mw_1957 (by decide +kernel) ⟨Nat.le_of_ble_eq_true rfl, Nat.le_of_ble_eq_true rfl⟩ hl.1 rfl (Nat.le_of_ble_eq_true rfl) ⟨Nat.le_of_ble_eq_true rfl, Nat.le_of_ble_eq_true rfl⟩ dL_1336 (fun r2 u2 H locs hr2 hk2 hS => ?_)
  have hr2 : r2 = (-2) := hr2
  rw [hr2]
  refine lv_icmp_eq (tgt := 1954) hx hb dL_1339 (by decide) (fun _ => ?_) (fun h => absurd rfl h)
  exact lawtail C0 hS hl
theorem dL_1344 : decode code 1344 = .ok (.aload_n 1, 1) := by decide +kernel
theorem dL_1345 : decode code 1345 = .ok (.invokevirtual 209, 3) := by decide +kernel
theorem dL_1348 : decode code 1348 = .ok (.aload_n 2, 1) := by decide +kernel
theorem dL_1349 : decode code 1349 = .ok (.invokevirtual 212, 3) := by decide +kernel
theorem dL_1352 : decode code 1352 = .ok (.if_icmp .eq 602, 3) := by decide +kernel
set_option maxHeartbeats 4000000 in
set_option maxRecDepth 100000 in
theorem lc_48 {p : Program} {l : Launch} {e : Env} {s : State} {m : MethodId} {below : List Frame} {meth : Method} {c : Code} {b : Nat} {xs : Nat → Int32} {D : va_G} {K : Nat → ClassId} {ax ay : Nat → Nat} {H : Heap} {locs : List Loc} {ls : Array Slot} (C : lawC p s m meth c b xs D K ax ay H locs ls) : W p l e room_1 s m #[Value.ref b] below meth c H locs 153 180094 (lw_Z below #[Value.ref b] s) (F0 m 1344 ls []) := by
  obtain ⟨C0, hE, hK, hNX, hNY, hAX, hAY, hdis, hPX, hPY, hS, hl⟩ := C
  obtain ⟨hx, hb, hr, hml, hown, hts, hX, hbl, hlocks, hgv⟩ := id C0
  have hbA : ¬ lawA s b := Nat.not_le.mpr hbl
  refine lv_aload_n hx hb dL_1344 rfl (lv_at hl 2 rfl) ?_
  refine x_vp (nn := 0) (As := []) (rest := []) hE (k_X8_crux l D K ax none ) wPre_blind (wPre_now hK hNX hPX) (x_recv hK hPX 0 (by decide) (xG_8 rfl) rfl) rfl mw_1015 mw_1016 mw_1017 mw_114 mw_1018 (by decide +kernel) ⟨Nat.le_of_ble_eq_true rfl, Nat.le_of_ble_eq_true rfl⟩ hl.1 rfl (Nat.le_of_ble_eq_true rfl) ⟨Nat.le_of_ble_eq_true rfl, Nat.le_of_ble_eq_true rfl⟩ dL_1345 (fun r1 hr1 => ?_)
  have hr1 : r1 = (-2) := hr1
  rw [hr1]
  refine lv_aload_n hx hb dL_1348 rfl (lv_at hl 1 rfl) ?_
  refine l_vi (nn := 0) (As := []) (rest := [.int (-2)]) hE hK hNY hPY hS hAY (k_X9_crux l D K ay ) (x_recv hK hPY 0 (by decide) (yG_9 rfl) rfl) rfl mw_1962 mw_1963 mw_1964 mw_123 mw_1965 (by decide +kernel) ⟨Nat.le_of_ble_eq_true rfl, Nat.le_of_ble_eq_true rfl⟩ hl.1 rfl (Nat.le_of_ble_eq_true rfl) ⟨Nat.le_of_ble_eq_true rfl, Nat.le_of_ble_eq_true rfl⟩ dL_1349 (fun r2 u2 H locs hr2 hk2 hS => ?_)
  have hr2 : r2 = (-2) := hr2
  rw [hr2]
  refine lv_icmp_eq (tgt := 1954) hx hb dL_1352 (by decide) (fun _ => ?_) (fun h => absurd rfl h)
  exact lawtail C0 hS hl
theorem dL_1357 : decode code 1357 = .ok (.aload_n 1, 1) := by decide +kernel
theorem dL_1358 : decode code 1358 = .ok (.aload_n 0, 1) := by decide +kernel
theorem dL_1359 : decode code 1359 = .ok (.iload_n 3, 1) := by decide +kernel
theorem dL_1360 : decode code 1360 = .ok (.iconst 1, 1) := by decide +kernel
theorem dL_1361 : decode code 1361 = .ok (.iadd, 1) := by decide +kernel
theorem dL_1362 : decode code 1362 = .ok (.iaload, 1) := by decide +kernel
theorem dL_1363 : decode code 1363 = .ok (.invokevirtual 213, 3) := by decide +kernel
theorem dL_1366 : decode code 1366 = .ok (.aload_n 2, 1) := by decide +kernel
theorem dL_1367 : decode code 1367 = .ok (.aload_n 0, 1) := by decide +kernel
theorem dL_1368 : decode code 1368 = .ok (.iload_n 3, 1) := by decide +kernel
theorem dL_1369 : decode code 1369 = .ok (.iconst 1, 1) := by decide +kernel
theorem dL_1370 : decode code 1370 = .ok (.iadd, 1) := by decide +kernel
theorem dL_1371 : decode code 1371 = .ok (.iaload, 1) := by decide +kernel
theorem dL_1372 : decode code 1372 = .ok (.invokevirtual 216, 3) := by decide +kernel
theorem dL_1375 : decode code 1375 = .ok (.if_icmp .eq 579, 3) := by decide +kernel
set_option maxHeartbeats 4000000 in
set_option maxRecDepth 100000 in
theorem lc_49 {p : Program} {l : Launch} {e : Env} {s : State} {m : MethodId} {below : List Frame} {meth : Method} {c : Code} {b : Nat} {xs : Nat → Int32} {D : va_G} {K : Nat → ClassId} {ax ay : Nat → Nat} {H : Heap} {locs : List Loc} {ls : Array Slot} (C : lawC p s m meth c b xs D K ax ay H locs ls) : W p l e room_1 s m #[Value.ref b] below meth c H locs 153 180094 (lw_Z below #[Value.ref b] s) (F0 m 1357 ls []) := by
  obtain ⟨C0, hE, hK, hNX, hNY, hAX, hAY, hdis, hPX, hPY, hS, hl⟩ := C
  obtain ⟨hx, hb, hr, hml, hown, hts, hX, hbl, hlocks, hgv⟩ := id C0
  have hbA : ¬ lawA s b := Nat.not_le.mpr hbl
  refine lv_aload_n hx hb dL_1357 rfl (lv_at hl 2 rfl) ?_
  refine lv_aload_n hx hb dL_1358 rfl (lv_at hl 3 rfl) ?_
  refine lv_iload_n hx hb dL_1359 rfl (lv_at hl 0 rfl) ?_
  refine lv_iconst (v := 1) hx hb dL_1360 (by decide) ?_
  refine lv_iadd hx hb dL_1361 ?_
  refine x_top (y := 1) (by decide) ?_
  refine va_sld (i := 1) hx hb hX hbl hbA hS (by unfold vp_in; decide) dL_1362 ?_
  refine x_vp (nn := 1) (As := [.int (xs (1 : Int32).toNatClampNeg)]) (rest := []) hE (k_X8_cost l D K ax none (xs (1 : Int32).toNatClampNeg)) wPre_blind (wPre_now hK hNX hPX) (x_recv hK hPX 0 (by decide) (xG_8 rfl) rfl) rfl mw_1019 mw_1020 mw_1021 mw_114 mw_1022 (by decide +kernel) ⟨Nat.le_of_ble_eq_true rfl, Nat.le_of_ble_eq_true rfl⟩ hl.1 rfl (Nat.le_of_ble_eq_true rfl) ⟨Nat.le_of_ble_eq_true rfl, Nat.le_of_ble_eq_true rfl⟩ dL_1363 (fun r1 hr1 => ?_)
  have hr1 : r1 = (-2) := hr1
  rw [hr1]
  refine lv_aload_n hx hb dL_1366 rfl (lv_at hl 1 rfl) ?_
  refine lv_aload_n hx hb dL_1367 rfl (lv_at hl 3 rfl) ?_
  refine lv_iload_n hx hb dL_1368 rfl (lv_at hl 0 rfl) ?_
  refine lv_iconst (v := 1) hx hb dL_1369 (by decide) ?_
  refine lv_iadd hx hb dL_1370 ?_
  refine x_top (y := 1) (by decide) ?_
  refine va_sld (i := 1) hx hb hX hbl hbA hS (by unfold vp_in; decide) dL_1371 ?_
  refine l_vi (nn := 1) (As := [.int (xs (1 : Int32).toNatClampNeg)]) (rest := [.int (-2)]) hE hK hNY hPY hS hAY (k_X9_cost l D K ay (xs (1 : Int32).toNatClampNeg)) (x_recv hK hPY 0 (by decide) (yG_9 rfl) rfl) rfl mw_1966 mw_1967 mw_1968 mw_123 mw_1969 (by decide +kernel) ⟨Nat.le_of_ble_eq_true rfl, Nat.le_of_ble_eq_true rfl⟩ hl.1 rfl (Nat.le_of_ble_eq_true rfl) ⟨Nat.le_of_ble_eq_true rfl, Nat.le_of_ble_eq_true rfl⟩ dL_1372 (fun r2 u2 H locs hr2 hk2 hS => ?_)
  have hr2 : r2 = (-2) := hr2
  rw [hr2]
  refine lv_icmp_eq (tgt := 1954) hx hb dL_1375 (by decide) (fun _ => ?_) (fun h => absurd rfl h)
  exact lawtail C0 hS hl
theorem dL_1380 : decode code 1380 = .ok (.aload_n 1, 1) := by decide +kernel
theorem dL_1381 : decode code 1381 = .ok (.aload_n 0, 1) := by decide +kernel
theorem dL_1382 : decode code 1382 = .ok (.iload_n 3, 1) := by decide +kernel
theorem dL_1383 : decode code 1383 = .ok (.iconst 1, 1) := by decide +kernel
theorem dL_1384 : decode code 1384 = .ok (.iadd, 1) := by decide +kernel
theorem dL_1385 : decode code 1385 = .ok (.iaload, 1) := by decide +kernel
theorem dL_1386 : decode code 1386 = .ok (.invokevirtual 217, 3) := by decide +kernel
theorem dL_1389 : decode code 1389 = .ok (.aload_n 2, 1) := by decide +kernel
theorem dL_1390 : decode code 1390 = .ok (.aload_n 0, 1) := by decide +kernel
theorem dL_1391 : decode code 1391 = .ok (.iload_n 3, 1) := by decide +kernel
theorem dL_1392 : decode code 1392 = .ok (.iconst 1, 1) := by decide +kernel
theorem dL_1393 : decode code 1393 = .ok (.iadd, 1) := by decide +kernel
theorem dL_1394 : decode code 1394 = .ok (.iaload, 1) := by decide +kernel
theorem dL_1395 : decode code 1395 = .ok (.invokevirtual 220, 3) := by decide +kernel
theorem dL_1398 : decode code 1398 = .ok (.if_icmp .eq 556, 3) := by decide +kernel
set_option maxHeartbeats 4000000 in
set_option maxRecDepth 100000 in
theorem lc_50 {p : Program} {l : Launch} {e : Env} {s : State} {m : MethodId} {below : List Frame} {meth : Method} {c : Code} {b : Nat} {xs : Nat → Int32} {D : va_G} {K : Nat → ClassId} {ax ay : Nat → Nat} {H : Heap} {locs : List Loc} {ls : Array Slot} (C : lawC p s m meth c b xs D K ax ay H locs ls) : W p l e room_1 s m #[Value.ref b] below meth c H locs 153 180094 (lw_Z below #[Value.ref b] s) (F0 m 1380 ls []) := by
  obtain ⟨C0, hE, hK, hNX, hNY, hAX, hAY, hdis, hPX, hPY, hS, hl⟩ := C
  obtain ⟨hx, hb, hr, hml, hown, hts, hX, hbl, hlocks, hgv⟩ := id C0
  have hbA : ¬ lawA s b := Nat.not_le.mpr hbl
  refine lv_aload_n hx hb dL_1380 rfl (lv_at hl 2 rfl) ?_
  refine lv_aload_n hx hb dL_1381 rfl (lv_at hl 3 rfl) ?_
  refine lv_iload_n hx hb dL_1382 rfl (lv_at hl 0 rfl) ?_
  refine lv_iconst (v := 1) hx hb dL_1383 (by decide) ?_
  refine lv_iadd hx hb dL_1384 ?_
  refine x_top (y := 1) (by decide) ?_
  refine va_sld (i := 1) hx hb hX hbl hbA hS (by unfold vp_in; decide) dL_1385 ?_
  refine x_vp (nn := 1) (As := [.int (xs (1 : Int32).toNatClampNeg)]) (rest := []) hE (k_X8_judge l D K ax none (xs (1 : Int32).toNatClampNeg)) wPre_blind (wPre_now hK hNX hPX) (x_recv hK hPX 0 (by decide) (xG_8 rfl) rfl) rfl mw_1126 mw_1127 mw_1128 mw_114 mw_1129 (by decide +kernel) ⟨Nat.le_of_ble_eq_true rfl, Nat.le_of_ble_eq_true rfl⟩ hl.1 rfl (Nat.le_of_ble_eq_true rfl) ⟨Nat.le_of_ble_eq_true rfl, Nat.le_of_ble_eq_true rfl⟩ dL_1386 (fun r1 hr1 => ?_)
  have hr1 : r1 = (-2) := hr1
  rw [hr1]
  refine lv_aload_n hx hb dL_1389 rfl (lv_at hl 1 rfl) ?_
  refine lv_aload_n hx hb dL_1390 rfl (lv_at hl 3 rfl) ?_
  refine lv_iload_n hx hb dL_1391 rfl (lv_at hl 0 rfl) ?_
  refine lv_iconst (v := 1) hx hb dL_1392 (by decide) ?_
  refine lv_iadd hx hb dL_1393 ?_
  refine x_top (y := 1) (by decide) ?_
  refine va_sld (i := 1) hx hb hX hbl hbA hS (by unfold vp_in; decide) dL_1394 ?_
  refine l_vi (nn := 1) (As := [.int (xs (1 : Int32).toNatClampNeg)]) (rest := [.int (-2)]) hE hK hNY hPY hS hAY (k_X9_judge l D K ay (xs (1 : Int32).toNatClampNeg)) (x_recv hK hPY 0 (by decide) (yG_9 rfl) rfl) rfl mw_1970 mw_1971 mw_1972 mw_123 mw_1973 (by decide +kernel) ⟨Nat.le_of_ble_eq_true rfl, Nat.le_of_ble_eq_true rfl⟩ hl.1 rfl (Nat.le_of_ble_eq_true rfl) ⟨Nat.le_of_ble_eq_true rfl, Nat.le_of_ble_eq_true rfl⟩ dL_1395 (fun r2 u2 H locs hr2 hk2 hS => ?_)
  have hr2 : r2 = (-2) := hr2
  rw [hr2]
  refine lv_icmp_eq (tgt := 1954) hx hb dL_1398 (by decide) (fun _ => ?_) (fun h => absurd rfl h)
  exact lawtail C0 hS hl
theorem dL_1403 : decode code 1403 = .ok (.aload_n 1, 1) := by decide +kernel
theorem dL_1404 : decode code 1404 = .ok (.aload_n 0, 1) := by decide +kernel
theorem dL_1405 : decode code 1405 = .ok (.iload_n 3, 1) := by decide +kernel
theorem dL_1406 : decode code 1406 = .ok (.iconst 1, 1) := by decide +kernel
theorem dL_1407 : decode code 1407 = .ok (.iadd, 1) := by decide +kernel
theorem dL_1408 : decode code 1408 = .ok (.iaload, 1) := by decide +kernel
theorem dL_1409 : decode code 1409 = .ok (.invokevirtual 221, 3) := by decide +kernel
theorem dL_1412 : decode code 1412 = .ok (.aload_n 2, 1) := by decide +kernel
theorem dL_1413 : decode code 1413 = .ok (.aload_n 0, 1) := by decide +kernel
theorem dL_1414 : decode code 1414 = .ok (.iload_n 3, 1) := by decide +kernel
theorem dL_1415 : decode code 1415 = .ok (.iconst 1, 1) := by decide +kernel
theorem dL_1416 : decode code 1416 = .ok (.iadd, 1) := by decide +kernel
theorem dL_1417 : decode code 1417 = .ok (.iaload, 1) := by decide +kernel
theorem dL_1418 : decode code 1418 = .ok (.invokevirtual 224, 3) := by decide +kernel
theorem dL_1421 : decode code 1421 = .ok (.if_icmp .eq 533, 3) := by decide +kernel
set_option maxHeartbeats 4000000 in
set_option maxRecDepth 100000 in
theorem lc_51 {p : Program} {l : Launch} {e : Env} {s : State} {m : MethodId} {below : List Frame} {meth : Method} {c : Code} {b : Nat} {xs : Nat → Int32} {D : va_G} {K : Nat → ClassId} {ax ay : Nat → Nat} {H : Heap} {locs : List Loc} {ls : Array Slot} (C : lawC p s m meth c b xs D K ax ay H locs ls) : W p l e room_1 s m #[Value.ref b] below meth c H locs 153 180094 (lw_Z below #[Value.ref b] s) (F0 m 1403 ls []) := by
  obtain ⟨C0, hE, hK, hNX, hNY, hAX, hAY, hdis, hPX, hPY, hS, hl⟩ := C
  obtain ⟨hx, hb, hr, hml, hown, hts, hX, hbl, hlocks, hgv⟩ := id C0
  have hbA : ¬ lawA s b := Nat.not_le.mpr hbl
  refine lv_aload_n hx hb dL_1403 rfl (lv_at hl 2 rfl) ?_
  refine lv_aload_n hx hb dL_1404 rfl (lv_at hl 3 rfl) ?_
  refine lv_iload_n hx hb dL_1405 rfl (lv_at hl 0 rfl) ?_
  refine lv_iconst (v := 1) hx hb dL_1406 (by decide) ?_
  refine lv_iadd hx hb dL_1407 ?_
  refine x_top (y := 1) (by decide) ?_
  refine va_sld (i := 1) hx hb hX hbl hbA hS (by unfold vp_in; decide) dL_1408 ?_
  refine x_vp (nn := 1) (As := [.int (xs (1 : Int32).toNatClampNeg)]) (rest := []) hE (k_X8_verdict l D K ax none (xs (1 : Int32).toNatClampNeg)) wPre_blind (wPre_now hK hNX hPX) (x_recv hK hPX 0 (by decide) (xG_8 rfl) rfl) rfl mw_1151 mw_1152 mw_1153 mw_114 mw_1154 (by decide +kernel) ⟨Nat.le_of_ble_eq_true rfl, Nat.le_of_ble_eq_true rfl⟩ hl.1 rfl (Nat.le_of_ble_eq_true rfl) ⟨Nat.le_of_ble_eq_true rfl, Nat.le_of_ble_eq_true rfl⟩ dL_1409 (fun r1 hr1 => ?_)
  have hr1 : r1 = (-2) := hr1
  rw [hr1]
  refine lv_aload_n hx hb dL_1412 rfl (lv_at hl 1 rfl) ?_
  refine lv_aload_n hx hb dL_1413 rfl (lv_at hl 3 rfl) ?_
  refine lv_iload_n hx hb dL_1414 rfl (lv_at hl 0 rfl) ?_
  refine lv_iconst (v := 1) hx hb dL_1415 (by decide) ?_
  refine lv_iadd hx hb dL_1416 ?_
  refine x_top (y := 1) (by decide) ?_
  refine va_sld (i := 1) hx hb hX hbl hbA hS (by unfold vp_in; decide) dL_1417 ?_
  refine l_vi (nn := 1) (As := [.int (xs (1 : Int32).toNatClampNeg)]) (rest := [.int (-2)]) hE hK hNY hPY hS hAY (k_X9_verdict l D K ay (xs (1 : Int32).toNatClampNeg)) (x_recv hK hPY 0 (by decide) (yG_9 rfl) rfl) rfl mw_1982 mw_1983 mw_1984 mw_123 mw_1985 (by decide +kernel) ⟨Nat.le_of_ble_eq_true rfl, Nat.le_of_ble_eq_true rfl⟩ hl.1 rfl (Nat.le_of_ble_eq_true rfl) ⟨Nat.le_of_ble_eq_true rfl, Nat.le_of_ble_eq_true rfl⟩ dL_1418 (fun r2 u2 H locs hr2 hk2 hS => ?_)
  have hr2 : r2 = (-2) := hr2
  rw [hr2]
  refine lv_icmp_eq (tgt := 1954) hx hb dL_1421 (by decide) (fun _ => ?_) (fun h => absurd rfl h)
  exact lawtail C0 hS hl
theorem dL_1426 : decode code 1426 = .ok (.aload_n 1, 1) := by decide +kernel
theorem dL_1427 : decode code 1427 = .ok (.aload_n 0, 1) := by decide +kernel
theorem dL_1428 : decode code 1428 = .ok (.iload_n 3, 1) := by decide +kernel
theorem dL_1429 : decode code 1429 = .ok (.iconst 1, 1) := by decide +kernel
theorem dL_1430 : decode code 1430 = .ok (.iadd, 1) := by decide +kernel
theorem dL_1431 : decode code 1431 = .ok (.iaload, 1) := by decide +kernel
theorem dL_1432 : decode code 1432 = .ok (.invokevirtual 225, 3) := by decide +kernel
theorem dL_1435 : decode code 1435 = .ok (.aload_n 2, 1) := by decide +kernel
theorem dL_1436 : decode code 1436 = .ok (.aload_n 0, 1) := by decide +kernel
theorem dL_1437 : decode code 1437 = .ok (.iload_n 3, 1) := by decide +kernel
theorem dL_1438 : decode code 1438 = .ok (.iconst 1, 1) := by decide +kernel
theorem dL_1439 : decode code 1439 = .ok (.iadd, 1) := by decide +kernel
theorem dL_1440 : decode code 1440 = .ok (.iaload, 1) := by decide +kernel
theorem dL_1441 : decode code 1441 = .ok (.invokevirtual 228, 3) := by decide +kernel
theorem dL_1444 : decode code 1444 = .ok (.if_icmp .eq 510, 3) := by decide +kernel
set_option maxHeartbeats 4000000 in
set_option maxRecDepth 100000 in
theorem lc_52 {p : Program} {l : Launch} {e : Env} {s : State} {m : MethodId} {below : List Frame} {meth : Method} {c : Code} {b : Nat} {xs : Nat → Int32} {D : va_G} {K : Nat → ClassId} {ax ay : Nat → Nat} {H : Heap} {locs : List Loc} {ls : Array Slot} (C : lawC p s m meth c b xs D K ax ay H locs ls) : W p l e room_1 s m #[Value.ref b] below meth c H locs 153 180094 (lw_Z below #[Value.ref b] s) (F0 m 1426 ls []) := by
  obtain ⟨C0, hE, hK, hNX, hNY, hAX, hAY, hdis, hPX, hPY, hS, hl⟩ := C
  obtain ⟨hx, hb, hr, hml, hown, hts, hX, hbl, hlocks, hgv⟩ := id C0
  have hbA : ¬ lawA s b := Nat.not_le.mpr hbl
  refine lv_aload_n hx hb dL_1426 rfl (lv_at hl 2 rfl) ?_
  refine lv_aload_n hx hb dL_1427 rfl (lv_at hl 3 rfl) ?_
  refine lv_iload_n hx hb dL_1428 rfl (lv_at hl 0 rfl) ?_
  refine lv_iconst (v := 1) hx hb dL_1429 (by decide) ?_
  refine lv_iadd hx hb dL_1430 ?_
  refine x_top (y := 1) (by decide) ?_
  refine va_sld (i := 1) hx hb hX hbl hbA hS (by unfold vp_in; decide) dL_1431 ?_
  refine x_vp (nn := 1) (As := [.int (xs (1 : Int32).toNatClampNeg)]) (rest := []) hE (k_X8_lies l D K ax none (xs (1 : Int32).toNatClampNeg)) wPre_blind (wPre_now hK hNX hPX) (x_recv hK hPX 0 (by decide) (xG_8 rfl) rfl) rfl mw_1155 mw_1156 mw_1157 mw_114 mw_1158 (by decide +kernel) ⟨Nat.le_of_ble_eq_true rfl, Nat.le_of_ble_eq_true rfl⟩ hl.1 rfl (Nat.le_of_ble_eq_true rfl) ⟨Nat.le_of_ble_eq_true rfl, Nat.le_of_ble_eq_true rfl⟩ dL_1432 (fun r1 hr1 => ?_)
  have hr1 : r1 = (-2) := hr1
  rw [hr1]
  refine lv_aload_n hx hb dL_1435 rfl (lv_at hl 1 rfl) ?_
  refine lv_aload_n hx hb dL_1436 rfl (lv_at hl 3 rfl) ?_
  refine lv_iload_n hx hb dL_1437 rfl (lv_at hl 0 rfl) ?_
  refine lv_iconst (v := 1) hx hb dL_1438 (by decide) ?_
  refine lv_iadd hx hb dL_1439 ?_
  refine x_top (y := 1) (by decide) ?_
  refine va_sld (i := 1) hx hb hX hbl hbA hS (by unfold vp_in; decide) dL_1440 ?_
  refine l_vi (nn := 1) (As := [.int (xs (1 : Int32).toNatClampNeg)]) (rest := [.int (-2)]) hE hK hNY hPY hS hAY (k_X9_lies l D K ay (xs (1 : Int32).toNatClampNeg)) (x_recv hK hPY 0 (by decide) (yG_9 rfl) rfl) rfl mw_1986 mw_1987 mw_1988 mw_123 mw_1989 (by decide +kernel) ⟨Nat.le_of_ble_eq_true rfl, Nat.le_of_ble_eq_true rfl⟩ hl.1 rfl (Nat.le_of_ble_eq_true rfl) ⟨Nat.le_of_ble_eq_true rfl, Nat.le_of_ble_eq_true rfl⟩ dL_1441 (fun r2 u2 H locs hr2 hk2 hS => ?_)
  have hr2 : r2 = (-2) := hr2
  rw [hr2]
  refine lv_icmp_eq (tgt := 1954) hx hb dL_1444 (by decide) (fun _ => ?_) (fun h => absurd rfl h)
  exact lawtail C0 hS hl
theorem dL_1449 : decode code 1449 = .ok (.aload_n 1, 1) := by decide +kernel
theorem dL_1450 : decode code 1450 = .ok (.aload_n 0, 1) := by decide +kernel
theorem dL_1451 : decode code 1451 = .ok (.iload_n 3, 1) := by decide +kernel
theorem dL_1452 : decode code 1452 = .ok (.iconst 1, 1) := by decide +kernel
theorem dL_1453 : decode code 1453 = .ok (.iadd, 1) := by decide +kernel
theorem dL_1454 : decode code 1454 = .ok (.iaload, 1) := by decide +kernel
theorem dL_1455 : decode code 1455 = .ok (.invokevirtual 229, 3) := by decide +kernel
theorem dL_1458 : decode code 1458 = .ok (.aload_n 2, 1) := by decide +kernel
theorem dL_1459 : decode code 1459 = .ok (.aload_n 0, 1) := by decide +kernel
theorem dL_1460 : decode code 1460 = .ok (.iload_n 3, 1) := by decide +kernel
theorem dL_1461 : decode code 1461 = .ok (.iconst 1, 1) := by decide +kernel
theorem dL_1462 : decode code 1462 = .ok (.iadd, 1) := by decide +kernel
theorem dL_1463 : decode code 1463 = .ok (.iaload, 1) := by decide +kernel
theorem dL_1464 : decode code 1464 = .ok (.invokevirtual 232, 3) := by decide +kernel
theorem dL_1467 : decode code 1467 = .ok (.if_icmp .eq 487, 3) := by decide +kernel
set_option maxHeartbeats 4000000 in
set_option maxRecDepth 100000 in
theorem lc_53 {p : Program} {l : Launch} {e : Env} {s : State} {m : MethodId} {below : List Frame} {meth : Method} {c : Code} {b : Nat} {xs : Nat → Int32} {D : va_G} {K : Nat → ClassId} {ax ay : Nat → Nat} {H : Heap} {locs : List Loc} {ls : Array Slot} (C : lawC p s m meth c b xs D K ax ay H locs ls) : W p l e room_1 s m #[Value.ref b] below meth c H locs 153 180094 (lw_Z below #[Value.ref b] s) (F0 m 1449 ls []) := by
  obtain ⟨C0, hE, hK, hNX, hNY, hAX, hAY, hdis, hPX, hPY, hS, hl⟩ := C
  obtain ⟨hx, hb, hr, hml, hown, hts, hX, hbl, hlocks, hgv⟩ := id C0
  have hbA : ¬ lawA s b := Nat.not_le.mpr hbl
  refine lv_aload_n hx hb dL_1449 rfl (lv_at hl 2 rfl) ?_
  refine lv_aload_n hx hb dL_1450 rfl (lv_at hl 3 rfl) ?_
  refine lv_iload_n hx hb dL_1451 rfl (lv_at hl 0 rfl) ?_
  refine lv_iconst (v := 1) hx hb dL_1452 (by decide) ?_
  refine lv_iadd hx hb dL_1453 ?_
  refine x_top (y := 1) (by decide) ?_
  refine va_sld (i := 1) hx hb hX hbl hbA hS (by unfold vp_in; decide) dL_1454 ?_
  refine x_vp (nn := 1) (As := [.int (xs (1 : Int32).toNatClampNeg)]) (rest := []) hE (k_X8_orders l D K ax none (xs (1 : Int32).toNatClampNeg)) wPre_blind (wPre_now hK hNX hPX) (x_recv hK hPX 0 (by decide) (xG_8 rfl) rfl) rfl mw_1197 mw_1198 mw_1199 mw_114 mw_1200 (by decide +kernel) ⟨Nat.le_of_ble_eq_true rfl, Nat.le_of_ble_eq_true rfl⟩ hl.1 rfl (Nat.le_of_ble_eq_true rfl) ⟨Nat.le_of_ble_eq_true rfl, Nat.le_of_ble_eq_true rfl⟩ dL_1455 (fun r1 hr1 => ?_)
  have hr1 : r1 = (-2) := hr1
  rw [hr1]
  refine lv_aload_n hx hb dL_1458 rfl (lv_at hl 1 rfl) ?_
  refine lv_aload_n hx hb dL_1459 rfl (lv_at hl 3 rfl) ?_
  refine lv_iload_n hx hb dL_1460 rfl (lv_at hl 0 rfl) ?_
  refine lv_iconst (v := 1) hx hb dL_1461 (by decide) ?_
  refine lv_iadd hx hb dL_1462 ?_
  refine x_top (y := 1) (by decide) ?_
  refine va_sld (i := 1) hx hb hX hbl hbA hS (by unfold vp_in; decide) dL_1463 ?_
  refine l_vi (nn := 1) (As := [.int (xs (1 : Int32).toNatClampNeg)]) (rest := [.int (-2)]) hE hK hNY hPY hS hAY (k_X9_orders l D K ay (xs (1 : Int32).toNatClampNeg)) (x_recv hK hPY 0 (by decide) (yG_9 rfl) rfl) rfl mw_1998 mw_1999 mw_2000 mw_123 mw_2001 (by decide +kernel) ⟨Nat.le_of_ble_eq_true rfl, Nat.le_of_ble_eq_true rfl⟩ hl.1 rfl (Nat.le_of_ble_eq_true rfl) ⟨Nat.le_of_ble_eq_true rfl, Nat.le_of_ble_eq_true rfl⟩ dL_1464 (fun r2 u2 H locs hr2 hk2 hS => ?_)
  have hr2 : r2 = (-2) := hr2
  rw [hr2]
  refine lv_icmp_eq (tgt := 1954) hx hb dL_1467 (by decide) (fun _ => ?_) (fun h => absurd rfl h)
  exact lawtail C0 hS hl
