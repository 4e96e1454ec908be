theorem dL_1285 : decode code 1285 = .ok (.aload_n 1, 1) := by decide +kernel
theorem dL_1286 : decode code 1286 = .ok (.aload_n 0, 1) := by decide +kernel
theorem dL_1287 : decode code 1287 = .ok (.iload_n 3, 1) := by decide +kernel
theorem dL_1288 : decode code 1288 = .ok (.iconst 1, 1) := by decide +kernel
theorem dL_1289 : decode code 1289 = .ok (.iadd, 1) := by decide +kernel
theorem dL_1290 : decode code 1290 = .ok (.iaload, 1) := by decide +kernel
theorem dL_1291 : decode code 1291 = .ok (.invokevirtual 197, 3) := by decide +kernel
theorem dL_1294 : decode code 1294 = .ok (.pop, 1) := by decide +kernel
theorem dL_1295 : decode code 1295 = .ok (.aload_n 2, 1) := by decide +kernel
theorem dL_1296 : decode code 1296 = .ok (.aload_n 0, 1) := by decide +kernel
theorem dL_1297 : decode code 1297 = .ok (.iload_n 3, 1) := by decide +kernel
theorem dL_1298 : decode code 1298 = .ok (.iconst 1, 1) := by decide +kernel
theorem dL_1299 : decode code 1299 = .ok (.iadd, 1) := by decide +kernel
theorem dL_1300 : decode code 1300 = .ok (.iaload, 1) := by decide +kernel
theorem dL_1301 : decode code 1301 = .ok (.invokevirtual 200, 3) := by decide +kernel
theorem dL_1304 : decode code 1304 = .ok (.pop, 1) := by decide +kernel
theorem dL_1305 : decode code 1305 = .ok (.goto 649, 3) := by decide +kernel
set_option maxHeartbeats 4000000 in
set_option maxRecDepth 100000 in
theorem lc_45 {p : Program} {l : Launch} {e : Env} {s : State} {m : MethodId} {below : List Frame} {meth : Method} {c : Code} {b L : Nat} {xs : Nat → Int32} {D : va_G} {K : Nat → ClassId} {ay ax : Nat → Nat} {mm : Option Nat} {N cells slots : Nat} {v ar : sI} {al : sL} {v' ar' : sI} {al' : sL} {H : Heap} {locs : List Loc} {ls : Array Slot} {tk tv : Nat → Nat} {i : Int} (hi : 0 ≤ i ∧ i + 6 ≤ (L : Int) ∧ L ≤ 3072) (F : lawF p s m meth c b L xs D K tk tv) (C : lawI s D K ay ax mm N cells slots v ar al v' ar' al' H locs) (hl : lv_has ls 4 [(3, .int (iI i)), (2, .ref (ay 0)), (1, .ref (ax 0)), (0, .ref b)]) (kk : lawK p l e s m below meth c b D K ay i) : W p l e room_1 s m #[Value.ref b] below meth c H locs cells slots (lw_Z below #[Value.ref b] s) (F0 m 1285 ls []) := by
  obtain ⟨C0, hE, hK, hT, hTR⟩ := F
  obtain ⟨hx, hb, hr, hml, hown, hts, hX, hbl, hlocks, hgv⟩ := id C0
  have hbA : ¬ lawA s b := Nat.not_le.mpr hbl
  obtain ⟨hNX, hNY, hAX, hAY, hdis, hPX, hPY, hS, hXI, hYI, hmd, hR⟩ := C
  have hcc := lawM_c hmd
  have hNN := lawM_N hmd
  obtain ⟨z1, hz1, ez1⟩ := iI_of (xs (iI (i + 1)).toNatClampNeg)
  have cont : ∀ (ax : Nat → Nat) (mm : Option Nat) (N cells slots : Nat) (v ar : sI) (al : sL) (H : Heap) (locs : List Loc) (ls : Array Slot) (r : Int32), apart ax N → (∀ i, i < N → lawA s (ax i)) → (∀ i j, i < N → j < 21 → ax i ≠ ay j) → va_P D xcl (wW ax (xG ax K mm) N v ar al) H → va_P D xcl (wW ay (yG ay K) 21 v' ar' al') H → va_S (lawA s) s.heap H locs → XI v → lawM ax mm N cells slots → lawR v ar al v' ar' al' → lv_has ls 4 [(3, .int (iI i)), (2, .ref (ay 0)), (1, .ref (ax 0)), (0, .ref b)] → W p l e room_1 s m #[Value.ref b] below meth c H locs cells slots (lw_Z below #[Value.ref b] s) (F0 m 1294 ls [.int r]) := by
    intro ax mm N cells slots v ar al H locs ls r hNX hAX hdis hPX hPY hS hXI hmd hR hl
    have hcc := lawM_c hmd
    refine lv_pop hx hb dL_1294 rfl ?_
    refine lv_aload_n hx hb dL_1295 rfl (lv_at hl 1 rfl) ?_
    refine lv_aload_n hx hb dL_1296 rfl (lv_at hl 3 rfl) ?_
    refine lv_iload_n hx hb dL_1297 rfl (lv_at hl 0 rfl) ?_
    refine lv_iconst (v := iI (1)) hx hb dL_1298 (by decide) ?_
    refine lv_iadd hx hb dL_1299 ?_
    refine x_top (y := iI (i + 1)) (iI_add _ _) ?_
    refine va_sld (i := iI (i + 1)) hx hb hX hbl hbA hS (iI_in (n := L) (by omega)) dL_1300 ?_
    refine x_top ez1 ?_
    refine l_viG (nn := 1) (As := [.int (iI (z1))]) (rest := []) hE hS hAY (s_X9_around l D K ay v' ar' al' hYI  (z1) (by omega)) wPre_blind (wPre_now hK hNY hPY) (x_recv hK hPY 0 (by decide) (yG_9 rfl) rfl) rfl mw_1946 mw_1947 mw_1948 mw_123 mw_1949 (by decide +kernel) ⟨Nat.le_of_ble_eq_true rfl, Nat.le_of_ble_eq_true rfl⟩ hl.1 rfl (Nat.le_of_ble_eq_true rfl) hcc dL_1301 (fun r2 v2 ar2 al2 H2 locs2 hp2 hPY2 hk2 hS2 => ?_)
    have hYI2 : YI v2 ar2 := hp2.2.1
    have hPX2 := w_keep hPX (fun i j hi hj e => hdis j i hj hi e.symm) hk2
    refine lv_pop hx hb dL_1304 rfl ?_
    refine lv_goto (tgt := 1954) hx hb dL_1305 (by decide) ?_
    exact kk ax mm N cells slots v ar al v2 ar2 al2 H2 locs2 ls ⟨hNX, hNY, hAX, hAY, hdis, hPX2, hPY2, hS2, hXI, hYI2, hmd, R_y hR (hp2.2.2.2.1 1 (by decide)) (hp2.2.2.2.1 2 (by decide)) (hp2.2.2.2.1 11 (by decide))⟩ hl
  refine lv_aload_n hx hb dL_1285 rfl (lv_at hl 2 rfl) ?_
  refine lv_aload_n hx hb dL_1286 rfl (lv_at hl 3 rfl) ?_
  refine lv_iload_n hx hb dL_1287 rfl (lv_at hl 0 rfl) ?_
  refine lv_iconst (v := iI (1)) hx hb dL_1288 (by decide) ?_
  refine lv_iadd hx hb dL_1289 ?_
  refine x_top (y := iI (i + 1)) (iI_add _ _) ?_
  refine va_sld (i := iI (i + 1)) hx hb hX hbl hbA hS (iI_in (n := L) (by omega)) dL_1290 ?_
  refine x_top ez1 ?_
  refine l_viG (nn := 1) (As := [.int (iI (z1))]) (rest := []) hE hS hAX (s_X8_around_0 l D K ax mm N hNN v ar al hXI   (z1) (by omega)) wPre_blind (wPre_now hK hNX hPX) (x_recv hK hPX 0 (by omega) (xG_8 rfl) rfl) rfl mw_1006 mw_1007 mw_1008 mw_114 mw_1009 (by decide +kernel) ⟨Nat.le_of_ble_eq_true rfl, Nat.le_of_ble_eq_true rfl⟩ hl.1 rfl (Nat.le_of_ble_eq_true rfl) hcc dL_1291 (fun r1 v1 ar1 al1 H1 locs1 hp1 hPX1 hk1 hS1 => ?_)
  exact cont ax mm N cells slots v1 ar1 al1 H1 locs1 ls r1 hNX hAX hdis hPX1 (w_keep hPY hdis hk1) hS1 hp1.2.1 hmd (R_x hR (fun i j h => hp1.2.2 i j (fl_out (by decide) h))) hl
theorem dL_1308 : decode code 1308 = .ok (.aload_n 1, 1) := by decide +kernel
theorem dL_1309 : decode code 1309 = .ok (.invokevirtual 201, 3) := by decide +kernel
theorem dL_1312 : decode code 1312 = .ok (.pop, 1) := by decide +kernel
theorem dL_1313 : decode code 1313 = .ok (.aload_n 2, 1) := by decide +kernel
theorem dL_1314 : decode code 1314 = .ok (.invokevirtual 204, 3) := by decide +kernel
theorem dL_1317 : decode code 1317 = .ok (.pop, 1) := by decide +kernel
theorem dL_1318 : decode code 1318 = .ok (.goto 636, 3) := by decide +kernel
set_option maxHeartbeats 4000000 in
set_option maxRecDepth 100000 in
theorem lc_46 {p : Program} {l : Launch} {e : Env} {s : State} {m : MethodId} {below : List Frame} {meth : Method} {c : Code} {b L : Nat} {xs : Nat → Int32} {D : va_G} {K : Nat → ClassId} {ay ax : Nat → Nat} {mm : Option Nat} {N cells slots : Nat} {v ar : sI} {al : sL} {v' ar' : sI} {al' : sL} {H : Heap} {locs : List Loc} {ls : Array Slot} {tk tv : Nat → Nat} {i : Int} (hi : 0 ≤ i ∧ i + 6 ≤ (L : Int) ∧ L ≤ 3072) (F : lawF p s m meth c b L xs D K tk tv) (C : lawI s D K ay ax mm N cells slots v ar al v' ar' al' H locs) (hl : lv_has ls 4 [(3, .int (iI i)), (2, .ref (ay 0)), (1, .ref (ax 0)), (0, .ref b)]) (kk : lawK p l e s m below meth c b D K ay i) : W p l e room_1 s m #[Value.ref b] below meth c H locs cells slots (lw_Z below #[Value.ref b] s) (F0 m 1308 ls []) := by
  obtain ⟨C0, hE, hK, hT, hTR⟩ := F
  obtain ⟨hx, hb, hr, hml, hown, hts, hX, hbl, hlocks, hgv⟩ := id C0
  have hbA : ¬ lawA s b := Nat.not_le.mpr hbl
  obtain ⟨hNX, hNY, hAX, hAY, hdis, hPX, hPY, hS, hXI, hYI, hmd, hR⟩ := C
  have hcc := lawM_c hmd
  have hNN := lawM_N hmd
  have cont : ∀ (ax : Nat → Nat) (mm : Option Nat) (N cells slots : Nat) (v ar : sI) (al : sL) (H : Heap) (locs : List Loc) (ls : Array Slot) (r : Int32), apart ax N → (∀ i, i < N → lawA s (ax i)) → (∀ i j, i < N → j < 21 → ax i ≠ ay j) → va_P D xcl (wW ax (xG ax K mm) N v ar al) H → va_P D xcl (wW ay (yG ay K) 21 v' ar' al') H → va_S (lawA s) s.heap H locs → XI v → lawM ax mm N cells slots → lawR v ar al v' ar' al' → lv_has ls 4 [(3, .int (iI i)), (2, .ref (ay 0)), (1, .ref (ax 0)), (0, .ref b)] → W p l e room_1 s m #[Value.ref b] below meth c H locs cells slots (lw_Z below #[Value.ref b] s) (F0 m 1312 ls [.int r]) := by
    intro ax mm N cells slots v ar al H locs ls r hNX hAX hdis hPX hPY hS hXI hmd hR hl
    have hcc := lawM_c hmd
    refine lv_pop hx hb dL_1312 rfl ?_
    refine lv_aload_n hx hb dL_1313 rfl (lv_at hl 1 rfl) ?_
    refine l_viG (nn := 0) (As := []) (rest := []) hE hS hAY (s_X9_blunder l D K ay v' ar' al' hYI  ) wPre_blind (wPre_now hK hNY hPY) (x_recv hK hPY 0 (by decide) (yG_9 rfl) rfl) rfl mw_1950 mw_1951 mw_1952 mw_123 mw_1953 (by decide +kernel) ⟨Nat.le_of_ble_eq_true rfl, Nat.le_of_ble_eq_true rfl⟩ hl.1 rfl (Nat.le_of_ble_eq_true rfl) hcc dL_1314 (fun r2 v2 ar2 al2 H2 locs2 hp2 hPY2 hk2 hS2 => ?_)
    have hYI2 : YI v2 ar2 := hp2.2.1
    have hPX2 := w_keep hPX (fun i j hi hj e => hdis j i hj hi e.symm) hk2
    refine lv_pop hx hb dL_1317 rfl ?_
    refine lv_goto (tgt := 1954) hx hb dL_1318 (by decide) ?_
    exact kk ax mm N cells slots v ar al v2 ar2 al2 H2 locs2 ls ⟨hNX, hNY, hAX, hAY, hdis, hPX2, hPY2, hS2, hXI, hYI2, hmd, R_y hR (hp2.2.2.2.1 1 (by decide)) (hp2.2.2.2.1 2 (by decide)) (hp2.2.2.2.1 11 (by decide))⟩ hl
  refine lv_aload_n hx hb dL_1308 rfl (lv_at hl 2 rfl) ?_
  rcases hmd with ⟨rfl, rfl, rfl, rfl⟩ | ⟨rfl, rfl, rfl, rfl⟩
  · refine W_book (fun hb1 hb2 => ?_)
    have hA0 : ∀ q, s.heap.size ≤ q → lawA s q := fun _ h => h
    refine l_viF (nn := 0) (As := []) (rest := []) hE hK hNX hPX hS hA0 hAX (h_X8_blunder l D K ax v ar al hXI H ) (x_recv hK hPX 0 (by decide) (xG_8 rfl) rfl) rfl mw_1108 mw_1109 mw_1110 mw_114 mw_1111 (by decide +kernel) ⟨Nat.le_of_ble_eq_true rfl, Nat.le_of_ble_eq_true rfl⟩ hl.1 rfl (Nat.le_of_ble_eq_true rfl) ⟨Nat.le_of_ble_eq_true rfl, Nat.le_of_ble_eq_true rfl⟩ dL_1309 (fun r1 u1 t1 H1 locs1 ht1 hp1 hB1 hk1 hS1 => ?_)
    obtain ⟨o1, v1, ar1, al1⟩ := u1
    cases o1 with
    | none =>
      have e1 : H1 = H := ht1.symm.trans hB1
      subst e1
      refine W_low hb1 hb2 ?_
      exact cont ax none 132 _ _ v ar al H1 locs1 ls r1 hNX hAX hdis hPX hPY hS1 hXI (Or.inl ⟨rfl, rfl, rfl, rfl⟩) hR hl
    | some a1 =>
      obtain ⟨had, hN1, hA1, hP1⟩ := hB1
      have hP1 : va_P D xcl (wW a1 (xG a1 K (some (a1 132))) 133 v1 ar1 al1) H1 := by rw [← ht1]; exact hP1
      have hl1 : lv_has ls 4 [(3, .int (iI i)), (2, .ref (ay 0)), (1, .ref (a1 0)), (0, .ref b)] := by rw [had 0 (by decide)]; exact hl
      have hA2 : ∀ i, i < 133 → lawA s (a1 i) := fun i hi => aF_sub hS hA0 hAX _ (hA1 i hi)
      have hd2 : ∀ i j, i < 133 → j < 21 → a1 i ≠ ay j := fun i j hi hj e => (hA1 i hi).elim (fun ⟨k, hk, ek⟩ => hdis k j hk hj (ek.symm.trans e)) (fun z => absurd (w_lt hPY hj) (Nat.not_lt.mpr (e ▸ z)))
      exact cont a1 (some (a1 132)) 133 _ _ v1 ar1 al1 H1 locs1 ls r1 hN1 hA2 hd2 hP1 (w_keepF hPY hdis hk1) hS1 hp1.2.1 (Or.inr ⟨rfl, rfl, rfl, rfl⟩) (R_x hR hp1.2.2) hl1
  · refine l_viG (nn := 0) (As := []) (rest := []) hE hS hAX (s_X8_blunder_0 l D K ax v ar al hXI ) wPre_blind (wPre_now hK hNX hPX) (x_recv hK hPX 0 (by decide) (xG_8 rfl) rfl) rfl mw_1108 mw_1109 mw_1110 mw_114 mw_1111 (by decide +kernel) ⟨Nat.le_of_ble_eq_true rfl, Nat.le_of_ble_eq_true rfl⟩ hl.1 rfl (Nat.le_of_ble_eq_true rfl) hcc dL_1309 (fun r1 v1 ar1 al1 H1 locs1 hp1 hPX1 hk1 hS1 => ?_)
    exact cont ax (some (ax 132)) 133 _ _ v1 ar1 al1 H1 locs1 ls r1 hNX hAX hdis hPX1 (w_keep hPY hdis hk1) hS1 hp1.2.1 (Or.inr ⟨rfl, rfl, rfl, rfl⟩) (R_x hR (fun i j h => hp1.2.2 i j (fl_out (by decide) h))) hl
theorem dL_1321 : decode code 1321 = .ok (.aload_n 1, 1) := by decide +kernel
theorem dL_1322 : decode code 1322 = .ok (.aload_n 0, 1) := by decide +kernel
theorem dL_1323 : decode code 1323 = .ok (.iload_n 3, 1) := by decide +kernel
theorem dL_1324 : decode code 1324 = .ok (.iconst 1, 1) := by decide +kernel
theorem dL_1325 : decode code 1325 = .ok (.iadd, 1) := by decide +kernel
theorem dL_1326 : decode code 1326 = .ok (.iaload, 1) := by decide +kernel
theorem dL_1327 : decode code 1327 = .ok (.invokevirtual 205, 3) := by decide +kernel
theorem dL_1330 : decode code 1330 = .ok (.pop, 1) := by decide +kernel
theorem dL_1331 : decode code 1331 = .ok (.aload_n 2, 1) := by decide +kernel
theorem dL_1332 : decode code 1332 = .ok (.aload_n 0, 1) := by decide +kernel
theorem dL_1333 : decode code 1333 = .ok (.iload_n 3, 1) := by decide +kernel
theorem dL_1334 : decode code 1334 = .ok (.iconst 1, 1) := by decide +kernel
theorem dL_1335 : decode code 1335 = .ok (.iadd, 1) := by decide +kernel
theorem dL_1336 : decode code 1336 = .ok (.iaload, 1) := by decide +kernel
theorem dL_1337 : decode code 1337 = .ok (.invokevirtual 208, 3) := by decide +kernel
theorem dL_1340 : decode code 1340 = .ok (.pop, 1) := by decide +kernel
theorem dL_1341 : decode code 1341 = .ok (.goto 613, 3) := by decide +kernel
set_option maxHeartbeats 4000000 in
set_option maxRecDepth 100000 in
theorem lc_47 {p : Program} {l : Launch} {e : Env} {s : State} {m : MethodId} {below : List Frame} {meth : Method} {c : Code} {b L : Nat} {xs : Nat → Int32} {D : va_G} {K : Nat → ClassId} {ay ax : Nat → Nat} {mm : Option Nat} {N cells slots : Nat} {v ar : sI} {al : sL} {v' ar' : sI} {al' : sL} {H : Heap} {locs : List Loc} {ls : Array Slot} {tk tv : Nat → Nat} {i : Int} (hi : 0 ≤ i ∧ i + 6 ≤ (L : Int) ∧ L ≤ 3072) (F : lawF p s m meth c b L xs D K tk tv) (C : lawI s D K ay ax mm N cells slots v ar al v' ar' al' H locs) (hl : lv_has ls 4 [(3, .int (iI i)), (2, .ref (ay 0)), (1, .ref (ax 0)), (0, .ref b)]) (kk : lawK p l e s m below meth c b D K ay i) : W p l e room_1 s m #[Value.ref b] below meth c H locs cells slots (lw_Z below #[Value.ref b] s) (F0 m 1321 ls []) := by
  obtain ⟨C0, hE, hK, hT, hTR⟩ := F
  obtain ⟨hx, hb, hr, hml, hown, hts, hX, hbl, hlocks, hgv⟩ := id C0
  have hbA : ¬ lawA s b := Nat.not_le.mpr hbl
  obtain ⟨hNX, hNY, hAX, hAY, hdis, hPX, hPY, hS, hXI, hYI, hmd, hR⟩ := C
  have hcc := lawM_c hmd
  have hNN := lawM_N hmd
  obtain ⟨z1, hz1, ez1⟩ := iI_of (xs (iI (i + 1)).toNatClampNeg)
  have cont : ∀ (ax : Nat → Nat) (mm : Option Nat) (N cells slots : Nat) (v ar : sI) (al : sL) (H : Heap) (locs : List Loc) (ls : Array Slot) (r : Int32), apart ax N → (∀ i, i < N → lawA s (ax i)) → (∀ i j, i < N → j < 21 → ax i ≠ ay j) → va_P D xcl (wW ax (xG ax K mm) N v ar al) H → va_P D xcl (wW ay (yG ay K) 21 v' ar' al') H → va_S (lawA s) s.heap H locs → XI v → lawM ax mm N cells slots → lawR v ar al v' ar' al' → lv_has ls 4 [(3, .int (iI i)), (2, .ref (ay 0)), (1, .ref (ax 0)), (0, .ref b)] → W p l e room_1 s m #[Value.ref b] below meth c H locs cells slots (lw_Z below #[Value.ref b] s) (F0 m 1330 ls [.int r]) := by
    intro ax mm N cells slots v ar al H locs ls r hNX hAX hdis hPX hPY hS hXI hmd hR hl
    have hcc := lawM_c hmd
    refine lv_pop hx hb dL_1330 rfl ?_
    refine lv_aload_n hx hb dL_1331 rfl (lv_at hl 1 rfl) ?_
    refine lv_aload_n hx hb dL_1332 rfl (lv_at hl 3 rfl) ?_
    refine lv_iload_n hx hb dL_1333 rfl (lv_at hl 0 rfl) ?_
    refine lv_iconst (v := iI (1)) hx hb dL_1334 (by decide) ?_
    refine lv_iadd hx hb dL_1335 ?_
    refine x_top (y := iI (i + 1)) (iI_add _ _) ?_
    refine va_sld (i := iI (i + 1)) hx hb hX hbl hbA hS (iI_in (n := L) (by omega)) dL_1336 ?_
    refine x_top ez1 ?_
    refine l_viG (nn := 1) (As := [.int (iI (z1))]) (rest := []) hE hS hAY (s_X9_lack l D K ay v' ar' al' hYI  (z1) (by omega)) wPre_blind (wPre_now hK hNY hPY) (x_recv hK hPY 0 (by decide) (yG_9 rfl) rfl) rfl mw_1954 mw_1955 mw_1956 mw_123 mw_1957 (by decide +kernel) ⟨Nat.le_of_ble_eq_true rfl, Nat.le_of_ble_eq_true rfl⟩ hl.1 rfl (Nat.le_of_ble_eq_true rfl) hcc dL_1337 (fun r2 v2 ar2 al2 H2 locs2 hp2 hPY2 hk2 hS2 => ?_)
    have hYI2 : YI v2 ar2 := hp2.2.1
    have hPX2 := w_keep hPX (fun i j hi hj e => hdis j i hj hi e.symm) hk2
    refine lv_pop hx hb dL_1340 rfl ?_
    refine lv_goto (tgt := 1954) hx hb dL_1341 (by decide) ?_
    exact kk ax mm N cells slots v ar al v2 ar2 al2 H2 locs2 ls ⟨hNX, hNY, hAX, hAY, hdis, hPX2, hPY2, hS2, hXI, hYI2, hmd, R_y hR (hp2.2.2.2.1 1 (by decide)) (hp2.2.2.2.1 2 (by decide)) (hp2.2.2.2.1 11 (by decide))⟩ hl
  refine lv_aload_n hx hb dL_1321 rfl (lv_at hl 2 rfl) ?_
  refine lv_aload_n hx hb dL_1322 rfl (lv_at hl 3 rfl) ?_
  refine lv_iload_n hx hb dL_1323 rfl (lv_at hl 0 rfl) ?_
  refine lv_iconst (v := iI (1)) hx hb dL_1324 (by decide) ?_
  refine lv_iadd hx hb dL_1325 ?_
  refine x_top (y := iI (i + 1)) (iI_add _ _) ?_
  refine va_sld (i := iI (i + 1)) hx hb hX hbl hbA hS (iI_in (n := L) (by omega)) dL_1326 ?_
  refine x_top ez1 ?_
  refine l_viG (nn := 1) (As := [.int (iI (z1))]) (rest := []) hE hS hAX (s_X8_lack_0 l D K ax mm N hNN v ar al hXI   (z1) (by omega)) wPre_blind (wPre_now hK hNX hPX) (x_recv hK hPX 0 (by omega) (xG_8 rfl) rfl) rfl mw_1011 mw_1012 mw_1013 mw_114 mw_1014 (by decide +kernel) ⟨Nat.le_of_ble_eq_true rfl, Nat.le_of_ble_eq_true rfl⟩ hl.1 rfl (Nat.le_of_ble_eq_true rfl) hcc dL_1327 (fun r1 v1 ar1 al1 H1 locs1 hp1 hPX1 hk1 hS1 => ?_)
  exact cont ax mm N cells slots v1 ar1 al1 H1 locs1 ls r1 hNX hAX hdis hPX1 (w_keep hPY hdis hk1) hS1 hp1.2.1 hmd (R_x hR (fun i j h => hp1.2.2 i j (fl_out (by decide) h))) hl
theorem dL_1344 : decode code 1344 = .ok (.aload_n 1, 1) := by decide +kernel
theorem dL_1345 : decode code 1345 = .ok (.invokevirtual 209, 3) := by decide +kernel
theorem dL_1348 : decode code 1348 = .ok (.pop, 1) := by decide +kernel
theorem dL_1349 : decode code 1349 = .ok (.aload_n 2, 1) := by decide +kernel
theorem dL_1350 : decode code 1350 = .ok (.invokevirtual 212, 3) := by decide +kernel
theorem dL_1353 : decode code 1353 = .ok (.pop, 1) := by decide +kernel
theorem dL_1354 : decode code 1354 = .ok (.goto 600, 3) := by decide +kernel
set_option maxHeartbeats 4000000 in
set_option maxRecDepth 100000 in
theorem lc_48 {p : Program} {l : Launch} {e : Env} {s : State} {m : MethodId} {below : List Frame} {meth : Method} {c : Code} {b L : Nat} {xs : Nat → Int32} {D : va_G} {K : Nat → ClassId} {ay ax : Nat → Nat} {mm : Option Nat} {N cells slots : Nat} {v ar : sI} {al : sL} {v' ar' : sI} {al' : sL} {H : Heap} {locs : List Loc} {ls : Array Slot} {tk tv : Nat → Nat} {i : Int} (hi : 0 ≤ i ∧ i + 6 ≤ (L : Int) ∧ L ≤ 3072) (F : lawF p s m meth c b L xs D K tk tv) (C : lawI s D K ay ax mm N cells slots v ar al v' ar' al' H locs) (hl : lv_has ls 4 [(3, .int (iI i)), (2, .ref (ay 0)), (1, .ref (ax 0)), (0, .ref b)]) (kk : lawK p l e s m below meth c b D K ay i) : W p l e room_1 s m #[Value.ref b] below meth c H locs cells slots (lw_Z below #[Value.ref b] s) (F0 m 1344 ls []) := by
  obtain ⟨C0, hE, hK, hT, hTR⟩ := F
  obtain ⟨hx, hb, hr, hml, hown, hts, hX, hbl, hlocks, hgv⟩ := id C0
  have hbA : ¬ lawA s b := Nat.not_le.mpr hbl
  obtain ⟨hNX, hNY, hAX, hAY, hdis, hPX, hPY, hS, hXI, hYI, hmd, hR⟩ := C
  have hcc := lawM_c hmd
  have hNN := lawM_N hmd
  have cont : ∀ (ax : Nat → Nat) (mm : Option Nat) (N cells slots : Nat) (v ar : sI) (al : sL) (H : Heap) (locs : List Loc) (ls : Array Slot) (r : Int32), apart ax N → (∀ i, i < N → lawA s (ax i)) → (∀ i j, i < N → j < 21 → ax i ≠ ay j) → va_P D xcl (wW ax (xG ax K mm) N v ar al) H → va_P D xcl (wW ay (yG ay K) 21 v' ar' al') H → va_S (lawA s) s.heap H locs → XI v → lawM ax mm N cells slots → lawR v ar al v' ar' al' → lv_has ls 4 [(3, .int (iI i)), (2, .ref (ay 0)), (1, .ref (ax 0)), (0, .ref b)] → W p l e room_1 s m #[Value.ref b] below meth c H locs cells slots (lw_Z below #[Value.ref b] s) (F0 m 1348 ls [.int r]) := by
    intro ax mm N cells slots v ar al H locs ls r hNX hAX hdis hPX hPY hS hXI hmd hR hl
    have hcc := lawM_c hmd
    refine lv_pop hx hb dL_1348 rfl ?_
    refine lv_aload_n hx hb dL_1349 rfl (lv_at hl 1 rfl) ?_
    refine l_viG (nn := 0) (As := []) (rest := []) hE hS hAY (s_X9_crux l D K ay v' ar' al' hYI  ) wPre_blind (wPre_now hK hNY hPY) (x_recv hK hPY 0 (by decide) (yG_9 rfl) rfl) rfl mw_1962 mw_1963 mw_1964 mw_123 mw_1965 (by decide +kernel) ⟨Nat.le_of_ble_eq_true rfl, Nat.le_of_ble_eq_true rfl⟩ hl.1 rfl (Nat.le_of_ble_eq_true rfl) hcc dL_1350 (fun r2 v2 ar2 al2 H2 locs2 hp2 hPY2 hk2 hS2 => ?_)
    have hYI2 : YI v2 ar2 := hp2.2.1
    have hPX2 := w_keep hPX (fun i j hi hj e => hdis j i hj hi e.symm) hk2
    refine lv_pop hx hb dL_1353 rfl ?_
    refine lv_goto (tgt := 1954) hx hb dL_1354 (by decide) ?_
    exact kk ax mm N cells slots v ar al v2 ar2 al2 H2 locs2 ls ⟨hNX, hNY, hAX, hAY, hdis, hPX2, hPY2, hS2, hXI, hYI2, hmd, R_y hR (hp2.2.2.2.1 1 (by decide)) (hp2.2.2.2.1 2 (by decide)) (hp2.2.2.2.1 11 (by decide))⟩ hl
  refine lv_aload_n hx hb dL_1344 rfl (lv_at hl 2 rfl) ?_
  refine l_viG (nn := 0) (As := []) (rest := []) hE hS hAX (s_X8_crux_0 l D K ax mm N hNN v ar al hXI   ) wPre_blind (wPre_now hK hNX hPX) (x_recv hK hPX 0 (by omega) (xG_8 rfl) rfl) rfl mw_1015 mw_1016 mw_1017 mw_114 mw_1018 (by decide +kernel) ⟨Nat.le_of_ble_eq_true rfl, Nat.le_of_ble_eq_true rfl⟩ hl.1 rfl (Nat.le_of_ble_eq_true rfl) hcc dL_1345 (fun r1 v1 ar1 al1 H1 locs1 hp1 hPX1 hk1 hS1 => ?_)
  exact cont ax mm N cells slots v1 ar1 al1 H1 locs1 ls r1 hNX hAX hdis hPX1 (w_keep hPY hdis hk1) hS1 hp1.2.1 hmd (R_x hR (fun i j h => hp1.2.2 i j (fl_out (by decide) h))) hl
theorem dL_1357 : decode code 1357 = .ok (.aload_n 1, 1) := by decide +kernel
theorem dL_1358 : decode code 1358 = .ok (.aload_n 0, 1) := by decide +kernel
theorem dL_1359 : decode code 1359 = .ok (.iload_n 3, 1) := by decide +kernel
theorem dL_1360 : decode code 1360 = .ok (.iconst 1, 1) := by decide +kernel
theorem dL_1361 : decode code 1361 = .ok (.iadd, 1) := by decide +kernel
theorem dL_1362 : decode code 1362 = .ok (.iaload, 1) := by decide +kernel
theorem dL_1363 : decode code 1363 = .ok (.invokevirtual 213, 3) := by decide +kernel
theorem dL_1366 : decode code 1366 = .ok (.pop, 1) := by decide +kernel
theorem dL_1367 : decode code 1367 = .ok (.aload_n 2, 1) := by decide +kernel
theorem dL_1368 : decode code 1368 = .ok (.aload_n 0, 1) := by decide +kernel
theorem dL_1369 : decode code 1369 = .ok (.iload_n 3, 1) := by decide +kernel
theorem dL_1370 : decode code 1370 = .ok (.iconst 1, 1) := by decide +kernel
theorem dL_1371 : decode code 1371 = .ok (.iadd, 1) := by decide +kernel
theorem dL_1372 : decode code 1372 = .ok (.iaload, 1) := by decide +kernel
theorem dL_1373 : decode code 1373 = .ok (.invokevirtual 216, 3) := by decide +kernel
theorem dL_1376 : decode code 1376 = .ok (.pop, 1) := by decide +kernel
theorem dL_1377 : decode code 1377 = .ok (.goto 577, 3) := by decide +kernel
set_option maxHeartbeats 4000000 in
set_option maxRecDepth 100000 in
theorem lc_49 {p : Program} {l : Launch} {e : Env} {s : State} {m : MethodId} {below : List Frame} {meth : Method} {c : Code} {b L : Nat} {xs : Nat → Int32} {D : va_G} {K : Nat → ClassId} {ay ax : Nat → Nat} {mm : Option Nat} {N cells slots : Nat} {v ar : sI} {al : sL} {v' ar' : sI} {al' : sL} {H : Heap} {locs : List Loc} {ls : Array Slot} {tk tv : Nat → Nat} {i : Int} (hi : 0 ≤ i ∧ i + 6 ≤ (L : Int) ∧ L ≤ 3072) (F : lawF p s m meth c b L xs D K tk tv) (C : lawI s D K ay ax mm N cells slots v ar al v' ar' al' H locs) (hl : lv_has ls 4 [(3, .int (iI i)), (2, .ref (ay 0)), (1, .ref (ax 0)), (0, .ref b)]) (kk : lawK p l e s m below meth c b D K ay i) : W p l e room_1 s m #[Value.ref b] below meth c H locs cells slots (lw_Z below #[Value.ref b] s) (F0 m 1357 ls []) := by
  obtain ⟨C0, hE, hK, hT, hTR⟩ := F
  obtain ⟨hx, hb, hr, hml, hown, hts, hX, hbl, hlocks, hgv⟩ := id C0
  have hbA : ¬ lawA s b := Nat.not_le.mpr hbl
  obtain ⟨hNX, hNY, hAX, hAY, hdis, hPX, hPY, hS, hXI, hYI, hmd, hR⟩ := C
  have hcc := lawM_c hmd
  have hNN := lawM_N hmd
  obtain ⟨z1, hz1, ez1⟩ := iI_of (xs (iI (i + 1)).toNatClampNeg)
  have cont : ∀ (ax : Nat → Nat) (mm : Option Nat) (N cells slots : Nat) (v ar : sI) (al : sL) (H : Heap) (locs : List Loc) (ls : Array Slot) (r : Int32), apart ax N → (∀ i, i < N → lawA s (ax i)) → (∀ i j, i < N → j < 21 → ax i ≠ ay j) → va_P D xcl (wW ax (xG ax K mm) N v ar al) H → va_P D xcl (wW ay (yG ay K) 21 v' ar' al') H → va_S (lawA s) s.heap H locs → XI v → lawM ax mm N cells slots → lawR v ar al v' ar' al' → lv_has ls 4 [(3, .int (iI i)), (2, .ref (ay 0)), (1, .ref (ax 0)), (0, .ref b)] → W p l e room_1 s m #[Value.ref b] below meth c H locs cells slots (lw_Z below #[Value.ref b] s) (F0 m 1366 ls [.int r]) := by
    intro ax mm N cells slots v ar al H locs ls r hNX hAX hdis hPX hPY hS hXI hmd hR hl
    have hcc := lawM_c hmd
    refine lv_pop hx hb dL_1366 rfl ?_
    refine lv_aload_n hx hb dL_1367 rfl (lv_at hl 1 rfl) ?_
    refine lv_aload_n hx hb dL_1368 rfl (lv_at hl 3 rfl) ?_
    refine lv_iload_n hx hb dL_1369 rfl (lv_at hl 0 rfl) ?_
    refine lv_iconst (v := iI (1)) hx hb dL_1370 (by decide) ?_
    refine lv_iadd hx hb dL_1371 ?_
    refine x_top (y := iI (i + 1)) (iI_add _ _) ?_
    refine va_sld (i := iI (i + 1)) hx hb hX hbl hbA hS (iI_in (n := L) (by omega)) dL_1372 ?_
    refine x_top ez1 ?_
    refine l_viG (nn := 1) (As := [.int (iI (z1))]) (rest := []) hE hS hAY (s_X9_cost l D K ay v' ar' al' hYI  (z1) (by omega)) wPre_blind (wPre_now hK hNY hPY) (x_recv hK hPY 0 (by decide) (yG_9 rfl) rfl) rfl mw_1966 mw_1967 mw_1968 mw_123 mw_1969 (by decide +kernel) ⟨Nat.le_of_ble_eq_true rfl, Nat.le_of_ble_eq_true rfl⟩ hl.1 rfl (Nat.le_of_ble_eq_true rfl) hcc dL_1373 (fun r2 v2 ar2 al2 H2 locs2 hp2 hPY2 hk2 hS2 => ?_)
    have hYI2 : YI v2 ar2 := hp2.2.1
    have hPX2 := w_keep hPX (fun i j hi hj e => hdis j i hj hi e.symm) hk2
    refine lv_pop hx hb dL_1376 rfl ?_
    refine lv_goto (tgt := 1954) hx hb dL_1377 (by decide) ?_
    exact kk ax mm N cells slots v ar al v2 ar2 al2 H2 locs2 ls ⟨hNX, hNY, hAX, hAY, hdis, hPX2, hPY2, hS2, hXI, hYI2, hmd, R_y hR (hp2.2.2.2.1 1 (by decide)) (hp2.2.2.2.1 2 (by decide)) (hp2.2.2.2.1 11 (by decide))⟩ hl
  refine lv_aload_n hx hb dL_1357 rfl (lv_at hl 2 rfl) ?_
  refine lv_aload_n hx hb dL_1358 rfl (lv_at hl 3 rfl) ?_
  refine lv_iload_n hx hb dL_1359 rfl (lv_at hl 0 rfl) ?_
  refine lv_iconst (v := iI (1)) hx hb dL_1360 (by decide) ?_
  refine lv_iadd hx hb dL_1361 ?_
  refine x_top (y := iI (i + 1)) (iI_add _ _) ?_
  refine va_sld (i := iI (i + 1)) hx hb hX hbl hbA hS (iI_in (n := L) (by omega)) dL_1362 ?_
  refine x_top ez1 ?_
  refine l_viG (nn := 1) (As := [.int (iI (z1))]) (rest := []) hE hS hAX (s_X8_cost_0 l D K ax mm N hNN v ar al hXI   (z1) (by omega)) wPre_blind (wPre_now hK hNX hPX) (x_recv hK hPX 0 (by omega) (xG_8 rfl) rfl) rfl mw_1019 mw_1020 mw_1021 mw_114 mw_1022 (by decide +kernel) ⟨Nat.le_of_ble_eq_true rfl, Nat.le_of_ble_eq_true rfl⟩ hl.1 rfl (Nat.le_of_ble_eq_true rfl) hcc dL_1363 (fun r1 v1 ar1 al1 H1 locs1 hp1 hPX1 hk1 hS1 => ?_)
  exact cont ax mm N cells slots v1 ar1 al1 H1 locs1 ls r1 hNX hAX hdis hPX1 (w_keep hPY hdis hk1) hS1 hp1.2.1 hmd (R_x hR (fun i j h => hp1.2.2 i j (fl_out (by decide) h))) hl
theorem dL_1380 : decode code 1380 = .ok (.aload_n 1, 1) := by decide +kernel
theorem dL_1381 : decode code 1381 = .ok (.aload_n 0, 1) := by decide +kernel
theorem dL_1382 : decode code 1382 = .ok (.iload_n 3, 1) := by decide +kernel
theorem dL_1383 : decode code 1383 = .ok (.iconst 1, 1) := by decide +kernel
theorem dL_1384 : decode code 1384 = .ok (.iadd, 1) := by decide +kernel
theorem dL_1385 : decode code 1385 = .ok (.iaload, 1) := by decide +kernel
theorem dL_1386 : decode code 1386 = .ok (.invokevirtual 217, 3) := by decide +kernel
theorem dL_1389 : decode code 1389 = .ok (.pop, 1) := by decide +kernel
theorem dL_1390 : decode code 1390 = .ok (.aload_n 2, 1) := by decide +kernel
theorem dL_1391 : decode code 1391 = .ok (.aload_n 0, 1) := by decide +kernel
theorem dL_1392 : decode code 1392 = .ok (.iload_n 3, 1) := by decide +kernel
theorem dL_1393 : decode code 1393 = .ok (.iconst 1, 1) := by decide +kernel
theorem dL_1394 : decode code 1394 = .ok (.iadd, 1) := by decide +kernel
theorem dL_1395 : decode code 1395 = .ok (.iaload, 1) := by decide +kernel
theorem dL_1396 : decode code 1396 = .ok (.invokevirtual 220, 3) := by decide +kernel
theorem dL_1399 : decode code 1399 = .ok (.pop, 1) := by decide +kernel
theorem dL_1400 : decode code 1400 = .ok (.goto 554, 3) := by decide +kernel
set_option maxHeartbeats 4000000 in
set_option maxRecDepth 100000 in
theorem lc_50 {p : Program} {l : Launch} {e : Env} {s : State} {m : MethodId} {below : List Frame} {meth : Method} {c : Code} {b L : Nat} {xs : Nat → Int32} {D : va_G} {K : Nat → ClassId} {ay ax : Nat → Nat} {mm : Option Nat} {N cells slots : Nat} {v ar : sI} {al : sL} {v' ar' : sI} {al' : sL} {H : Heap} {locs : List Loc} {ls : Array Slot} {tk tv : Nat → Nat} {i : Int} (hi : 0 ≤ i ∧ i + 6 ≤ (L : Int) ∧ L ≤ 3072) (F : lawF p s m meth c b L xs D K tk tv) (C : lawI s D K ay ax mm N cells slots v ar al v' ar' al' H locs) (hl : lv_has ls 4 [(3, .int (iI i)), (2, .ref (ay 0)), (1, .ref (ax 0)), (0, .ref b)]) (kk : lawK p l e s m below meth c b D K ay i) : W p l e room_1 s m #[Value.ref b] below meth c H locs cells slots (lw_Z below #[Value.ref b] s) (F0 m 1380 ls []) := by
  obtain ⟨C0, hE, hK, hT, hTR⟩ := F
  obtain ⟨hx, hb, hr, hml, hown, hts, hX, hbl, hlocks, hgv⟩ := id C0
  have hbA : ¬ lawA s b := Nat.not_le.mpr hbl
  obtain ⟨hNX, hNY, hAX, hAY, hdis, hPX, hPY, hS, hXI, hYI, hmd, hR⟩ := C
  have hcc := lawM_c hmd
  have hNN := lawM_N hmd
  obtain ⟨z1, hz1, ez1⟩ := iI_of (xs (iI (i + 1)).toNatClampNeg)
  have cont : ∀ (ax : Nat → Nat) (mm : Option Nat) (N cells slots : Nat) (v ar : sI) (al : sL) (H : Heap) (locs : List Loc) (ls : Array Slot) (r : Int32), apart ax N → (∀ i, i < N → lawA s (ax i)) → (∀ i j, i < N → j < 21 → ax i ≠ ay j) → va_P D xcl (wW ax (xG ax K mm) N v ar al) H → va_P D xcl (wW ay (yG ay K) 21 v' ar' al') H → va_S (lawA s) s.heap H locs → XI v → lawM ax mm N cells slots → lawR v ar al v' ar' al' → lv_has ls 4 [(3, .int (iI i)), (2, .ref (ay 0)), (1, .ref (ax 0)), (0, .ref b)] → W p l e room_1 s m #[Value.ref b] below meth c H locs cells slots (lw_Z below #[Value.ref b] s) (F0 m 1389 ls [.int r]) := by
    intro ax mm N cells slots v ar al H locs ls r hNX hAX hdis hPX hPY hS hXI hmd hR hl
    have hcc := lawM_c hmd
    refine lv_pop hx hb dL_1389 rfl ?_
    refine lv_aload_n hx hb dL_1390 rfl (lv_at hl 1 rfl) ?_
    refine lv_aload_n hx hb dL_1391 rfl (lv_at hl 3 rfl) ?_
    refine lv_iload_n hx hb dL_1392 rfl (lv_at hl 0 rfl) ?_
    refine lv_iconst (v := iI (1)) hx hb dL_1393 (by decide) ?_
    refine lv_iadd hx hb dL_1394 ?_
    refine x_top (y := iI (i + 1)) (iI_add _ _) ?_
    refine va_sld (i := iI (i + 1)) hx hb hX hbl hbA hS (iI_in (n := L) (by omega)) dL_1395 ?_
    refine x_top ez1 ?_
    refine l_viG (nn := 1) (As := [.int (iI (z1))]) (rest := []) hE hS hAY (s_X9_judge l D K ay v' ar' al' hYI  (z1) (by omega)) wPre_blind (wPre_now hK hNY hPY) (x_recv hK hPY 0 (by decide) (yG_9 rfl) rfl) rfl mw_1970 mw_1971 mw_1972 mw_123 mw_1973 (by decide +kernel) ⟨Nat.le_of_ble_eq_true rfl, Nat.le_of_ble_eq_true rfl⟩ hl.1 rfl (Nat.le_of_ble_eq_true rfl) hcc dL_1396 (fun r2 v2 ar2 al2 H2 locs2 hp2 hPY2 hk2 hS2 => ?_)
    have hYI2 : YI v2 ar2 := hp2.2.1
    have hPX2 := w_keep hPX (fun i j hi hj e => hdis j i hj hi e.symm) hk2
    refine lv_pop hx hb dL_1399 rfl ?_
    refine lv_goto (tgt := 1954) hx hb dL_1400 (by decide) ?_
    exact kk ax mm N cells slots v ar al v2 ar2 al2 H2 locs2 ls ⟨hNX, hNY, hAX, hAY, hdis, hPX2, hPY2, hS2, hXI, hYI2, hmd, R_y hR (hp2.2.2.2.1 1 (by decide)) (hp2.2.2.2.1 2 (by decide)) (hp2.2.2.2.1 11 (by decide))⟩ hl
  refine lv_aload_n hx hb dL_1380 rfl (lv_at hl 2 rfl) ?_
  refine lv_aload_n hx hb dL_1381 rfl (lv_at hl 3 rfl) ?_
  refine lv_iload_n hx hb dL_1382 rfl (lv_at hl 0 rfl) ?_
  refine lv_iconst (v := iI (1)) hx hb dL_1383 (by decide) ?_
  refine lv_iadd hx hb dL_1384 ?_
  refine x_top (y := iI (i + 1)) (iI_add _ _) ?_
  refine va_sld (i := iI (i + 1)) hx hb hX hbl hbA hS (iI_in (n := L) (by omega)) dL_1385 ?_
  refine x_top ez1 ?_
  refine l_viG (nn := 1) (As := [.int (iI (z1))]) (rest := []) hE hS hAX (s_X8_judge_0 l D K ax mm N hNN v ar al hXI   (z1) (by omega)) wPre_blind (wPre_now hK hNX hPX) (x_recv hK hPX 0 (by omega) (xG_8 rfl) rfl) rfl mw_1126 mw_1127 mw_1128 mw_114 mw_1129 (by decide +kernel) ⟨Nat.le_of_ble_eq_true rfl, Nat.le_of_ble_eq_true rfl⟩ hl.1 rfl (Nat.le_of_ble_eq_true rfl) hcc dL_1386 (fun r1 v1 ar1 al1 H1 locs1 hp1 hPX1 hk1 hS1 => ?_)
  exact cont ax mm N cells slots v1 ar1 al1 H1 locs1 ls r1 hNX hAX hdis hPX1 (w_keep hPY hdis hk1) hS1 hp1.2.1 hmd (R_x hR (fun i j h => hp1.2.2 i j (fl_out (by decide) h))) hl
theorem dL_1403 : decode code 1403 = .ok (.aload_n 1, 1) := by decide +kernel
theorem dL_1404 : decode code 1404 = .ok (.aload_n 0, 1) := by decide +kernel
theorem dL_1405 : decode code 1405 = .ok (.iload_n 3, 1) := by decide +kernel
theorem dL_1406 : decode code 1406 = .ok (.iconst 1, 1) := by decide +kernel
theorem dL_1407 : decode code 1407 = .ok (.iadd, 1) := by decide +kernel
theorem dL_1408 : decode code 1408 = .ok (.iaload, 1) := by decide +kernel
theorem dL_1409 : decode code 1409 = .ok (.invokevirtual 221, 3) := by decide +kernel
theorem dL_1412 : decode code 1412 = .ok (.pop, 1) := by decide +kernel
theorem dL_1413 : decode code 1413 = .ok (.aload_n 2, 1) := by decide +kernel
theorem dL_1414 : decode code 1414 = .ok (.aload_n 0, 1) := by decide +kernel
theorem dL_1415 : decode code 1415 = .ok (.iload_n 3, 1) := by decide +kernel
theorem dL_1416 : decode code 1416 = .ok (.iconst 1, 1) := by decide +kernel
theorem dL_1417 : decode code 1417 = .ok (.iadd, 1) := by decide +kernel
theorem dL_1418 : decode code 1418 = .ok (.iaload, 1) := by decide +kernel
theorem dL_1419 : decode code 1419 = .ok (.invokevirtual 224, 3) := by decide +kernel
theorem dL_1422 : decode code 1422 = .ok (.pop, 1) := by decide +kernel
theorem dL_1423 : decode code 1423 = .ok (.goto 531, 3) := by decide +kernel
set_option maxHeartbeats 4000000 in
set_option maxRecDepth 100000 in
theorem lc_51 {p : Program} {l : Launch} {e : Env} {s : State} {m : MethodId} {below : List Frame} {meth : Method} {c : Code} {b L : Nat} {xs : Nat → Int32} {D : va_G} {K : Nat → ClassId} {ay ax : Nat → Nat} {mm : Option Nat} {N cells slots : Nat} {v ar : sI} {al : sL} {v' ar' : sI} {al' : sL} {H : Heap} {locs : List Loc} {ls : Array Slot} {tk tv : Nat → Nat} {i : Int} (hi : 0 ≤ i ∧ i + 6 ≤ (L : Int) ∧ L ≤ 3072) (F : lawF p s m meth c b L xs D K tk tv) (C : lawI s D K ay ax mm N cells slots v ar al v' ar' al' H locs) (hl : lv_has ls 4 [(3, .int (iI i)), (2, .ref (ay 0)), (1, .ref (ax 0)), (0, .ref b)]) (kk : lawK p l e s m below meth c b D K ay i) : W p l e room_1 s m #[Value.ref b] below meth c H locs cells slots (lw_Z below #[Value.ref b] s) (F0 m 1403 ls []) := by
  obtain ⟨C0, hE, hK, hT, hTR⟩ := F
  obtain ⟨hx, hb, hr, hml, hown, hts, hX, hbl, hlocks, hgv⟩ := id C0
  have hbA : ¬ lawA s b := Nat.not_le.mpr hbl
  obtain ⟨hNX, hNY, hAX, hAY, hdis, hPX, hPY, hS, hXI, hYI, hmd, hR⟩ := C
  have hcc := lawM_c hmd
  have hNN := lawM_N hmd
  obtain ⟨z1, hz1, ez1⟩ := iI_of (xs (iI (i + 1)).toNatClampNeg)
  have cont : ∀ (ax : Nat → Nat) (mm : Option Nat) (N cells slots : Nat) (v ar : sI) (al : sL) (H : Heap) (locs : List Loc) (ls : Array Slot) (r : Int32), apart ax N → (∀ i, i < N → lawA s (ax i)) → (∀ i j, i < N → j < 21 → ax i ≠ ay j) → va_P D xcl (wW ax (xG ax K mm) N v ar al) H → va_P D xcl (wW ay (yG ay K) 21 v' ar' al') H → va_S (lawA s) s.heap H locs → XI v → lawM ax mm N cells slots → lawR v ar al v' ar' al' → lv_has ls 4 [(3, .int (iI i)), (2, .ref (ay 0)), (1, .ref (ax 0)), (0, .ref b)] → W p l e room_1 s m #[Value.ref b] below meth c H locs cells slots (lw_Z below #[Value.ref b] s) (F0 m 1412 ls [.int r]) := by
    intro ax mm N cells slots v ar al H locs ls r hNX hAX hdis hPX hPY hS hXI hmd hR hl
    have hcc := lawM_c hmd
    refine lv_pop hx hb dL_1412 rfl ?_
    refine lv_aload_n hx hb dL_1413 rfl (lv_at hl 1 rfl) ?_
    refine lv_aload_n hx hb dL_1414 rfl (lv_at hl 3 rfl) ?_
    refine lv_iload_n hx hb dL_1415 rfl (lv_at hl 0 rfl) ?_
    refine lv_iconst (v := iI (1)) hx hb dL_1416 (by decide) ?_
    refine lv_iadd hx hb dL_1417 ?_
    refine x_top (y := iI (i + 1)) (iI_add _ _) ?_
    refine va_sld (i := iI (i + 1)) hx hb hX hbl hbA hS (iI_in (n := L) (by omega)) dL_1418 ?_
    refine x_top ez1 ?_
    refine l_viG (nn := 1) (As := [.int (iI (z1))]) (rest := []) hE hS hAY (s_X9_verdict l D K ay v' ar' al' hYI  (z1) (by omega)) wPre_blind (wPre_now hK hNY hPY) (x_recv hK hPY 0 (by decide) (yG_9 rfl) rfl) rfl mw_1982 mw_1983 mw_1984 mw_123 mw_1985 (by decide +kernel) ⟨Nat.le_of_ble_eq_true rfl, Nat.le_of_ble_eq_true rfl⟩ hl.1 rfl (Nat.le_of_ble_eq_true rfl) hcc dL_1419 (fun r2 v2 ar2 al2 H2 locs2 hp2 hPY2 hk2 hS2 => ?_)
    have hYI2 : YI v2 ar2 := hp2.2.1
    have hPX2 := w_keep hPX (fun i j hi hj e => hdis j i hj hi e.symm) hk2
    refine lv_pop hx hb dL_1422 rfl ?_
    refine lv_goto (tgt := 1954) hx hb dL_1423 (by decide) ?_
    exact kk ax mm N cells slots v ar al v2 ar2 al2 H2 locs2 ls ⟨hNX, hNY, hAX, hAY, hdis, hPX2, hPY2, hS2, hXI, hYI2, hmd, R_y hR (hp2.2.2.2.1 1 (by decide)) (hp2.2.2.2.1 2 (by decide)) (hp2.2.2.2.1 11 (by decide))⟩ hl
  refine lv_aload_n hx hb dL_1403 rfl (lv_at hl 2 rfl) ?_
  refine lv_aload_n hx hb dL_1404 rfl (lv_at hl 3 rfl) ?_
  refine lv_iload_n hx hb dL_1405 rfl (lv_at hl 0 rfl) ?_
  refine lv_iconst (v := iI (1)) hx hb dL_1406 (by decide) ?_
  refine lv_iadd hx hb dL_1407 ?_
  refine x_top (y := iI (i + 1)) (iI_add _ _) ?_
  refine va_sld (i := iI (i + 1)) hx hb hX hbl hbA hS (iI_in (n := L) (by omega)) dL_1408 ?_
  refine x_top ez1 ?_
  refine l_viG (nn := 1) (As := [.int (iI (z1))]) (rest := []) hE hS hAX (s_X8_verdict_0 l D K ax mm N hNN v ar al hXI   (z1) (by omega)) wPre_blind (wPre_now hK hNX hPX) (x_recv hK hPX 0 (by omega) (xG_8 rfl) rfl) rfl mw_1151 mw_1152 mw_1153 mw_114 mw_1154 (by decide +kernel) ⟨Nat.le_of_ble_eq_true rfl, Nat.le_of_ble_eq_true rfl⟩ hl.1 rfl (Nat.le_of_ble_eq_true rfl) hcc dL_1409 (fun r1 v1 ar1 al1 H1 locs1 hp1 hPX1 hk1 hS1 => ?_)
  exact cont ax mm N cells slots v1 ar1 al1 H1 locs1 ls r1 hNX hAX hdis hPX1 (w_keep hPY hdis hk1) hS1 hp1.2.1 hmd (R_x hR (fun i j h => hp1.2.2 i j (fl_out (by decide) h))) hl
theorem dL_1426 : decode code 1426 = .ok (.aload_n 1, 1) := by decide +kernel
theorem dL_1427 : decode code 1427 = .ok (.aload_n 0, 1) := by decide +kernel
theorem dL_1428 : decode code 1428 = .ok (.iload_n 3, 1) := by decide +kernel
theorem dL_1429 : decode code 1429 = .ok (.iconst 1, 1) := by decide +kernel
theorem dL_1430 : decode code 1430 = .ok (.iadd, 1) := by decide +kernel
theorem dL_1431 : decode code 1431 = .ok (.iaload, 1) := by decide +kernel
theorem dL_1432 : decode code 1432 = .ok (.invokevirtual 225, 3) := by decide +kernel
theorem dL_1435 : decode code 1435 = .ok (.pop, 1) := by decide +kernel
theorem dL_1436 : decode code 1436 = .ok (.aload_n 2, 1) := by decide +kernel
theorem dL_1437 : decode code 1437 = .ok (.aload_n 0, 1) := by decide +kernel
theorem dL_1438 : decode code 1438 = .ok (.iload_n 3, 1) := by decide +kernel
theorem dL_1439 : decode code 1439 = .ok (.iconst 1, 1) := by decide +kernel
theorem dL_1440 : decode code 1440 = .ok (.iadd, 1) := by decide +kernel
theorem dL_1441 : decode code 1441 = .ok (.iaload, 1) := by decide +kernel
theorem dL_1442 : decode code 1442 = .ok (.invokevirtual 228, 3) := by decide +kernel
theorem dL_1445 : decode code 1445 = .ok (.pop, 1) := by decide +kernel
theorem dL_1446 : decode code 1446 = .ok (.goto 508, 3) := by decide +kernel
set_option maxHeartbeats 4000000 in
set_option maxRecDepth 100000 in
theorem lc_52 {p : Program} {l : Launch} {e : Env} {s : State} {m : MethodId} {below : List Frame} {meth : Method} {c : Code} {b L : Nat} {xs : Nat → Int32} {D : va_G} {K : Nat → ClassId} {ay ax : Nat → Nat} {mm : Option Nat} {N cells slots : Nat} {v ar : sI} {al : sL} {v' ar' : sI} {al' : sL} {H : Heap} {locs : List Loc} {ls : Array Slot} {tk tv : Nat → Nat} {i : Int} (hi : 0 ≤ i ∧ i + 6 ≤ (L : Int) ∧ L ≤ 3072) (F : lawF p s m meth c b L xs D K tk tv) (C : lawI s D K ay ax mm N cells slots v ar al v' ar' al' H locs) (hl : lv_has ls 4 [(3, .int (iI i)), (2, .ref (ay 0)), (1, .ref (ax 0)), (0, .ref b)]) (kk : lawK p l e s m below meth c b D K ay i) : W p l e room_1 s m #[Value.ref b] below meth c H locs cells slots (lw_Z below #[Value.ref b] s) (F0 m 1426 ls []) := by
  obtain ⟨C0, hE, hK, hT, hTR⟩ := F
  obtain ⟨hx, hb, hr, hml, hown, hts, hX, hbl, hlocks, hgv⟩ := id C0
  have hbA : ¬ lawA s b := Nat.not_le.mpr hbl
  obtain ⟨hNX, hNY, hAX, hAY, hdis, hPX, hPY, hS, hXI, hYI, hmd, hR⟩ := C
  have hcc := lawM_c hmd
  have hNN := lawM_N hmd
  obtain ⟨z1, hz1, ez1⟩ := iI_of (xs (iI (i + 1)).toNatClampNeg)
  have cont : ∀ (ax : Nat → Nat) (mm : Option Nat) (N cells slots : Nat) (v ar : sI) (al : sL) (H : Heap) (locs : List Loc) (ls : Array Slot) (r : Int32), apart ax N → (∀ i, i < N → lawA s (ax i)) → (∀ i j, i < N → j < 21 → ax i ≠ ay j) → va_P D xcl (wW ax (xG ax K mm) N v ar al) H → va_P D xcl (wW ay (yG ay K) 21 v' ar' al') H → va_S (lawA s) s.heap H locs → XI v → lawM ax mm N cells slots → lawR v ar al v' ar' al' → lv_has ls 4 [(3, .int (iI i)), (2, .ref (ay 0)), (1, .ref (ax 0)), (0, .ref b)] → W p l e room_1 s m #[Value.ref b] below meth c H locs cells slots (lw_Z below #[Value.ref b] s) (F0 m 1435 ls [.int r]) := by
    intro ax mm N cells slots v ar al H locs ls r hNX hAX hdis hPX hPY hS hXI hmd hR hl
    have hcc := lawM_c hmd
    refine lv_pop hx hb dL_1435 rfl ?_
    refine lv_aload_n hx hb dL_1436 rfl (lv_at hl 1 rfl) ?_
    refine lv_aload_n hx hb dL_1437 rfl (lv_at hl 3 rfl) ?_
    refine lv_iload_n hx hb dL_1438 rfl (lv_at hl 0 rfl) ?_
    refine lv_iconst (v := iI (1)) hx hb dL_1439 (by decide) ?_
    refine lv_iadd hx hb dL_1440 ?_
    refine x_top (y := iI (i + 1)) (iI_add _ _) ?_
    refine va_sld (i := iI (i + 1)) hx hb hX hbl hbA hS (iI_in (n := L) (by omega)) dL_1441 ?_
    refine x_top ez1 ?_
    refine l_viG (nn := 1) (As := [.int (iI (z1))]) (rest := []) hE hS hAY (s_X9_lies l D K ay v' ar' al' hYI  (z1) (by omega)) wPre_blind (wPre_now hK hNY hPY) (x_recv hK hPY 0 (by decide) (yG_9 rfl) rfl) rfl mw_1986 mw_1987 mw_1988 mw_123 mw_1989 (by decide +kernel) ⟨Nat.le_of_ble_eq_true rfl, Nat.le_of_ble_eq_true rfl⟩ hl.1 rfl (Nat.le_of_ble_eq_true rfl) hcc dL_1442 (fun r2 v2 ar2 al2 H2 locs2 hp2 hPY2 hk2 hS2 => ?_)
    have hYI2 : YI v2 ar2 := hp2.2.1
    have hPX2 := w_keep hPX (fun i j hi hj e => hdis j i hj hi e.symm) hk2
    refine lv_pop hx hb dL_1445 rfl ?_
    refine lv_goto (tgt := 1954) hx hb dL_1446 (by decide) ?_
    exact kk ax mm N cells slots v ar al v2 ar2 al2 H2 locs2 ls ⟨hNX, hNY, hAX, hAY, hdis, hPX2, hPY2, hS2, hXI, hYI2, hmd, R_y hR (hp2.2.2.2.1 1 (by decide)) (hp2.2.2.2.1 2 (by decide)) (hp2.2.2.2.1 11 (by decide))⟩ hl
  refine lv_aload_n hx hb dL_1426 rfl (lv_at hl 2 rfl) ?_
  refine lv_aload_n hx hb dL_1427 rfl (lv_at hl 3 rfl) ?_
  refine lv_iload_n hx hb dL_1428 rfl (lv_at hl 0 rfl) ?_
  refine lv_iconst (v := iI (1)) hx hb dL_1429 (by decide) ?_
  refine lv_iadd hx hb dL_1430 ?_
  refine x_top (y := iI (i + 1)) (iI_add _ _) ?_
  refine va_sld (i := iI (i + 1)) hx hb hX hbl hbA hS (iI_in (n := L) (by omega)) dL_1431 ?_
  refine x_top ez1 ?_
  refine l_viG (nn := 1) (As := [.int (iI (z1))]) (rest := []) hE hS hAX (s_X8_lies_0 l D K ax mm N hNN v ar al hXI   (z1) (by omega)) wPre_blind (wPre_now hK hNX hPX) (x_recv hK hPX 0 (by omega) (xG_8 rfl) rfl) rfl mw_1155 mw_1156 mw_1157 mw_114 mw_1158 (by decide +kernel) ⟨Nat.le_of_ble_eq_true rfl, Nat.le_of_ble_eq_true rfl⟩ hl.1 rfl (Nat.le_of_ble_eq_true rfl) hcc dL_1432 (fun r1 v1 ar1 al1 H1 locs1 hp1 hPX1 hk1 hS1 => ?_)
  exact cont ax mm N cells slots v1 ar1 al1 H1 locs1 ls r1 hNX hAX hdis hPX1 (w_keep hPY hdis hk1) hS1 hp1.2.1 hmd (R_x hR (fun i j h => hp1.2.2 i j (fl_out (by decide) h))) hl
theorem dL_1449 : decode code 1449 = .ok (.aload_n 1, 1) := by decide +kernel
theorem dL_1450 : decode code 1450 = .ok (.aload_n 0, 1) := by decide +kernel
theorem dL_1451 : decode code 1451 = .ok (.iload_n 3, 1) := by decide +kernel
theorem dL_1452 : decode code 1452 = .ok (.iconst 1, 1) := by decide +kernel
theorem dL_1453 : decode code 1453 = .ok (.iadd, 1) := by decide +kernel
theorem dL_1454 : decode code 1454 = .ok (.iaload, 1) := by decide +kernel
theorem dL_1455 : decode code 1455 = .ok (.invokevirtual 229, 3) := by decide +kernel
theorem dL_1458 : decode code 1458 = .ok (.pop, 1) := by decide +kernel
theorem dL_1459 : decode code 1459 = .ok (.aload_n 2, 1) := by decide +kernel
theorem dL_1460 : decode code 1460 = .ok (.aload_n 0, 1) := by decide +kernel
theorem dL_1461 : decode code 1461 = .ok (.iload_n 3, 1) := by decide +kernel
theorem dL_1462 : decode code 1462 = .ok (.iconst 1, 1) := by decide +kernel
theorem dL_1463 : decode code 1463 = .ok (.iadd, 1) := by decide +kernel
theorem dL_1464 : decode code 1464 = .ok (.iaload, 1) := by decide +kernel
theorem dL_1465 : decode code 1465 = .ok (.invokevirtual 232, 3) := by decide +kernel
theorem dL_1468 : decode code 1468 = .ok (.pop, 1) := by decide +kernel
theorem dL_1469 : decode code 1469 = .ok (.goto 485, 3) := by decide +kernel
set_option maxHeartbeats 4000000 in
set_option maxRecDepth 100000 in
theorem lc_53 {p : Program} {l : Launch} {e : Env} {s : State} {m : MethodId} {below : List Frame} {meth : Method} {c : Code} {b L : Nat} {xs : Nat → Int32} {D : va_G} {K : Nat → ClassId} {ay ax : Nat → Nat} {mm : Option Nat} {N cells slots : Nat} {v ar : sI} {al : sL} {v' ar' : sI} {al' : sL} {H : Heap} {locs : List Loc} {ls : Array Slot} {tk tv : Nat → Nat} {i : Int} (hi : 0 ≤ i ∧ i + 6 ≤ (L : Int) ∧ L ≤ 3072) (F : lawF p s m meth c b L xs D K tk tv) (C : lawI s D K ay ax mm N cells slots v ar al v' ar' al' H locs) (hl : lv_has ls 4 [(3, .int (iI i)), (2, .ref (ay 0)), (1, .ref (ax 0)), (0, .ref b)]) (kk : lawK p l e s m below meth c b D K ay i) : W p l e room_1 s m #[Value.ref b] below meth c H locs cells slots (lw_Z below #[Value.ref b] s) (F0 m 1449 ls []) := by
  obtain ⟨C0, hE, hK, hT, hTR⟩ := F
  obtain ⟨hx, hb, hr, hml, hown, hts, hX, hbl, hlocks, hgv⟩ := id C0
  have hbA : ¬ lawA s b := Nat.not_le.mpr hbl
  obtain ⟨hNX, hNY, hAX, hAY, hdis, hPX, hPY, hS, hXI, hYI, hmd, hR⟩ := C
  have hcc := lawM_c hmd
  have hNN := lawM_N hmd
  obtain ⟨z1, hz1, ez1⟩ := iI_of (xs (iI (i + 1)).toNatClampNeg)
  have cont : ∀ (ax : Nat → Nat) (mm : Option Nat) (N cells slots : Nat) (v ar : sI) (al : sL) (H : Heap) (locs : List Loc) (ls : Array Slot) (r : Int32), apart ax N → (∀ i, i < N → lawA s (ax i)) → (∀ i j, i < N → j < 21 → ax i ≠ ay j) → va_P D xcl (wW ax (xG ax K mm) N v ar al) H → va_P D xcl (wW ay (yG ay K) 21 v' ar' al') H → va_S (lawA s) s.heap H locs → XI v → lawM ax mm N cells slots → lawR v ar al v' ar' al' → lv_has ls 4 [(3, .int (iI i)), (2, .ref (ay 0)), (1, .ref (ax 0)), (0, .ref b)] → W p l e room_1 s m #[Value.ref b] below meth c H locs cells slots (lw_Z below #[Value.ref b] s) (F0 m 1458 ls [.int r]) := by
    intro ax mm N cells slots v ar al H locs ls r hNX hAX hdis hPX hPY hS hXI hmd hR hl
    have hcc := lawM_c hmd
    refine lv_pop hx hb dL_1458 rfl ?_
    refine lv_aload_n hx hb dL_1459 rfl (lv_at hl 1 rfl) ?_
    refine lv_aload_n hx hb dL_1460 rfl (lv_at hl 3 rfl) ?_
    refine lv_iload_n hx hb dL_1461 rfl (lv_at hl 0 rfl) ?_
    refine lv_iconst (v := iI (1)) hx hb dL_1462 (by decide) ?_
    refine lv_iadd hx hb dL_1463 ?_
    refine x_top (y := iI (i + 1)) (iI_add _ _) ?_
    refine va_sld (i := iI (i + 1)) hx hb hX hbl hbA hS (iI_in (n := L) (by omega)) dL_1464 ?_
    refine x_top ez1 ?_
    refine l_viG (nn := 1) (As := [.int (iI (z1))]) (rest := []) hE hS hAY (s_X9_orders l D K ay v' ar' al' hYI  (z1) (by omega)) wPre_blind (wPre_now hK hNY hPY) (x_recv hK hPY 0 (by decide) (yG_9 rfl) rfl) rfl mw_1998 mw_1999 mw_2000 mw_123 mw_2001 (by decide +kernel) ⟨Nat.le_of_ble_eq_true rfl, Nat.le_of_ble_eq_true rfl⟩ hl.1 rfl (Nat.le_of_ble_eq_true rfl) hcc dL_1465 (fun r2 v2 ar2 al2 H2 locs2 hp2 hPY2 hk2 hS2 => ?_)
    have hYI2 : YI v2 ar2 := hp2.2.1
    have hPX2 := w_keep hPX (fun i j hi hj e => hdis j i hj hi e.symm) hk2
    refine lv_pop hx hb dL_1468 rfl ?_
    refine lv_goto (tgt := 1954) hx hb dL_1469 (by decide) ?_
    exact kk ax mm N cells slots v ar al v2 ar2 al2 H2 locs2 ls ⟨hNX, hNY, hAX, hAY, hdis, hPX2, hPY2, hS2, hXI, hYI2, hmd, R_y hR (hp2.2.2.2.1 1 (by decide)) (hp2.2.2.2.1 2 (by decide)) (hp2.2.2.2.1 11 (by decide))⟩ hl
  refine lv_aload_n hx hb dL_1449 rfl (lv_at hl 2 rfl) ?_
  refine lv_aload_n hx hb dL_1450 rfl (lv_at hl 3 rfl) ?_
  refine lv_iload_n hx hb dL_1451 rfl (lv_at hl 0 rfl) ?_
  refine lv_iconst (v := iI (1)) hx hb dL_1452 (by decide) ?_
  refine lv_iadd hx hb dL_1453 ?_
  refine x_top (y := iI (i + 1)) (iI_add _ _) ?_
  refine va_sld (i := iI (i + 1)) hx hb hX hbl hbA hS (iI_in (n := L) (by omega)) dL_1454 ?_
  refine x_top ez1 ?_
  refine l_viG (nn := 1) (As := [.int (iI (z1))]) (rest := []) hE hS hAX (s_X8_orders_0 l D K ax mm N hNN v ar al hXI   (z1) (by omega)) wPre_blind (wPre_now hK hNX hPX) (x_recv hK hPX 0 (by omega) (xG_8 rfl) rfl) rfl mw_1197 mw_1198 mw_1199 mw_114 mw_1200 (by decide +kernel) ⟨Nat.le_of_ble_eq_true rfl, Nat.le_of_ble_eq_true rfl⟩ hl.1 rfl (Nat.le_of_ble_eq_true rfl) hcc dL_1455 (fun r1 v1 ar1 al1 H1 locs1 hp1 hPX1 hk1 hS1 => ?_)
  exact cont ax mm N cells slots v1 ar1 al1 H1 locs1 ls r1 hNX hAX hdis hPX1 (w_keep hPY hdis hk1) hS1 hp1.2.1 hmd (R_x hR (fun i j h => hp1.2.2 i j (fl_out (by decide) h))) hl
