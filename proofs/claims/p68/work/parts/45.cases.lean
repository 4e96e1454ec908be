theorem dL_1098 : decode code 1098 = .ok (.aload_n 1, 1) := by decide +kernel
theorem dL_1099 : decode code 1099 = .ok (.aload_n 0, 1) := by decide +kernel
theorem dL_1100 : decode code 1100 = .ok (.iload_n 3, 1) := by decide +kernel
theorem dL_1101 : decode code 1101 = .ok (.iconst 1, 1) := by decide +kernel
theorem dL_1102 : decode code 1102 = .ok (.iadd, 1) := by decide +kernel
theorem dL_1103 : decode code 1103 = .ok (.iaload, 1) := by decide +kernel
theorem dL_1104 : decode code 1104 = .ok (.invokevirtual 161, 3) := by decide +kernel
theorem dL_1107 : decode code 1107 = .ok (.pop, 1) := by decide +kernel
theorem dL_1108 : decode code 1108 = .ok (.aload_n 2, 1) := by decide +kernel
theorem dL_1109 : decode code 1109 = .ok (.aload_n 0, 1) := by decide +kernel
theorem dL_1110 : decode code 1110 = .ok (.iload_n 3, 1) := by decide +kernel
theorem dL_1111 : decode code 1111 = .ok (.iconst 1, 1) := by decide +kernel
theorem dL_1112 : decode code 1112 = .ok (.iadd, 1) := by decide +kernel
theorem dL_1113 : decode code 1113 = .ok (.iaload, 1) := by decide +kernel
theorem dL_1114 : decode code 1114 = .ok (.invokevirtual 164, 3) := by decide +kernel
theorem dL_1117 : decode code 1117 = .ok (.pop, 1) := by decide +kernel
theorem dL_1118 : decode code 1118 = .ok (.goto 836, 3) := by decide +kernel
set_option maxHeartbeats 4000000 in
set_option maxRecDepth 100000 in
theorem lc_36 {p : Program} {l : Launch} {e : Env} {s : State} {m : MethodId} {below : List Frame} {meth : Method} {c : Code} {b L : Nat} {xs : Nat → Int32} {D : va_G} {K : Nat → ClassId} {ay ax : Nat → Nat} {mm : Option Nat} {N cells slots : Nat} {v ar : sI} {al : sL} {v' ar' : sI} {al' : sL} {H : Heap} {locs : List Loc} {ls : Array Slot} {tk tv : Nat → Nat} {i : Int} (hi : 0 ≤ i ∧ i + 6 ≤ (L : Int) ∧ L ≤ 3072) (F : lawF p s m meth c b L xs D K tk tv) (C : lawI s D K ay ax mm N cells slots v ar al v' ar' al' H locs) (hl : lv_has ls 4 [(3, .int (iI i)), (2, .ref (ay 0)), (1, .ref (ax 0)), (0, .ref b)]) (kk : lawK p l e s m below meth c b D K ay i) : W p l e room_1 s m #[Value.ref b] below meth c H locs cells slots (lw_Z below #[Value.ref b] s) (F0 m 1098 ls []) := by
  obtain ⟨C0, hE, hK, hT, hTR⟩ := F
  obtain ⟨hx, hb, hr, hml, hown, hts, hX, hbl, hlocks, hgv⟩ := id C0
  have hbA : ¬ lawA s b := Nat.not_le.mpr hbl
  obtain ⟨hNX, hNY, hAX, hAY, hdis, hPX, hPY, hS, hXI, hYI, hmd, hR⟩ := C
  have hcc := lawM_c hmd
  have hNN := lawM_N hmd
  obtain ⟨z1, hz1, ez1⟩ := iI_of (xs (iI (i + 1)).toNatClampNeg)
  have cont : ∀ (ax : Nat → Nat) (mm : Option Nat) (N cells slots : Nat) (v ar : sI) (al : sL) (H : Heap) (locs : List Loc) (ls : Array Slot) (r : Int32), apart ax N → (∀ i, i < N → lawA s (ax i)) → (∀ i j, i < N → j < 21 → ax i ≠ ay j) → va_P D xcl (wW ax (xG ax K mm) N v ar al) H → va_P D xcl (wW ay (yG ay K) 21 v' ar' al') H → va_S (lawA s) s.heap H locs → XI v → lawM ax mm N cells slots → lawR v ar al v' ar' al' → lv_has ls 4 [(3, .int (iI i)), (2, .ref (ay 0)), (1, .ref (ax 0)), (0, .ref b)] → W p l e room_1 s m #[Value.ref b] below meth c H locs cells slots (lw_Z below #[Value.ref b] s) (F0 m 1107 ls [.int r]) := by
    intro ax mm N cells slots v ar al H locs ls r hNX hAX hdis hPX hPY hS hXI hmd hR hl
    have hcc := lawM_c hmd
    refine lv_pop hx hb dL_1107 rfl ?_
    refine lv_aload_n hx hb dL_1108 rfl (lv_at hl 1 rfl) ?_
    refine lv_aload_n hx hb dL_1109 rfl (lv_at hl 3 rfl) ?_
    refine lv_iload_n hx hb dL_1110 rfl (lv_at hl 0 rfl) ?_
    refine lv_iconst (v := iI (1)) hx hb dL_1111 (by decide) ?_
    refine lv_iadd hx hb dL_1112 ?_
    refine x_top (y := iI (i + 1)) (iI_add _ _) ?_
    refine va_sld (i := iI (i + 1)) hx hb hX hbl hbA hS (iI_in (n := L) (by omega)) dL_1113 ?_
    refine x_top ez1 ?_
    refine l_viG (nn := 1) (As := [.int (iI (z1))]) (rest := []) hE hS hAY (s_X9_always l D K ay v' ar' al' hYI  (z1) (by omega)) wPre_blind (wPre_now hK hNY hPY) (x_recv hK hPY 0 (by decide) (yG_9 rfl) rfl) rfl mw_1871 mw_1872 mw_1873 mw_123 mw_1874 (by decide +kernel) ⟨Nat.le_of_ble_eq_true rfl, Nat.le_of_ble_eq_true rfl⟩ hl.1 rfl (Nat.le_of_ble_eq_true rfl) hcc dL_1114 (fun r2 v2 ar2 al2 H2 locs2 hp2 hPY2 hk2 hS2 => ?_)
    have hYI2 : YI v2 ar2 := hp2.2.1
    have hPX2 := w_keep hPX (fun i j hi hj e => hdis j i hj hi e.symm) hk2
    refine lv_pop hx hb dL_1117 rfl ?_
    refine lv_goto (tgt := 1954) hx hb dL_1118 (by decide) ?_
    exact kk ax mm N cells slots v ar al v2 ar2 al2 H2 locs2 ls ⟨hNX, hNY, hAX, hAY, hdis, hPX2, hPY2, hS2, hXI, hYI2, hmd, R_y hR (hp2.2.2.2.1 1 (by decide)) (hp2.2.2.2.1 2 (by decide)) (hp2.2.2.2.1 11 (by decide))⟩ hl
  refine lv_aload_n hx hb dL_1098 rfl (lv_at hl 2 rfl) ?_
  refine lv_aload_n hx hb dL_1099 rfl (lv_at hl 3 rfl) ?_
  refine lv_iload_n hx hb dL_1100 rfl (lv_at hl 0 rfl) ?_
  refine lv_iconst (v := iI (1)) hx hb dL_1101 (by decide) ?_
  refine lv_iadd hx hb dL_1102 ?_
  refine x_top (y := iI (i + 1)) (iI_add _ _) ?_
  refine va_sld (i := iI (i + 1)) hx hb hX hbl hbA hS (iI_in (n := L) (by omega)) dL_1103 ?_
  refine x_top ez1 ?_
  refine l_viG (nn := 1) (As := [.int (iI (z1))]) (rest := []) hE hS hAX (s_X8_always_0 l D K ax mm N hNN v ar al hXI   (z1) (by omega)) wPre_blind (wPre_now hK hNX hPX) (x_recv hK hPX 0 (by omega) (xG_8 rfl) rfl) rfl mw_1002 mw_1003 mw_1004 mw_114 mw_1005 (by decide +kernel) ⟨Nat.le_of_ble_eq_true rfl, Nat.le_of_ble_eq_true rfl⟩ hl.1 rfl (Nat.le_of_ble_eq_true rfl) hcc dL_1104 (fun r1 v1 ar1 al1 H1 locs1 hp1 hPX1 hk1 hS1 => ?_)
  exact cont ax mm N cells slots v1 ar1 al1 H1 locs1 ls r1 hNX hAX hdis hPX1 (w_keep hPY hdis hk1) hS1 hp1.2.1 hmd (R_x hR (fun i j h => hp1.2.2 i j (fl_out (by decide) h))) hl
theorem dL_1121 : decode code 1121 = .ok (.aload_n 1, 1) := by decide +kernel
theorem dL_1122 : decode code 1122 = .ok (.invokevirtual 165, 3) := by decide +kernel
theorem dL_1125 : decode code 1125 = .ok (.pop, 1) := by decide +kernel
theorem dL_1126 : decode code 1126 = .ok (.aload_n 2, 1) := by decide +kernel
theorem dL_1127 : decode code 1127 = .ok (.invokevirtual 168, 3) := by decide +kernel
theorem dL_1130 : decode code 1130 = .ok (.pop, 1) := by decide +kernel
theorem dL_1131 : decode code 1131 = .ok (.goto 823, 3) := by decide +kernel
set_option maxHeartbeats 4000000 in
set_option maxRecDepth 100000 in
theorem lc_37 {p : Program} {l : Launch} {e : Env} {s : State} {m : MethodId} {below : List Frame} {meth : Method} {c : Code} {b L : Nat} {xs : Nat → Int32} {D : va_G} {K : Nat → ClassId} {ay ax : Nat → Nat} {mm : Option Nat} {N cells slots : Nat} {v ar : sI} {al : sL} {v' ar' : sI} {al' : sL} {H : Heap} {locs : List Loc} {ls : Array Slot} {tk tv : Nat → Nat} {i : Int} (hi : 0 ≤ i ∧ i + 6 ≤ (L : Int) ∧ L ≤ 3072) (F : lawF p s m meth c b L xs D K tk tv) (C : lawI s D K ay ax mm N cells slots v ar al v' ar' al' H locs) (hl : lv_has ls 4 [(3, .int (iI i)), (2, .ref (ay 0)), (1, .ref (ax 0)), (0, .ref b)]) (kk : lawK p l e s m below meth c b D K ay i) : W p l e room_1 s m #[Value.ref b] below meth c H locs cells slots (lw_Z below #[Value.ref b] s) (F0 m 1121 ls []) := by
  obtain ⟨C0, hE, hK, hT, hTR⟩ := F
  obtain ⟨hx, hb, hr, hml, hown, hts, hX, hbl, hlocks, hgv⟩ := id C0
  have hbA : ¬ lawA s b := Nat.not_le.mpr hbl
  obtain ⟨hNX, hNY, hAX, hAY, hdis, hPX, hPY, hS, hXI, hYI, hmd, hR⟩ := C
  have hcc := lawM_c hmd
  have hNN := lawM_N hmd
  have cont : ∀ (ax : Nat → Nat) (mm : Option Nat) (N cells slots : Nat) (v ar : sI) (al : sL) (H : Heap) (locs : List Loc) (ls : Array Slot) (r : Int32), apart ax N → (∀ i, i < N → lawA s (ax i)) → (∀ i j, i < N → j < 21 → ax i ≠ ay j) → va_P D xcl (wW ax (xG ax K mm) N v ar al) H → va_P D xcl (wW ay (yG ay K) 21 v' ar' al') H → va_S (lawA s) s.heap H locs → XI v → lawM ax mm N cells slots → lawR v ar al v' ar' al' → lv_has ls 4 [(3, .int (iI i)), (2, .ref (ay 0)), (1, .ref (ax 0)), (0, .ref b)] → W p l e room_1 s m #[Value.ref b] below meth c H locs cells slots (lw_Z below #[Value.ref b] s) (F0 m 1125 ls [.int r]) := by
    intro ax mm N cells slots v ar al H locs ls r hNX hAX hdis hPX hPY hS hXI hmd hR hl
    have hcc := lawM_c hmd
    refine lv_pop hx hb dL_1125 rfl ?_
    refine lv_aload_n hx hb dL_1126 rfl (lv_at hl 1 rfl) ?_
    refine l_viG (nn := 0) (As := []) (rest := []) hE hS hAY (s_X9_wins l D K ay v' ar' al' hYI  ) wPre_blind (wPre_now hK hNY hPY) (x_recv hK hPY 0 (by decide) (yG_9 rfl) rfl) rfl mw_1875 mw_1876 mw_1877 mw_123 mw_1878 (by decide +kernel) ⟨Nat.le_of_ble_eq_true rfl, Nat.le_of_ble_eq_true rfl⟩ hl.1 rfl (Nat.le_of_ble_eq_true rfl) hcc dL_1127 (fun r2 v2 ar2 al2 H2 locs2 hp2 hPY2 hk2 hS2 => ?_)
    have hYI2 : YI v2 ar2 := hp2.2.1
    have hPX2 := w_keep hPX (fun i j hi hj e => hdis j i hj hi e.symm) hk2
    refine lv_pop hx hb dL_1130 rfl ?_
    refine lv_goto (tgt := 1954) hx hb dL_1131 (by decide) ?_
    exact kk ax mm N cells slots v ar al v2 ar2 al2 H2 locs2 ls ⟨hNX, hNY, hAX, hAY, hdis, hPX2, hPY2, hS2, hXI, hYI2, hmd, R_y hR (hp2.2.2.2.1 1 (by decide)) (hp2.2.2.2.1 2 (by decide)) (hp2.2.2.2.1 11 (by decide))⟩ hl
  refine lv_aload_n hx hb dL_1121 rfl (lv_at hl 2 rfl) ?_
  rcases hmd with ⟨rfl, rfl, rfl, rfl⟩ | ⟨rfl, rfl, rfl, rfl⟩
  · refine W_book (fun hb1 hb2 => ?_)
    have hA0 : ∀ q, s.heap.size ≤ q → lawA s q := fun _ h => h
    refine l_viF (nn := 0) (As := []) (rest := []) hE hK hNX hPX hS hA0 hAX (h_X8_wins l D K ax v ar al hXI H ) (x_recv hK hPX 0 (by decide) (xG_8 rfl) rfl) rfl mw_1023 mw_1024 mw_1025 mw_114 mw_1026 (by decide +kernel) ⟨Nat.le_of_ble_eq_true rfl, Nat.le_of_ble_eq_true rfl⟩ hl.1 rfl (Nat.le_of_ble_eq_true rfl) ⟨Nat.le_of_ble_eq_true rfl, Nat.le_of_ble_eq_true rfl⟩ dL_1122 (fun r1 u1 t1 H1 locs1 ht1 hp1 hB1 hk1 hS1 => ?_)
    obtain ⟨o1, v1, ar1, al1⟩ := u1
    cases o1 with
    | none =>
      have e1 : H1 = H := ht1.symm.trans hB1
      subst e1
      refine W_low hb1 hb2 ?_
      exact cont ax none 132 _ _ v ar al H1 locs1 ls r1 hNX hAX hdis hPX hPY hS1 hXI (Or.inl ⟨rfl, rfl, rfl, rfl⟩) hR hl
    | some a1 =>
      obtain ⟨had, hN1, hA1, hP1⟩ := hB1
      have hP1 : va_P D xcl (wW a1 (xG a1 K (some (a1 132))) 133 v1 ar1 al1) H1 := by rw [← ht1]; exact hP1
      have hl1 : lv_has ls 4 [(3, .int (iI i)), (2, .ref (ay 0)), (1, .ref (a1 0)), (0, .ref b)] := by rw [had 0 (by decide)]; exact hl
      have hA2 : ∀ i, i < 133 → lawA s (a1 i) := fun i hi => aF_sub hS hA0 hAX _ (hA1 i hi)
      have hd2 : ∀ i j, i < 133 → j < 21 → a1 i ≠ ay j := fun i j hi hj e => (hA1 i hi).elim (fun ⟨k, hk, ek⟩ => hdis k j hk hj (ek.symm.trans e)) (fun z => absurd (w_lt hPY hj) (Nat.not_lt.mpr (e ▸ z)))
      exact cont a1 (some (a1 132)) 133 _ _ v1 ar1 al1 H1 locs1 ls r1 hN1 hA2 hd2 hP1 (w_keepF hPY hdis hk1) hS1 hp1.2.1 (Or.inr ⟨rfl, rfl, rfl, rfl⟩) (R_x hR hp1.2.2) hl1
  · refine l_viG (nn := 0) (As := []) (rest := []) hE hS hAX (s_X8_wins_0 l D K ax v ar al hXI ) wPre_blind (wPre_now hK hNX hPX) (x_recv hK hPX 0 (by decide) (xG_8 rfl) rfl) rfl mw_1023 mw_1024 mw_1025 mw_114 mw_1026 (by decide +kernel) ⟨Nat.le_of_ble_eq_true rfl, Nat.le_of_ble_eq_true rfl⟩ hl.1 rfl (Nat.le_of_ble_eq_true rfl) hcc dL_1122 (fun r1 v1 ar1 al1 H1 locs1 hp1 hPX1 hk1 hS1 => ?_)
    exact cont ax (some (ax 132)) 133 _ _ v1 ar1 al1 H1 locs1 ls r1 hNX hAX hdis hPX1 (w_keep hPY hdis hk1) hS1 hp1.2.1 (Or.inr ⟨rfl, rfl, rfl, rfl⟩) (R_x hR (fun i j h => hp1.2.2 i j (fl_out (by decide) h))) hl
theorem dL_1134 : decode code 1134 = .ok (.aload_n 1, 1) := by decide +kernel
theorem dL_1135 : decode code 1135 = .ok (.invokevirtual 169, 3) := by decide +kernel
theorem dL_1138 : decode code 1138 = .ok (.pop, 1) := by decide +kernel
theorem dL_1139 : decode code 1139 = .ok (.aload_n 2, 1) := by decide +kernel
theorem dL_1140 : decode code 1140 = .ok (.invokevirtual 172, 3) := by decide +kernel
theorem dL_1143 : decode code 1143 = .ok (.pop, 1) := by decide +kernel
theorem dL_1144 : decode code 1144 = .ok (.goto 810, 3) := by decide +kernel
set_option maxHeartbeats 4000000 in
set_option maxRecDepth 100000 in
theorem lc_38 {p : Program} {l : Launch} {e : Env} {s : State} {m : MethodId} {below : List Frame} {meth : Method} {c : Code} {b L : Nat} {xs : Nat → Int32} {D : va_G} {K : Nat → ClassId} {ay ax : Nat → Nat} {mm : Option Nat} {N cells slots : Nat} {v ar : sI} {al : sL} {v' ar' : sI} {al' : sL} {H : Heap} {locs : List Loc} {ls : Array Slot} {tk tv : Nat → Nat} {i : Int} (hi : 0 ≤ i ∧ i + 6 ≤ (L : Int) ∧ L ≤ 3072) (F : lawF p s m meth c b L xs D K tk tv) (C : lawI s D K ay ax mm N cells slots v ar al v' ar' al' H locs) (hl : lv_has ls 4 [(3, .int (iI i)), (2, .ref (ay 0)), (1, .ref (ax 0)), (0, .ref b)]) (kk : lawK p l e s m below meth c b D K ay i) : W p l e room_1 s m #[Value.ref b] below meth c H locs cells slots (lw_Z below #[Value.ref b] s) (F0 m 1134 ls []) := by
  obtain ⟨C0, hE, hK, hT, hTR⟩ := F
  obtain ⟨hx, hb, hr, hml, hown, hts, hX, hbl, hlocks, hgv⟩ := id C0
  have hbA : ¬ lawA s b := Nat.not_le.mpr hbl
  obtain ⟨hNX, hNY, hAX, hAY, hdis, hPX, hPY, hS, hXI, hYI, hmd, hR⟩ := C
  have hcc := lawM_c hmd
  have hNN := lawM_N hmd
  have cont : ∀ (ax : Nat → Nat) (mm : Option Nat) (N cells slots : Nat) (v ar : sI) (al : sL) (H : Heap) (locs : List Loc) (ls : Array Slot) (r : Int32), apart ax N → (∀ i, i < N → lawA s (ax i)) → (∀ i j, i < N → j < 21 → ax i ≠ ay j) → va_P D xcl (wW ax (xG ax K mm) N v ar al) H → va_P D xcl (wW ay (yG ay K) 21 v' ar' al') H → va_S (lawA s) s.heap H locs → XI v → lawM ax mm N cells slots → lawR v ar al v' ar' al' → lv_has ls 4 [(3, .int (iI i)), (2, .ref (ay 0)), (1, .ref (ax 0)), (0, .ref b)] → W p l e room_1 s m #[Value.ref b] below meth c H locs cells slots (lw_Z below #[Value.ref b] s) (F0 m 1138 ls [.int r]) := by
    intro ax mm N cells slots v ar al H locs ls r hNX hAX hdis hPX hPY hS hXI hmd hR hl
    have hcc := lawM_c hmd
    refine lv_pop hx hb dL_1138 rfl ?_
    refine lv_aload_n hx hb dL_1139 rfl (lv_at hl 1 rfl) ?_
    refine l_viG (nn := 0) (As := []) (rest := []) hE hS hAY (s_X9_move l D K ay v' ar' al' hYI  ) wPre_blind (wPre_now hK hNY hPY) (x_recv hK hPY 0 (by decide) (yG_9 rfl) rfl) rfl mw_1910 mw_1911 mw_1912 mw_123 mw_1913 (by decide +kernel) ⟨Nat.le_of_ble_eq_true rfl, Nat.le_of_ble_eq_true rfl⟩ hl.1 rfl (Nat.le_of_ble_eq_true rfl) hcc dL_1140 (fun r2 v2 ar2 al2 H2 locs2 hp2 hPY2 hk2 hS2 => ?_)
    have hYI2 : YI v2 ar2 := hp2.2.1
    have hPX2 := w_keep hPX (fun i j hi hj e => hdis j i hj hi e.symm) hk2
    refine lv_pop hx hb dL_1143 rfl ?_
    refine lv_goto (tgt := 1954) hx hb dL_1144 (by decide) ?_
    exact kk ax mm N cells slots v ar al v2 ar2 al2 H2 locs2 ls ⟨hNX, hNY, hAX, hAY, hdis, hPX2, hPY2, hS2, hXI, hYI2, hmd, R_y hR (hp2.2.2.2.1 1 (by decide)) (hp2.2.2.2.1 2 (by decide)) (hp2.2.2.2.1 11 (by decide))⟩ hl
  refine lv_aload_n hx hb dL_1134 rfl (lv_at hl 2 rfl) ?_
  rcases hmd with ⟨rfl, rfl, rfl, rfl⟩ | ⟨rfl, rfl, rfl, rfl⟩
  · refine W_book (fun hb1 hb2 => ?_)
    have hA0 : ∀ q, s.heap.size ≤ q → lawA s q := fun _ h => h
    refine l_viF (nn := 0) (As := []) (rest := []) hE hK hNX hPX hS hA0 hAX (h_X8_move l D K ax v ar al hXI H ) (x_recv hK hPX 0 (by decide) (xG_8 rfl) rfl) rfl mw_1064 mw_1065 mw_1066 mw_114 mw_1067 (by decide +kernel) ⟨Nat.le_of_ble_eq_true rfl, Nat.le_of_ble_eq_true rfl⟩ hl.1 rfl (Nat.le_of_ble_eq_true rfl) ⟨Nat.le_of_ble_eq_true rfl, Nat.le_of_ble_eq_true rfl⟩ dL_1135 (fun r1 u1 t1 H1 locs1 ht1 hp1 hB1 hk1 hS1 => ?_)
    obtain ⟨o1, v1, ar1, al1⟩ := u1
    cases o1 with
    | none =>
      have e1 : H1 = H := ht1.symm.trans hB1
      subst e1
      refine W_low hb1 hb2 ?_
      exact cont ax none 132 _ _ v ar al H1 locs1 ls r1 hNX hAX hdis hPX hPY hS1 hXI (Or.inl ⟨rfl, rfl, rfl, rfl⟩) hR hl
    | some a1 =>
      obtain ⟨had, hN1, hA1, hP1⟩ := hB1
      have hP1 : va_P D xcl (wW a1 (xG a1 K (some (a1 132))) 133 v1 ar1 al1) H1 := by rw [← ht1]; exact hP1
      have hl1 : lv_has ls 4 [(3, .int (iI i)), (2, .ref (ay 0)), (1, .ref (a1 0)), (0, .ref b)] := by rw [had 0 (by decide)]; exact hl
      have hA2 : ∀ i, i < 133 → lawA s (a1 i) := fun i hi => aF_sub hS hA0 hAX _ (hA1 i hi)
      have hd2 : ∀ i j, i < 133 → j < 21 → a1 i ≠ ay j := fun i j hi hj e => (hA1 i hi).elim (fun ⟨k, hk, ek⟩ => hdis k j hk hj (ek.symm.trans e)) (fun z => absurd (w_lt hPY hj) (Nat.not_lt.mpr (e ▸ z)))
      exact cont a1 (some (a1 132)) 133 _ _ v1 ar1 al1 H1 locs1 ls r1 hN1 hA2 hd2 hP1 (w_keepF hPY hdis hk1) hS1 hp1.2.1 (Or.inr ⟨rfl, rfl, rfl, rfl⟩) (R_x hR hp1.2.2) hl1
  · refine l_viG (nn := 0) (As := []) (rest := []) hE hS hAX (s_X8_move_0 l D K ax v ar al hXI ) wPre_blind (wPre_now hK hNX hPX) (x_recv hK hPX 0 (by decide) (xG_8 rfl) rfl) rfl mw_1064 mw_1065 mw_1066 mw_114 mw_1067 (by decide +kernel) ⟨Nat.le_of_ble_eq_true rfl, Nat.le_of_ble_eq_true rfl⟩ hl.1 rfl (Nat.le_of_ble_eq_true rfl) hcc dL_1135 (fun r1 v1 ar1 al1 H1 locs1 hp1 hPX1 hk1 hS1 => ?_)
    exact cont ax (some (ax 132)) 133 _ _ v1 ar1 al1 H1 locs1 ls r1 hNX hAX hdis hPX1 (w_keep hPY hdis hk1) hS1 hp1.2.1 (Or.inr ⟨rfl, rfl, rfl, rfl⟩) (R_x hR (fun i j h => hp1.2.2 i j (fl_out (by decide) h))) hl
theorem dL_1147 : decode code 1147 = .ok (.aload_n 1, 1) := by decide +kernel
theorem dL_1148 : decode code 1148 = .ok (.invokevirtual 173, 3) := by decide +kernel
theorem dL_1151 : decode code 1151 = .ok (.pop, 1) := by decide +kernel
theorem dL_1152 : decode code 1152 = .ok (.aload_n 2, 1) := by decide +kernel
theorem dL_1153 : decode code 1153 = .ok (.invokevirtual 176, 3) := by decide +kernel
theorem dL_1156 : decode code 1156 = .ok (.pop, 1) := by decide +kernel
theorem dL_1157 : decode code 1157 = .ok (.goto 797, 3) := by decide +kernel
set_option maxHeartbeats 4000000 in
set_option maxRecDepth 100000 in
theorem lc_39 {p : Program} {l : Launch} {e : Env} {s : State} {m : MethodId} {below : List Frame} {meth : Method} {c : Code} {b L : Nat} {xs : Nat → Int32} {D : va_G} {K : Nat → ClassId} {ay ax : Nat → Nat} {mm : Option Nat} {N cells slots : Nat} {v ar : sI} {al : sL} {v' ar' : sI} {al' : sL} {H : Heap} {locs : List Loc} {ls : Array Slot} {tk tv : Nat → Nat} {i : Int} (hi : 0 ≤ i ∧ i + 6 ≤ (L : Int) ∧ L ≤ 3072) (F : lawF p s m meth c b L xs D K tk tv) (C : lawI s D K ay ax mm N cells slots v ar al v' ar' al' H locs) (hl : lv_has ls 4 [(3, .int (iI i)), (2, .ref (ay 0)), (1, .ref (ax 0)), (0, .ref b)]) (kk : lawK p l e s m below meth c b D K ay i) : W p l e room_1 s m #[Value.ref b] below meth c H locs cells slots (lw_Z below #[Value.ref b] s) (F0 m 1147 ls []) := by
  obtain ⟨C0, hE, hK, hT, hTR⟩ := F
  obtain ⟨hx, hb, hr, hml, hown, hts, hX, hbl, hlocks, hgv⟩ := id C0
  have hbA : ¬ lawA s b := Nat.not_le.mpr hbl
  obtain ⟨hNX, hNY, hAX, hAY, hdis, hPX, hPY, hS, hXI, hYI, hmd, hR⟩ := C
  have hcc := lawM_c hmd
  have hNN := lawM_N hmd
  have cont : ∀ (ax : Nat → Nat) (mm : Option Nat) (N cells slots : Nat) (v ar : sI) (al : sL) (H : Heap) (locs : List Loc) (ls : Array Slot) (r : Int32), apart ax N → (∀ i, i < N → lawA s (ax i)) → (∀ i j, i < N → j < 21 → ax i ≠ ay j) → va_P D xcl (wW ax (xG ax K mm) N v ar al) H → va_P D xcl (wW ay (yG ay K) 21 v' ar' al') H → va_S (lawA s) s.heap H locs → XI v → lawM ax mm N cells slots → lawR v ar al v' ar' al' → lv_has ls 4 [(3, .int (iI i)), (2, .ref (ay 0)), (1, .ref (ax 0)), (0, .ref b)] → W p l e room_1 s m #[Value.ref b] below meth c H locs cells slots (lw_Z below #[Value.ref b] s) (F0 m 1151 ls [.int r]) := by
    intro ax mm N cells slots v ar al H locs ls r hNX hAX hdis hPX hPY hS hXI hmd hR hl
    have hcc := lawM_c hmd
    refine lv_pop hx hb dL_1151 rfl ?_
    refine lv_aload_n hx hb dL_1152 rfl (lv_at hl 1 rfl) ?_
    refine l_viG (nn := 0) (As := []) (rest := []) hE hS hAY (s_X9_lasts l D K ay v' ar' al' hYI  ) wPre_blind (wPre_now hK hNY hPY) (x_recv hK hPY 0 (by decide) (yG_9 rfl) rfl) rfl mw_1918 mw_1919 mw_1920 mw_123 mw_1921 (by decide +kernel) ⟨Nat.le_of_ble_eq_true rfl, Nat.le_of_ble_eq_true rfl⟩ hl.1 rfl (Nat.le_of_ble_eq_true rfl) hcc dL_1153 (fun r2 v2 ar2 al2 H2 locs2 hp2 hPY2 hk2 hS2 => ?_)
    have hYI2 : YI v2 ar2 := hp2.2.1
    have hPX2 := w_keep hPX (fun i j hi hj e => hdis j i hj hi e.symm) hk2
    refine lv_pop hx hb dL_1156 rfl ?_
    refine lv_goto (tgt := 1954) hx hb dL_1157 (by decide) ?_
    exact kk ax mm N cells slots v ar al v2 ar2 al2 H2 locs2 ls ⟨hNX, hNY, hAX, hAY, hdis, hPX2, hPY2, hS2, hXI, hYI2, hmd, R_y hR (hp2.2.2.2.1 1 (by decide)) (hp2.2.2.2.1 2 (by decide)) (hp2.2.2.2.1 11 (by decide))⟩ hl
  refine lv_aload_n hx hb dL_1147 rfl (lv_at hl 2 rfl) ?_
  rcases hmd with ⟨rfl, rfl, rfl, rfl⟩ | ⟨rfl, rfl, rfl, rfl⟩
  · refine W_book (fun hb1 hb2 => ?_)
    have hA0 : ∀ q, s.heap.size ≤ q → lawA s q := fun _ h => h
    refine l_viF (nn := 0) (As := []) (rest := []) hE hK hNX hPX hS hA0 hAX (h_X8_lasts l D K ax v ar al hXI H ) (x_recv hK hPX 0 (by decide) (xG_8 rfl) rfl) rfl mw_1073 mw_1074 mw_1075 mw_114 mw_1076 (by decide +kernel) ⟨Nat.le_of_ble_eq_true rfl, Nat.le_of_ble_eq_true rfl⟩ hl.1 rfl (Nat.le_of_ble_eq_true rfl) ⟨Nat.le_of_ble_eq_true rfl, Nat.le_of_ble_eq_true rfl⟩ dL_1148 (fun r1 u1 t1 H1 locs1 ht1 hp1 hB1 hk1 hS1 => ?_)
    obtain ⟨o1, v1, ar1, al1⟩ := u1
    cases o1 with
    | none =>
      have e1 : H1 = H := ht1.symm.trans hB1
      subst e1
      refine W_low hb1 hb2 ?_
      exact cont ax none 132 _ _ v ar al H1 locs1 ls r1 hNX hAX hdis hPX hPY hS1 hXI (Or.inl ⟨rfl, rfl, rfl, rfl⟩) hR hl
    | some a1 =>
      obtain ⟨had, hN1, hA1, hP1⟩ := hB1
      have hP1 : va_P D xcl (wW a1 (xG a1 K (some (a1 132))) 133 v1 ar1 al1) H1 := by rw [← ht1]; exact hP1
      have hl1 : lv_has ls 4 [(3, .int (iI i)), (2, .ref (ay 0)), (1, .ref (a1 0)), (0, .ref b)] := by rw [had 0 (by decide)]; exact hl
      have hA2 : ∀ i, i < 133 → lawA s (a1 i) := fun i hi => aF_sub hS hA0 hAX _ (hA1 i hi)
      have hd2 : ∀ i j, i < 133 → j < 21 → a1 i ≠ ay j := fun i j hi hj e => (hA1 i hi).elim (fun ⟨k, hk, ek⟩ => hdis k j hk hj (ek.symm.trans e)) (fun z => absurd (w_lt hPY hj) (Nat.not_lt.mpr (e ▸ z)))
      exact cont a1 (some (a1 132)) 133 _ _ v1 ar1 al1 H1 locs1 ls r1 hN1 hA2 hd2 hP1 (w_keepF hPY hdis hk1) hS1 hp1.2.1 (Or.inr ⟨rfl, rfl, rfl, rfl⟩) (R_x hR hp1.2.2) hl1
  · refine l_viG (nn := 0) (As := []) (rest := []) hE hS hAX (s_X8_lasts_0 l D K ax v ar al hXI ) wPre_blind (wPre_now hK hNX hPX) (x_recv hK hPX 0 (by decide) (xG_8 rfl) rfl) rfl mw_1073 mw_1074 mw_1075 mw_114 mw_1076 (by decide +kernel) ⟨Nat.le_of_ble_eq_true rfl, Nat.le_of_ble_eq_true rfl⟩ hl.1 rfl (Nat.le_of_ble_eq_true rfl) hcc dL_1148 (fun r1 v1 ar1 al1 H1 locs1 hp1 hPX1 hk1 hS1 => ?_)
    exact cont ax (some (ax 132)) 133 _ _ v1 ar1 al1 H1 locs1 ls r1 hNX hAX hdis hPX1 (w_keep hPY hdis hk1) hS1 hp1.2.1 (Or.inr ⟨rfl, rfl, rfl, rfl⟩) (R_x hR (fun i j h => hp1.2.2 i j (fl_out (by decide) h))) hl
theorem dL_1160 : decode code 1160 = .ok (.aload_n 1, 1) := by decide +kernel
theorem dL_1161 : decode code 1161 = .ok (.invokevirtual 177, 3) := by decide +kernel
theorem dL_1164 : decode code 1164 = .ok (.pop, 1) := by decide +kernel
theorem dL_1165 : decode code 1165 = .ok (.aload_n 2, 1) := by decide +kernel
theorem dL_1166 : decode code 1166 = .ok (.invokevirtual 180, 3) := by decide +kernel
theorem dL_1169 : decode code 1169 = .ok (.pop, 1) := by decide +kernel
theorem dL_1170 : decode code 1170 = .ok (.goto 784, 3) := by decide +kernel
set_option maxHeartbeats 4000000 in
set_option maxRecDepth 100000 in
theorem lc_40 {p : Program} {l : Launch} {e : Env} {s : State} {m : MethodId} {below : List Frame} {meth : Method} {c : Code} {b L : Nat} {xs : Nat → Int32} {D : va_G} {K : Nat → ClassId} {ay ax : Nat → Nat} {mm : Option Nat} {N cells slots : Nat} {v ar : sI} {al : sL} {v' ar' : sI} {al' : sL} {H : Heap} {locs : List Loc} {ls : Array Slot} {tk tv : Nat → Nat} {i : Int} (hi : 0 ≤ i ∧ i + 6 ≤ (L : Int) ∧ L ≤ 3072) (F : lawF p s m meth c b L xs D K tk tv) (C : lawI s D K ay ax mm N cells slots v ar al v' ar' al' H locs) (hl : lv_has ls 4 [(3, .int (iI i)), (2, .ref (ay 0)), (1, .ref (ax 0)), (0, .ref b)]) (kk : lawK p l e s m below meth c b D K ay i) : W p l e room_1 s m #[Value.ref b] below meth c H locs cells slots (lw_Z below #[Value.ref b] s) (F0 m 1160 ls []) := by
  obtain ⟨C0, hE, hK, hT, hTR⟩ := F
  obtain ⟨hx, hb, hr, hml, hown, hts, hX, hbl, hlocks, hgv⟩ := id C0
  have hbA : ¬ lawA s b := Nat.not_le.mpr hbl
  obtain ⟨hNX, hNY, hAX, hAY, hdis, hPX, hPY, hS, hXI, hYI, hmd, hR⟩ := C
  have hcc := lawM_c hmd
  have hNN := lawM_N hmd
  have cont : ∀ (ax : Nat → Nat) (mm : Option Nat) (N cells slots : Nat) (v ar : sI) (al : sL) (H : Heap) (locs : List Loc) (ls : Array Slot) (r : Int32), apart ax N → (∀ i, i < N → lawA s (ax i)) → (∀ i j, i < N → j < 21 → ax i ≠ ay j) → va_P D xcl (wW ax (xG ax K mm) N v ar al) H → va_P D xcl (wW ay (yG ay K) 21 v' ar' al') H → va_S (lawA s) s.heap H locs → XI v → lawM ax mm N cells slots → lawR v ar al v' ar' al' → lv_has ls 4 [(3, .int (iI i)), (2, .ref (ay 0)), (1, .ref (ax 0)), (0, .ref b)] → W p l e room_1 s m #[Value.ref b] below meth c H locs cells slots (lw_Z below #[Value.ref b] s) (F0 m 1164 ls [.int r]) := by
    intro ax mm N cells slots v ar al H locs ls r hNX hAX hdis hPX hPY hS hXI hmd hR hl
    have hcc := lawM_c hmd
    refine lv_pop hx hb dL_1164 rfl ?_
    refine lv_aload_n hx hb dL_1165 rfl (lv_at hl 1 rfl) ?_
    refine l_viG (nn := 0) (As := []) (rest := []) hE hS hAY (s_X9_good l D K ay v' ar' al' hYI  ) wPre_blind (wPre_now hK hNY hPY) (x_recv hK hPY 0 (by decide) (yG_9 rfl) rfl) rfl mw_1922 mw_1923 mw_1924 mw_123 mw_1925 (by decide +kernel) ⟨Nat.le_of_ble_eq_true rfl, Nat.le_of_ble_eq_true rfl⟩ hl.1 rfl (Nat.le_of_ble_eq_true rfl) hcc dL_1166 (fun r2 v2 ar2 al2 H2 locs2 hp2 hPY2 hk2 hS2 => ?_)
    have hYI2 : YI v2 ar2 := hp2.2.1
    have hPX2 := w_keep hPX (fun i j hi hj e => hdis j i hj hi e.symm) hk2
    refine lv_pop hx hb dL_1169 rfl ?_
    refine lv_goto (tgt := 1954) hx hb dL_1170 (by decide) ?_
    exact kk ax mm N cells slots v ar al v2 ar2 al2 H2 locs2 ls ⟨hNX, hNY, hAX, hAY, hdis, hPX2, hPY2, hS2, hXI, hYI2, hmd, R_y hR (hp2.2.2.2.1 1 (by decide)) (hp2.2.2.2.1 2 (by decide)) (hp2.2.2.2.1 11 (by decide))⟩ hl
  refine lv_aload_n hx hb dL_1160 rfl (lv_at hl 2 rfl) ?_
  rcases hmd with ⟨rfl, rfl, rfl, rfl⟩ | ⟨rfl, rfl, rfl, rfl⟩
  · refine W_book (fun hb1 hb2 => ?_)
    have hA0 : ∀ q, s.heap.size ≤ q → lawA s q := fun _ h => h
    refine l_viF (nn := 0) (As := []) (rest := []) hE hK hNX hPX hS hA0 hAX (h_X8_good l D K ax v ar al hXI H ) (x_recv hK hPX 0 (by decide) (xG_8 rfl) rfl) rfl mw_1081 mw_1082 mw_1083 mw_114 mw_1084 (by decide +kernel) ⟨Nat.le_of_ble_eq_true rfl, Nat.le_of_ble_eq_true rfl⟩ hl.1 rfl (Nat.le_of_ble_eq_true rfl) ⟨Nat.le_of_ble_eq_true rfl, Nat.le_of_ble_eq_true rfl⟩ dL_1161 (fun r1 u1 t1 H1 locs1 ht1 hp1 hB1 hk1 hS1 => ?_)
    obtain ⟨o1, v1, ar1, al1⟩ := u1
    cases o1 with
    | none =>
      have e1 : H1 = H := ht1.symm.trans hB1
      subst e1
      refine W_low hb1 hb2 ?_
      exact cont ax none 132 _ _ v ar al H1 locs1 ls r1 hNX hAX hdis hPX hPY hS1 hXI (Or.inl ⟨rfl, rfl, rfl, rfl⟩) hR hl
    | some a1 =>
      obtain ⟨had, hN1, hA1, hP1⟩ := hB1
      have hP1 : va_P D xcl (wW a1 (xG a1 K (some (a1 132))) 133 v1 ar1 al1) H1 := by rw [← ht1]; exact hP1
      have hl1 : lv_has ls 4 [(3, .int (iI i)), (2, .ref (ay 0)), (1, .ref (a1 0)), (0, .ref b)] := by rw [had 0 (by decide)]; exact hl
      have hA2 : ∀ i, i < 133 → lawA s (a1 i) := fun i hi => aF_sub hS hA0 hAX _ (hA1 i hi)
      have hd2 : ∀ i j, i < 133 → j < 21 → a1 i ≠ ay j := fun i j hi hj e => (hA1 i hi).elim (fun ⟨k, hk, ek⟩ => hdis k j hk hj (ek.symm.trans e)) (fun z => absurd (w_lt hPY hj) (Nat.not_lt.mpr (e ▸ z)))
      exact cont a1 (some (a1 132)) 133 _ _ v1 ar1 al1 H1 locs1 ls r1 hN1 hA2 hd2 hP1 (w_keepF hPY hdis hk1) hS1 hp1.2.1 (Or.inr ⟨rfl, rfl, rfl, rfl⟩) (R_x hR hp1.2.2) hl1
  · refine l_viG (nn := 0) (As := []) (rest := []) hE hS hAX (s_X8_good_0 l D K ax v ar al hXI ) wPre_blind (wPre_now hK hNX hPX) (x_recv hK hPX 0 (by decide) (xG_8 rfl) rfl) rfl mw_1081 mw_1082 mw_1083 mw_114 mw_1084 (by decide +kernel) ⟨Nat.le_of_ble_eq_true rfl, Nat.le_of_ble_eq_true rfl⟩ hl.1 rfl (Nat.le_of_ble_eq_true rfl) hcc dL_1161 (fun r1 v1 ar1 al1 H1 locs1 hp1 hPX1 hk1 hS1 => ?_)
    exact cont ax (some (ax 132)) 133 _ _ v1 ar1 al1 H1 locs1 ls r1 hNX hAX hdis hPX1 (w_keep hPY hdis hk1) hS1 hp1.2.1 (Or.inr ⟨rfl, rfl, rfl, rfl⟩) (R_x hR (fun i j h => hp1.2.2 i j (fl_out (by decide) h))) hl
theorem dL_1173 : decode code 1173 = .ok (.aload_n 1, 1) := by decide +kernel
theorem dL_1174 : decode code 1174 = .ok (.aload_n 0, 1) := by decide +kernel
theorem dL_1175 : decode code 1175 = .ok (.iload_n 3, 1) := by decide +kernel
theorem dL_1176 : decode code 1176 = .ok (.iconst 1, 1) := by decide +kernel
theorem dL_1177 : decode code 1177 = .ok (.iadd, 1) := by decide +kernel
theorem dL_1178 : decode code 1178 = .ok (.iaload, 1) := by decide +kernel
theorem dL_1179 : decode code 1179 = .ok (.aload_n 0, 1) := by decide +kernel
theorem dL_1180 : decode code 1180 = .ok (.iload_n 3, 1) := by decide +kernel
theorem dL_1181 : decode code 1181 = .ok (.iconst 2, 1) := by decide +kernel
theorem dL_1182 : decode code 1182 = .ok (.iadd, 1) := by decide +kernel
theorem dL_1183 : decode code 1183 = .ok (.iaload, 1) := by decide +kernel
theorem dL_1184 : decode code 1184 = .ok (.invokevirtual 181, 3) := by decide +kernel
theorem dL_1187 : decode code 1187 = .ok (.pop, 1) := by decide +kernel
theorem dL_1188 : decode code 1188 = .ok (.aload_n 2, 1) := by decide +kernel
theorem dL_1189 : decode code 1189 = .ok (.aload_n 0, 1) := by decide +kernel
theorem dL_1190 : decode code 1190 = .ok (.iload_n 3, 1) := by decide +kernel
theorem dL_1191 : decode code 1191 = .ok (.iconst 1, 1) := by decide +kernel
theorem dL_1192 : decode code 1192 = .ok (.iadd, 1) := by decide +kernel
theorem dL_1193 : decode code 1193 = .ok (.iaload, 1) := by decide +kernel
theorem dL_1194 : decode code 1194 = .ok (.aload_n 0, 1) := by decide +kernel
theorem dL_1195 : decode code 1195 = .ok (.iload_n 3, 1) := by decide +kernel
theorem dL_1196 : decode code 1196 = .ok (.iconst 2, 1) := by decide +kernel
theorem dL_1197 : decode code 1197 = .ok (.iadd, 1) := by decide +kernel
theorem dL_1198 : decode code 1198 = .ok (.iaload, 1) := by decide +kernel
theorem dL_1199 : decode code 1199 = .ok (.invokevirtual 184, 3) := by decide +kernel
theorem dL_1202 : decode code 1202 = .ok (.pop, 1) := by decide +kernel
theorem dL_1203 : decode code 1203 = .ok (.goto 751, 3) := by decide +kernel
set_option maxHeartbeats 4000000 in
set_option maxRecDepth 100000 in
theorem lc_41 {p : Program} {l : Launch} {e : Env} {s : State} {m : MethodId} {below : List Frame} {meth : Method} {c : Code} {b L : Nat} {xs : Nat → Int32} {D : va_G} {K : Nat → ClassId} {ay ax : Nat → Nat} {mm : Option Nat} {N cells slots : Nat} {v ar : sI} {al : sL} {v' ar' : sI} {al' : sL} {H : Heap} {locs : List Loc} {ls : Array Slot} {tk tv : Nat → Nat} {i : Int} (hi : 0 ≤ i ∧ i + 6 ≤ (L : Int) ∧ L ≤ 3072) (F : lawF p s m meth c b L xs D K tk tv) (C : lawI s D K ay ax mm N cells slots v ar al v' ar' al' H locs) (hl : lv_has ls 4 [(3, .int (iI i)), (2, .ref (ay 0)), (1, .ref (ax 0)), (0, .ref b)]) (kk : lawK p l e s m below meth c b D K ay i) : W p l e room_1 s m #[Value.ref b] below meth c H locs cells slots (lw_Z below #[Value.ref b] s) (F0 m 1173 ls []) := by
  obtain ⟨C0, hE, hK, hT, hTR⟩ := F
  obtain ⟨hx, hb, hr, hml, hown, hts, hX, hbl, hlocks, hgv⟩ := id C0
  have hbA : ¬ lawA s b := Nat.not_le.mpr hbl
  obtain ⟨hNX, hNY, hAX, hAY, hdis, hPX, hPY, hS, hXI, hYI, hmd, hR⟩ := C
  have hcc := lawM_c hmd
  have hNN := lawM_N hmd
  obtain ⟨z1, hz1, ez1⟩ := iI_of (xs (iI (i + 1)).toNatClampNeg)
  obtain ⟨z2, hz2, ez2⟩ := iI_of (xs (iI (i + 2)).toNatClampNeg)
  have cont : ∀ (ax : Nat → Nat) (mm : Option Nat) (N cells slots : Nat) (v ar : sI) (al : sL) (H : Heap) (locs : List Loc) (ls : Array Slot) (r : Int32), apart ax N → (∀ i, i < N → lawA s (ax i)) → (∀ i j, i < N → j < 21 → ax i ≠ ay j) → va_P D xcl (wW ax (xG ax K mm) N v ar al) H → va_P D xcl (wW ay (yG ay K) 21 v' ar' al') H → va_S (lawA s) s.heap H locs → XI v → lawM ax mm N cells slots → lawR v ar al v' ar' al' → lv_has ls 4 [(3, .int (iI i)), (2, .ref (ay 0)), (1, .ref (ax 0)), (0, .ref b)] → W p l e room_1 s m #[Value.ref b] below meth c H locs cells slots (lw_Z below #[Value.ref b] s) (F0 m 1187 ls [.int r]) := by
    intro ax mm N cells slots v ar al H locs ls r hNX hAX hdis hPX hPY hS hXI hmd hR hl
    have hcc := lawM_c hmd
    refine lv_pop hx hb dL_1187 rfl ?_
    refine lv_aload_n hx hb dL_1188 rfl (lv_at hl 1 rfl) ?_
    refine lv_aload_n hx hb dL_1189 rfl (lv_at hl 3 rfl) ?_
    refine lv_iload_n hx hb dL_1190 rfl (lv_at hl 0 rfl) ?_
    refine lv_iconst (v := iI (1)) hx hb dL_1191 (by decide) ?_
    refine lv_iadd hx hb dL_1192 ?_
    refine x_top (y := iI (i + 1)) (iI_add _ _) ?_
    refine va_sld (i := iI (i + 1)) hx hb hX hbl hbA hS (iI_in (n := L) (by omega)) dL_1193 ?_
    refine x_top ez1 ?_
    refine lv_aload_n hx hb dL_1194 rfl (lv_at hl 3 rfl) ?_
    refine lv_iload_n hx hb dL_1195 rfl (lv_at hl 0 rfl) ?_
    refine lv_iconst (v := iI (2)) hx hb dL_1196 (by decide) ?_
    refine lv_iadd hx hb dL_1197 ?_
    refine x_top (y := iI (i + 2)) (iI_add _ _) ?_
    refine va_sld (i := iI (i + 2)) hx hb hX hbl hbA hS (iI_in (n := L) (by omega)) dL_1198 ?_
    refine x_top ez2 ?_
    refine l_viG (nn := 2) (As := [.int (iI (z1)), .int (iI (z2))]) (rest := []) hE hS hAY (s_X9_kept l D K ay v' ar' al' hYI  (z1) (by omega) (z2) (by omega)) wPre_blind (wPre_now hK hNY hPY) (x_recv hK hPY 0 (by decide) (yG_9 rfl) rfl) rfl mw_1926 mw_1927 mw_1928 mw_123 mw_1929 (by decide +kernel) ⟨Nat.le_of_ble_eq_true rfl, Nat.le_of_ble_eq_true rfl⟩ hl.1 rfl (Nat.le_of_ble_eq_true rfl) hcc dL_1199 (fun r2 v2 ar2 al2 H2 locs2 hp2 hPY2 hk2 hS2 => ?_)
    have hYI2 : YI v2 ar2 := hp2.2.1
    have hPX2 := w_keep hPX (fun i j hi hj e => hdis j i hj hi e.symm) hk2
    refine lv_pop hx hb dL_1202 rfl ?_
    refine lv_goto (tgt := 1954) hx hb dL_1203 (by decide) ?_
    exact kk ax mm N cells slots v ar al v2 ar2 al2 H2 locs2 ls ⟨hNX, hNY, hAX, hAY, hdis, hPX2, hPY2, hS2, hXI, hYI2, hmd, R_y hR (hp2.2.2.2.1 1 (by decide)) (hp2.2.2.2.1 2 (by decide)) (hp2.2.2.2.1 11 (by decide))⟩ hl
  refine lv_aload_n hx hb dL_1173 rfl (lv_at hl 2 rfl) ?_
  refine lv_aload_n hx hb dL_1174 rfl (lv_at hl 3 rfl) ?_
  refine lv_iload_n hx hb dL_1175 rfl (lv_at hl 0 rfl) ?_
  refine lv_iconst (v := iI (1)) hx hb dL_1176 (by decide) ?_
  refine lv_iadd hx hb dL_1177 ?_
  refine x_top (y := iI (i + 1)) (iI_add _ _) ?_
  refine va_sld (i := iI (i + 1)) hx hb hX hbl hbA hS (iI_in (n := L) (by omega)) dL_1178 ?_
  refine x_top ez1 ?_
  refine lv_aload_n hx hb dL_1179 rfl (lv_at hl 3 rfl) ?_
  refine lv_iload_n hx hb dL_1180 rfl (lv_at hl 0 rfl) ?_
  refine lv_iconst (v := iI (2)) hx hb dL_1181 (by decide) ?_
  refine lv_iadd hx hb dL_1182 ?_
  refine x_top (y := iI (i + 2)) (iI_add _ _) ?_
  refine va_sld (i := iI (i + 2)) hx hb hX hbl hbA hS (iI_in (n := L) (by omega)) dL_1183 ?_
  refine x_top ez2 ?_
  rcases hmd with ⟨rfl, rfl, rfl, rfl⟩ | ⟨rfl, rfl, rfl, rfl⟩
  · refine W_book (fun hb1 hb2 => ?_)
    have hA0 : ∀ q, s.heap.size ≤ q → lawA s q := fun _ h => h
    refine l_viF (nn := 2) (As := [.int (iI (z1)), .int (iI (z2))]) (rest := []) hE hK hNX hPX hS hA0 hAX (h_X8_kept l D K ax v ar al hXI H (z1) (by omega) (z2) (by omega)) (x_recv hK hPX 0 (by decide) (xG_8 rfl) rfl) rfl mw_1085 mw_1086 mw_1087 mw_114 mw_1088 (by decide +kernel) ⟨Nat.le_of_ble_eq_true rfl, Nat.le_of_ble_eq_true rfl⟩ hl.1 rfl (Nat.le_of_ble_eq_true rfl) ⟨Nat.le_of_ble_eq_true rfl, Nat.le_of_ble_eq_true rfl⟩ dL_1184 (fun r1 u1 t1 H1 locs1 ht1 hp1 hB1 hk1 hS1 => ?_)
    obtain ⟨o1, v1, ar1, al1⟩ := u1
    cases o1 with
    | none =>
      have e1 : H1 = H := ht1.symm.trans hB1
      subst e1
      refine W_low hb1 hb2 ?_
      exact cont ax none 132 _ _ v ar al H1 locs1 ls r1 hNX hAX hdis hPX hPY hS1 hXI (Or.inl ⟨rfl, rfl, rfl, rfl⟩) hR hl
    | some a1 =>
      obtain ⟨had, hN1, hA1, hP1⟩ := hB1
      have hP1 : va_P D xcl (wW a1 (xG a1 K (some (a1 132))) 133 v1 ar1 al1) H1 := by rw [← ht1]; exact hP1
      have hl1 : lv_has ls 4 [(3, .int (iI i)), (2, .ref (ay 0)), (1, .ref (a1 0)), (0, .ref b)] := by rw [had 0 (by decide)]; exact hl
      have hA2 : ∀ i, i < 133 → lawA s (a1 i) := fun i hi => aF_sub hS hA0 hAX _ (hA1 i hi)
      have hd2 : ∀ i j, i < 133 → j < 21 → a1 i ≠ ay j := fun i j hi hj e => (hA1 i hi).elim (fun ⟨k, hk, ek⟩ => hdis k j hk hj (ek.symm.trans e)) (fun z => absurd (w_lt hPY hj) (Nat.not_lt.mpr (e ▸ z)))
      exact cont a1 (some (a1 132)) 133 _ _ v1 ar1 al1 H1 locs1 ls r1 hN1 hA2 hd2 hP1 (w_keepF hPY hdis hk1) hS1 hp1.2.1 (Or.inr ⟨rfl, rfl, rfl, rfl⟩) (R_x hR hp1.2.2) hl1
  · refine l_viG (nn := 2) (As := [.int (iI (z1)), .int (iI (z2))]) (rest := []) hE hS hAX (s_X8_kept_0 l D K ax v ar al hXI (z1) (by omega) (z2) (by omega)) wPre_blind (wPre_now hK hNX hPX) (x_recv hK hPX 0 (by decide) (xG_8 rfl) rfl) rfl mw_1085 mw_1086 mw_1087 mw_114 mw_1088 (by decide +kernel) ⟨Nat.le_of_ble_eq_true rfl, Nat.le_of_ble_eq_true rfl⟩ hl.1 rfl (Nat.le_of_ble_eq_true rfl) hcc dL_1184 (fun r1 v1 ar1 al1 H1 locs1 hp1 hPX1 hk1 hS1 => ?_)
    exact cont ax (some (ax 132)) 133 _ _ v1 ar1 al1 H1 locs1 ls r1 hNX hAX hdis hPX1 (w_keep hPY hdis hk1) hS1 hp1.2.1 (Or.inr ⟨rfl, rfl, rfl, rfl⟩) (R_x hR (fun i j h => hp1.2.2 i j (fl_out (by decide) h))) hl
theorem dL_1206 : decode code 1206 = .ok (.aload_n 1, 1) := by decide +kernel
theorem dL_1207 : decode code 1207 = .ok (.invokevirtual 185, 3) := by decide +kernel
theorem dL_1210 : decode code 1210 = .ok (.pop, 1) := by decide +kernel
theorem dL_1211 : decode code 1211 = .ok (.aload_n 2, 1) := by decide +kernel
theorem dL_1212 : decode code 1212 = .ok (.invokevirtual 188, 3) := by decide +kernel
theorem dL_1215 : decode code 1215 = .ok (.pop, 1) := by decide +kernel
theorem dL_1216 : decode code 1216 = .ok (.goto 738, 3) := by decide +kernel
set_option maxHeartbeats 4000000 in
set_option maxRecDepth 100000 in
theorem lc_42 {p : Program} {l : Launch} {e : Env} {s : State} {m : MethodId} {below : List Frame} {meth : Method} {c : Code} {b L : Nat} {xs : Nat → Int32} {D : va_G} {K : Nat → ClassId} {ay ax : Nat → Nat} {mm : Option Nat} {N cells slots : Nat} {v ar : sI} {al : sL} {v' ar' : sI} {al' : sL} {H : Heap} {locs : List Loc} {ls : Array Slot} {tk tv : Nat → Nat} {i : Int} (hi : 0 ≤ i ∧ i + 6 ≤ (L : Int) ∧ L ≤ 3072) (F : lawF p s m meth c b L xs D K tk tv) (C : lawI s D K ay ax mm N cells slots v ar al v' ar' al' H locs) (hl : lv_has ls 4 [(3, .int (iI i)), (2, .ref (ay 0)), (1, .ref (ax 0)), (0, .ref b)]) (kk : lawK p l e s m below meth c b D K ay i) : W p l e room_1 s m #[Value.ref b] below meth c H locs cells slots (lw_Z below #[Value.ref b] s) (F0 m 1206 ls []) := by
  obtain ⟨C0, hE, hK, hT, hTR⟩ := F
  obtain ⟨hx, hb, hr, hml, hown, hts, hX, hbl, hlocks, hgv⟩ := id C0
  have hbA : ¬ lawA s b := Nat.not_le.mpr hbl
  obtain ⟨hNX, hNY, hAX, hAY, hdis, hPX, hPY, hS, hXI, hYI, hmd, hR⟩ := C
  have hcc := lawM_c hmd
  have hNN := lawM_N hmd
  have cont : ∀ (ax : Nat → Nat) (mm : Option Nat) (N cells slots : Nat) (v ar : sI) (al : sL) (H : Heap) (locs : List Loc) (ls : Array Slot) (r : Int32), apart ax N → (∀ i, i < N → lawA s (ax i)) → (∀ i j, i < N → j < 21 → ax i ≠ ay j) → va_P D xcl (wW ax (xG ax K mm) N v ar al) H → va_P D xcl (wW ay (yG ay K) 21 v' ar' al') H → va_S (lawA s) s.heap H locs → XI v → lawM ax mm N cells slots → lawR v ar al v' ar' al' → lv_has ls 4 [(3, .int (iI i)), (2, .ref (ay 0)), (1, .ref (ax 0)), (0, .ref b)] → W p l e room_1 s m #[Value.ref b] below meth c H locs cells slots (lw_Z below #[Value.ref b] s) (F0 m 1210 ls [.int r]) := by
    intro ax mm N cells slots v ar al H locs ls r hNX hAX hdis hPX hPY hS hXI hmd hR hl
    have hcc := lawM_c hmd
    refine lv_pop hx hb dL_1210 rfl ?_
    refine lv_aload_n hx hb dL_1211 rfl (lv_at hl 1 rfl) ?_
    refine l_viG (nn := 0) (As := []) (rest := []) hE hS hAY (s_X9_trade l D K ay v' ar' al' hYI  ) wPre_blind (wPre_now hK hNY hPY) (x_recv hK hPY 0 (by decide) (yG_9 rfl) rfl) rfl mw_1930 mw_1931 mw_1932 mw_123 mw_1933 (by decide +kernel) ⟨Nat.le_of_ble_eq_true rfl, Nat.le_of_ble_eq_true rfl⟩ hl.1 rfl (Nat.le_of_ble_eq_true rfl) hcc dL_1212 (fun r2 v2 ar2 al2 H2 locs2 hp2 hPY2 hk2 hS2 => ?_)
    have hYI2 : YI v2 ar2 := hp2.2.1
    have hPX2 := w_keep hPX (fun i j hi hj e => hdis j i hj hi e.symm) hk2
    refine lv_pop hx hb dL_1215 rfl ?_
    refine lv_goto (tgt := 1954) hx hb dL_1216 (by decide) ?_
    exact kk ax mm N cells slots v ar al v2 ar2 al2 H2 locs2 ls ⟨hNX, hNY, hAX, hAY, hdis, hPX2, hPY2, hS2, hXI, hYI2, hmd, R_y hR (hp2.2.2.2.1 1 (by decide)) (hp2.2.2.2.1 2 (by decide)) (hp2.2.2.2.1 11 (by decide))⟩ hl
  refine lv_aload_n hx hb dL_1206 rfl (lv_at hl 2 rfl) ?_
  rcases hmd with ⟨rfl, rfl, rfl, rfl⟩ | ⟨rfl, rfl, rfl, rfl⟩
  · refine W_book (fun hb1 hb2 => ?_)
    have hA0 : ∀ q, s.heap.size ≤ q → lawA s q := fun _ h => h
    refine l_viF (nn := 0) (As := []) (rest := []) hE hK hNX hPX hS hA0 hAX (h_X8_trade l D K ax v ar al hXI H ) (x_recv hK hPX 0 (by decide) (xG_8 rfl) rfl) rfl mw_1095 mw_1096 mw_1097 mw_114 mw_1098 (by decide +kernel) ⟨Nat.le_of_ble_eq_true rfl, Nat.le_of_ble_eq_true rfl⟩ hl.1 rfl (Nat.le_of_ble_eq_true rfl) ⟨Nat.le_of_ble_eq_true rfl, Nat.le_of_ble_eq_true rfl⟩ dL_1207 (fun r1 u1 t1 H1 locs1 ht1 hp1 hB1 hk1 hS1 => ?_)
    obtain ⟨o1, v1, ar1, al1⟩ := u1
    cases o1 with
    | none =>
      have e1 : H1 = H := ht1.symm.trans hB1
      subst e1
      refine W_low hb1 hb2 ?_
      exact cont ax none 132 _ _ v ar al H1 locs1 ls r1 hNX hAX hdis hPX hPY hS1 hXI (Or.inl ⟨rfl, rfl, rfl, rfl⟩) hR hl
    | some a1 =>
      obtain ⟨had, hN1, hA1, hP1⟩ := hB1
      have hP1 : va_P D xcl (wW a1 (xG a1 K (some (a1 132))) 133 v1 ar1 al1) H1 := by rw [← ht1]; exact hP1
      have hl1 : lv_has ls 4 [(3, .int (iI i)), (2, .ref (ay 0)), (1, .ref (a1 0)), (0, .ref b)] := by rw [had 0 (by decide)]; exact hl
      have hA2 : ∀ i, i < 133 → lawA s (a1 i) := fun i hi => aF_sub hS hA0 hAX _ (hA1 i hi)
      have hd2 : ∀ i j, i < 133 → j < 21 → a1 i ≠ ay j := fun i j hi hj e => (hA1 i hi).elim (fun ⟨k, hk, ek⟩ => hdis k j hk hj (ek.symm.trans e)) (fun z => absurd (w_lt hPY hj) (Nat.not_lt.mpr (e ▸ z)))
      exact cont a1 (some (a1 132)) 133 _ _ v1 ar1 al1 H1 locs1 ls r1 hN1 hA2 hd2 hP1 (w_keepF hPY hdis hk1) hS1 hp1.2.1 (Or.inr ⟨rfl, rfl, rfl, rfl⟩) (R_x hR hp1.2.2) hl1
  · refine l_viG (nn := 0) (As := []) (rest := []) hE hS hAX (s_X8_trade_0 l D K ax v ar al hXI ) wPre_blind (wPre_now hK hNX hPX) (x_recv hK hPX 0 (by decide) (xG_8 rfl) rfl) rfl mw_1095 mw_1096 mw_1097 mw_114 mw_1098 (by decide +kernel) ⟨Nat.le_of_ble_eq_true rfl, Nat.le_of_ble_eq_true rfl⟩ hl.1 rfl (Nat.le_of_ble_eq_true rfl) hcc dL_1207 (fun r1 v1 ar1 al1 H1 locs1 hp1 hPX1 hk1 hS1 => ?_)
    exact cont ax (some (ax 132)) 133 _ _ v1 ar1 al1 H1 locs1 ls r1 hNX hAX hdis hPX1 (w_keep hPY hdis hk1) hS1 hp1.2.1 (Or.inr ⟨rfl, rfl, rfl, rfl⟩) (R_x hR (fun i j h => hp1.2.2 i j (fl_out (by decide) h))) hl
theorem dL_1219 : decode code 1219 = .ok (.aload_n 1, 1) := by decide +kernel
theorem dL_1220 : decode code 1220 = .ok (.aload_n 0, 1) := by decide +kernel
theorem dL_1221 : decode code 1221 = .ok (.iload_n 3, 1) := by decide +kernel
theorem dL_1222 : decode code 1222 = .ok (.iconst 1, 1) := by decide +kernel
theorem dL_1223 : decode code 1223 = .ok (.iadd, 1) := by decide +kernel
theorem dL_1224 : decode code 1224 = .ok (.iaload, 1) := by decide +kernel
theorem dL_1225 : decode code 1225 = .ok (.aload_n 0, 1) := by decide +kernel
theorem dL_1226 : decode code 1226 = .ok (.iload_n 3, 1) := by decide +kernel
theorem dL_1227 : decode code 1227 = .ok (.iconst 2, 1) := by decide +kernel
theorem dL_1228 : decode code 1228 = .ok (.iadd, 1) := by decide +kernel
theorem dL_1229 : decode code 1229 = .ok (.iaload, 1) := by decide +kernel
theorem dL_1230 : decode code 1230 = .ok (.invokevirtual 189, 3) := by decide +kernel
theorem dL_1233 : decode code 1233 = .ok (.pop, 1) := by decide +kernel
theorem dL_1234 : decode code 1234 = .ok (.aload_n 2, 1) := by decide +kernel
theorem dL_1235 : decode code 1235 = .ok (.aload_n 0, 1) := by decide +kernel
theorem dL_1236 : decode code 1236 = .ok (.iload_n 3, 1) := by decide +kernel
theorem dL_1237 : decode code 1237 = .ok (.iconst 1, 1) := by decide +kernel
theorem dL_1238 : decode code 1238 = .ok (.iadd, 1) := by decide +kernel
theorem dL_1239 : decode code 1239 = .ok (.iaload, 1) := by decide +kernel
theorem dL_1240 : decode code 1240 = .ok (.aload_n 0, 1) := by decide +kernel
theorem dL_1241 : decode code 1241 = .ok (.iload_n 3, 1) := by decide +kernel
theorem dL_1242 : decode code 1242 = .ok (.iconst 2, 1) := by decide +kernel
theorem dL_1243 : decode code 1243 = .ok (.iadd, 1) := by decide +kernel
theorem dL_1244 : decode code 1244 = .ok (.iaload, 1) := by decide +kernel
theorem dL_1245 : decode code 1245 = .ok (.invokevirtual 192, 3) := by decide +kernel
theorem dL_1248 : decode code 1248 = .ok (.pop, 1) := by decide +kernel
theorem dL_1249 : decode code 1249 = .ok (.goto 705, 3) := by decide +kernel
set_option maxHeartbeats 4000000 in
set_option maxRecDepth 100000 in
theorem lc_43 {p : Program} {l : Launch} {e : Env} {s : State} {m : MethodId} {below : List Frame} {meth : Method} {c : Code} {b L : Nat} {xs : Nat → Int32} {D : va_G} {K : Nat → ClassId} {ay ax : Nat → Nat} {mm : Option Nat} {N cells slots : Nat} {v ar : sI} {al : sL} {v' ar' : sI} {al' : sL} {H : Heap} {locs : List Loc} {ls : Array Slot} {tk tv : Nat → Nat} {i : Int} (hi : 0 ≤ i ∧ i + 6 ≤ (L : Int) ∧ L ≤ 3072) (F : lawF p s m meth c b L xs D K tk tv) (C : lawI s D K ay ax mm N cells slots v ar al v' ar' al' H locs) (hl : lv_has ls 4 [(3, .int (iI i)), (2, .ref (ay 0)), (1, .ref (ax 0)), (0, .ref b)]) (kk : lawK p l e s m below meth c b D K ay i) : W p l e room_1 s m #[Value.ref b] below meth c H locs cells slots (lw_Z below #[Value.ref b] s) (F0 m 1219 ls []) := by
  obtain ⟨C0, hE, hK, hT, hTR⟩ := F
  obtain ⟨hx, hb, hr, hml, hown, hts, hX, hbl, hlocks, hgv⟩ := id C0
  have hbA : ¬ lawA s b := Nat.not_le.mpr hbl
  obtain ⟨hNX, hNY, hAX, hAY, hdis, hPX, hPY, hS, hXI, hYI, hmd, hR⟩ := C
  have hcc := lawM_c hmd
  have hNN := lawM_N hmd
  obtain ⟨z1, hz1, ez1⟩ := iI_of (xs (iI (i + 1)).toNatClampNeg)
  obtain ⟨z2, hz2, ez2⟩ := iI_of (xs (iI (i + 2)).toNatClampNeg)
  have cont : ∀ (ax : Nat → Nat) (mm : Option Nat) (N cells slots : Nat) (v ar : sI) (al : sL) (H : Heap) (locs : List Loc) (ls : Array Slot) (r : Int32), apart ax N → (∀ i, i < N → lawA s (ax i)) → (∀ i j, i < N → j < 21 → ax i ≠ ay j) → va_P D xcl (wW ax (xG ax K mm) N v ar al) H → va_P D xcl (wW ay (yG ay K) 21 v' ar' al') H → va_S (lawA s) s.heap H locs → XI v → lawM ax mm N cells slots → lawR v ar al v' ar' al' → lv_has ls 4 [(3, .int (iI i)), (2, .ref (ay 0)), (1, .ref (ax 0)), (0, .ref b)] → W p l e room_1 s m #[Value.ref b] below meth c H locs cells slots (lw_Z below #[Value.ref b] s) (F0 m 1233 ls [.int r]) := by
    intro ax mm N cells slots v ar al H locs ls r hNX hAX hdis hPX hPY hS hXI hmd hR hl
    have hcc := lawM_c hmd
    refine lv_pop hx hb dL_1233 rfl ?_
    refine lv_aload_n hx hb dL_1234 rfl (lv_at hl 1 rfl) ?_
    refine lv_aload_n hx hb dL_1235 rfl (lv_at hl 3 rfl) ?_
    refine lv_iload_n hx hb dL_1236 rfl (lv_at hl 0 rfl) ?_
    refine lv_iconst (v := iI (1)) hx hb dL_1237 (by decide) ?_
    refine lv_iadd hx hb dL_1238 ?_
    refine x_top (y := iI (i + 1)) (iI_add _ _) ?_
    refine va_sld (i := iI (i + 1)) hx hb hX hbl hbA hS (iI_in (n := L) (by omega)) dL_1239 ?_
    refine x_top ez1 ?_
    refine lv_aload_n hx hb dL_1240 rfl (lv_at hl 3 rfl) ?_
    refine lv_iload_n hx hb dL_1241 rfl (lv_at hl 0 rfl) ?_
    refine lv_iconst (v := iI (2)) hx hb dL_1242 (by decide) ?_
    refine lv_iadd hx hb dL_1243 ?_
    refine x_top (y := iI (i + 2)) (iI_add _ _) ?_
    refine va_sld (i := iI (i + 2)) hx hb hX hbl hbA hS (iI_in (n := L) (by omega)) dL_1244 ?_
    refine x_top ez2 ?_
    refine l_viG (nn := 2) (As := [.int (iI (z1)), .int (iI (z2))]) (rest := []) hE hS hAY (s_X9_keeps l D K ay v' ar' al' hYI  (z1) (by omega) (z2) (by omega)) wPre_blind (wPre_now hK hNY hPY) (x_recv hK hPY 0 (by decide) (yG_9 rfl) rfl) rfl mw_1938 mw_1939 mw_1940 mw_123 mw_1941 (by decide +kernel) ⟨Nat.le_of_ble_eq_true rfl, Nat.le_of_ble_eq_true rfl⟩ hl.1 rfl (Nat.le_of_ble_eq_true rfl) hcc dL_1245 (fun r2 v2 ar2 al2 H2 locs2 hp2 hPY2 hk2 hS2 => ?_)
    have hYI2 : YI v2 ar2 := hp2.2.1
    have hPX2 := w_keep hPX (fun i j hi hj e => hdis j i hj hi e.symm) hk2
    refine lv_pop hx hb dL_1248 rfl ?_
    refine lv_goto (tgt := 1954) hx hb dL_1249 (by decide) ?_
    exact kk ax mm N cells slots v ar al v2 ar2 al2 H2 locs2 ls ⟨hNX, hNY, hAX, hAY, hdis, hPX2, hPY2, hS2, hXI, hYI2, hmd, R_y hR (hp2.2.2.2.1 1 (by decide)) (hp2.2.2.2.1 2 (by decide)) (hp2.2.2.2.1 11 (by decide))⟩ hl
  refine lv_aload_n hx hb dL_1219 rfl (lv_at hl 2 rfl) ?_
  refine lv_aload_n hx hb dL_1220 rfl (lv_at hl 3 rfl) ?_
  refine lv_iload_n hx hb dL_1221 rfl (lv_at hl 0 rfl) ?_
  refine lv_iconst (v := iI (1)) hx hb dL_1222 (by decide) ?_
  refine lv_iadd hx hb dL_1223 ?_
  refine x_top (y := iI (i + 1)) (iI_add _ _) ?_
  refine va_sld (i := iI (i + 1)) hx hb hX hbl hbA hS (iI_in (n := L) (by omega)) dL_1224 ?_
  refine x_top ez1 ?_
  refine lv_aload_n hx hb dL_1225 rfl (lv_at hl 3 rfl) ?_
  refine lv_iload_n hx hb dL_1226 rfl (lv_at hl 0 rfl) ?_
  refine lv_iconst (v := iI (2)) hx hb dL_1227 (by decide) ?_
  refine lv_iadd hx hb dL_1228 ?_
  refine x_top (y := iI (i + 2)) (iI_add _ _) ?_
  refine va_sld (i := iI (i + 2)) hx hb hX hbl hbA hS (iI_in (n := L) (by omega)) dL_1229 ?_
  refine x_top ez2 ?_
  refine l_viG (nn := 2) (As := [.int (iI (z1)), .int (iI (z2))]) (rest := []) hE hS hAX (s_X8_keeps_0 l D K ax mm N hNN v ar al hXI   (z1) (by omega) (z2) (by omega)) wPre_blind (wPre_now hK hNX hPX) (x_recv hK hPX 0 (by omega) (xG_8 rfl) rfl) rfl mw_1118 mw_1119 mw_1120 mw_114 mw_1121 (by decide +kernel) ⟨Nat.le_of_ble_eq_true rfl, Nat.le_of_ble_eq_true rfl⟩ hl.1 rfl (Nat.le_of_ble_eq_true rfl) hcc dL_1230 (fun r1 v1 ar1 al1 H1 locs1 hp1 hPX1 hk1 hS1 => ?_)
  exact cont ax mm N cells slots v1 ar1 al1 H1 locs1 ls r1 hNX hAX hdis hPX1 (w_keep hPY hdis hk1) hS1 hp1.2.1 hmd (R_x hR (fun i j h => hp1.2.2 i j (fl_out (by decide) h))) hl
theorem dL_1252 : decode code 1252 = .ok (.aload_n 1, 1) := by decide +kernel
theorem dL_1253 : decode code 1253 = .ok (.aload_n 0, 1) := by decide +kernel
theorem dL_1254 : decode code 1254 = .ok (.iload_n 3, 1) := by decide +kernel
theorem dL_1255 : decode code 1255 = .ok (.iconst 1, 1) := by decide +kernel
theorem dL_1256 : decode code 1256 = .ok (.iadd, 1) := by decide +kernel
theorem dL_1257 : decode code 1257 = .ok (.iaload, 1) := by decide +kernel
theorem dL_1258 : decode code 1258 = .ok (.aload_n 0, 1) := by decide +kernel
theorem dL_1259 : decode code 1259 = .ok (.iload_n 3, 1) := by decide +kernel
theorem dL_1260 : decode code 1260 = .ok (.iconst 2, 1) := by decide +kernel
theorem dL_1261 : decode code 1261 = .ok (.iadd, 1) := by decide +kernel
theorem dL_1262 : decode code 1262 = .ok (.iaload, 1) := by decide +kernel
theorem dL_1263 : decode code 1263 = .ok (.invokevirtual 193, 3) := by decide +kernel
theorem dL_1266 : decode code 1266 = .ok (.pop, 1) := by decide +kernel
theorem dL_1267 : decode code 1267 = .ok (.aload_n 2, 1) := by decide +kernel
theorem dL_1268 : decode code 1268 = .ok (.aload_n 0, 1) := by decide +kernel
theorem dL_1269 : decode code 1269 = .ok (.iload_n 3, 1) := by decide +kernel
theorem dL_1270 : decode code 1270 = .ok (.iconst 1, 1) := by decide +kernel
theorem dL_1271 : decode code 1271 = .ok (.iadd, 1) := by decide +kernel
theorem dL_1272 : decode code 1272 = .ok (.iaload, 1) := by decide +kernel
theorem dL_1273 : decode code 1273 = .ok (.aload_n 0, 1) := by decide +kernel
theorem dL_1274 : decode code 1274 = .ok (.iload_n 3, 1) := by decide +kernel
theorem dL_1275 : decode code 1275 = .ok (.iconst 2, 1) := by decide +kernel
theorem dL_1276 : decode code 1276 = .ok (.iadd, 1) := by decide +kernel
theorem dL_1277 : decode code 1277 = .ok (.iaload, 1) := by decide +kernel
theorem dL_1278 : decode code 1278 = .ok (.invokevirtual 196, 3) := by decide +kernel
theorem dL_1281 : decode code 1281 = .ok (.pop, 1) := by decide +kernel
theorem dL_1282 : decode code 1282 = .ok (.goto 672, 3) := by decide +kernel
set_option maxHeartbeats 4000000 in
set_option maxRecDepth 100000 in
theorem lc_44 {p : Program} {l : Launch} {e : Env} {s : State} {m : MethodId} {below : List Frame} {meth : Method} {c : Code} {b L : Nat} {xs : Nat → Int32} {D : va_G} {K : Nat → ClassId} {ay ax : Nat → Nat} {mm : Option Nat} {N cells slots : Nat} {v ar : sI} {al : sL} {v' ar' : sI} {al' : sL} {H : Heap} {locs : List Loc} {ls : Array Slot} {tk tv : Nat → Nat} {i : Int} (hi : 0 ≤ i ∧ i + 6 ≤ (L : Int) ∧ L ≤ 3072) (F : lawF p s m meth c b L xs D K tk tv) (C : lawI s D K ay ax mm N cells slots v ar al v' ar' al' H locs) (hl : lv_has ls 4 [(3, .int (iI i)), (2, .ref (ay 0)), (1, .ref (ax 0)), (0, .ref b)]) (kk : lawK p l e s m below meth c b D K ay i) : W p l e room_1 s m #[Value.ref b] below meth c H locs cells slots (lw_Z below #[Value.ref b] s) (F0 m 1252 ls []) := by
  obtain ⟨C0, hE, hK, hT, hTR⟩ := F
  obtain ⟨hx, hb, hr, hml, hown, hts, hX, hbl, hlocks, hgv⟩ := id C0
  have hbA : ¬ lawA s b := Nat.not_le.mpr hbl
  obtain ⟨hNX, hNY, hAX, hAY, hdis, hPX, hPY, hS, hXI, hYI, hmd, hR⟩ := C
  have hcc := lawM_c hmd
  have hNN := lawM_N hmd
  obtain ⟨z1, hz1, ez1⟩ := iI_of (xs (iI (i + 1)).toNatClampNeg)
  obtain ⟨z2, hz2, ez2⟩ := iI_of (xs (iI (i + 2)).toNatClampNeg)
  have cont : ∀ (ax : Nat → Nat) (mm : Option Nat) (N cells slots : Nat) (v ar : sI) (al : sL) (H : Heap) (locs : List Loc) (ls : Array Slot) (r : Int32), apart ax N → (∀ i, i < N → lawA s (ax i)) → (∀ i j, i < N → j < 21 → ax i ≠ ay j) → va_P D xcl (wW ax (xG ax K mm) N v ar al) H → va_P D xcl (wW ay (yG ay K) 21 v' ar' al') H → va_S (lawA s) s.heap H locs → XI v → lawM ax mm N cells slots → lawR v ar al v' ar' al' → lv_has ls 4 [(3, .int (iI i)), (2, .ref (ay 0)), (1, .ref (ax 0)), (0, .ref b)] → W p l e room_1 s m #[Value.ref b] below meth c H locs cells slots (lw_Z below #[Value.ref b] s) (F0 m 1266 ls [.int r]) := by
    intro ax mm N cells slots v ar al H locs ls r hNX hAX hdis hPX hPY hS hXI hmd hR hl
    have hcc := lawM_c hmd
    refine lv_pop hx hb dL_1266 rfl ?_
    refine lv_aload_n hx hb dL_1267 rfl (lv_at hl 1 rfl) ?_
    refine lv_aload_n hx hb dL_1268 rfl (lv_at hl 3 rfl) ?_
    refine lv_iload_n hx hb dL_1269 rfl (lv_at hl 0 rfl) ?_
    refine lv_iconst (v := iI (1)) hx hb dL_1270 (by decide) ?_
    refine lv_iadd hx hb dL_1271 ?_
    refine x_top (y := iI (i + 1)) (iI_add _ _) ?_
    refine va_sld (i := iI (i + 1)) hx hb hX hbl hbA hS (iI_in (n := L) (by omega)) dL_1272 ?_
    refine x_top ez1 ?_
    refine lv_aload_n hx hb dL_1273 rfl (lv_at hl 3 rfl) ?_
    refine lv_iload_n hx hb dL_1274 rfl (lv_at hl 0 rfl) ?_
    refine lv_iconst (v := iI (2)) hx hb dL_1275 (by decide) ?_
    refine lv_iadd hx hb dL_1276 ?_
    refine x_top (y := iI (i + 2)) (iI_add _ _) ?_
    refine va_sld (i := iI (i + 2)) hx hb hX hbl hbA hS (iI_in (n := L) (by omega)) dL_1277 ?_
    refine x_top ez2 ?_
    refine l_viG (nn := 2) (As := [.int (iI (z1)), .int (iI (z2))]) (rest := []) hE hS hAY (s_X9_forbid l D K ay v' ar' al' hYI  (z1) (by omega) (z2) (by omega)) wPre_blind (wPre_now hK hNY hPY) (x_recv hK hPY 0 (by decide) (yG_9 rfl) rfl) rfl mw_1942 mw_1943 mw_1944 mw_123 mw_1945 (by decide +kernel) ⟨Nat.le_of_ble_eq_true rfl, Nat.le_of_ble_eq_true rfl⟩ hl.1 rfl (Nat.le_of_ble_eq_true rfl) hcc dL_1278 (fun r2 v2 ar2 al2 H2 locs2 hp2 hPY2 hk2 hS2 => ?_)
    have hYI2 : YI v2 ar2 := hp2.2.1
    have hPX2 := w_keep hPX (fun i j hi hj e => hdis j i hj hi e.symm) hk2
    refine lv_pop hx hb dL_1281 rfl ?_
    refine lv_goto (tgt := 1954) hx hb dL_1282 (by decide) ?_
    exact kk ax mm N cells slots v ar al v2 ar2 al2 H2 locs2 ls ⟨hNX, hNY, hAX, hAY, hdis, hPX2, hPY2, hS2, hXI, hYI2, hmd, R_y hR (hp2.2.2.2.1 1 (by decide)) (hp2.2.2.2.1 2 (by decide)) (hp2.2.2.2.1 11 (by decide))⟩ hl
  refine lv_aload_n hx hb dL_1252 rfl (lv_at hl 2 rfl) ?_
  refine lv_aload_n hx hb dL_1253 rfl (lv_at hl 3 rfl) ?_
  refine lv_iload_n hx hb dL_1254 rfl (lv_at hl 0 rfl) ?_
  refine lv_iconst (v := iI (1)) hx hb dL_1255 (by decide) ?_
  refine lv_iadd hx hb dL_1256 ?_
  refine x_top (y := iI (i + 1)) (iI_add _ _) ?_
  refine va_sld (i := iI (i + 1)) hx hb hX hbl hbA hS (iI_in (n := L) (by omega)) dL_1257 ?_
  refine x_top ez1 ?_
  refine lv_aload_n hx hb dL_1258 rfl (lv_at hl 3 rfl) ?_
  refine lv_iload_n hx hb dL_1259 rfl (lv_at hl 0 rfl) ?_
  refine lv_iconst (v := iI (2)) hx hb dL_1260 (by decide) ?_
  refine lv_iadd hx hb dL_1261 ?_
  refine x_top (y := iI (i + 2)) (iI_add _ _) ?_
  refine va_sld (i := iI (i + 2)) hx hb hX hbl hbA hS (iI_in (n := L) (by omega)) dL_1262 ?_
  refine x_top ez2 ?_
  refine l_viG (nn := 2) (As := [.int (iI (z1)), .int (iI (z2))]) (rest := []) hE hS hAX (s_X8_forbid_0 l D K ax mm N hNN v ar al hXI   (z1) (by omega) (z2) (by omega)) wPre_blind (wPre_now hK hNX hPX) (x_recv hK hPX 0 (by omega) (xG_8 rfl) rfl) rfl mw_1122 mw_1123 mw_1124 mw_114 mw_1125 (by decide +kernel) ⟨Nat.le_of_ble_eq_true rfl, Nat.le_of_ble_eq_true rfl⟩ hl.1 rfl (Nat.le_of_ble_eq_true rfl) hcc dL_1263 (fun r1 v1 ar1 al1 H1 locs1 hp1 hPX1 hk1 hS1 => ?_)
  exact cont ax mm N cells slots v1 ar1 al1 H1 locs1 ls r1 hNX hAX hdis hPX1 (w_keep hPY hdis hk1) hS1 hp1.2.1 hmd (R_x hR (fun i j h => hp1.2.2 i j (fl_out (by decide) h))) hl
