theorem dX9_four_0 : decode cX9_four 0 = .ok (.bipush 24, 2) := by decide +kernel
theorem dX9_four_2 : decode cX9_four 2 = .ok (.istore_n 2, 1) := by decide +kernel
theorem dX9_four_3 : decode cX9_four 3 = .ok (.iload_n 2, 1) := by decide +kernel
theorem dX9_four_4 : decode cX9_four 4 = .ok (.ifCond .lt 32, 3) := by decide +kernel
theorem dX9_four_7 : decode cX9_four 7 = .ok (.aload_n 0, 1) := by decide +kernel
theorem dX9_four_8 : decode cX9_four 8 = .ok (.getfield 23, 3) := by decide +kernel
theorem dX9_four_11 : decode cX9_four 11 = .ok (.aload_n 0, 1) := by decide +kernel
theorem dX9_four_12 : decode cX9_four 12 = .ok (.getfield 98, 3) := by decide +kernel
theorem dX9_four_15 : decode cX9_four 15 = .ok (.iload_n 1, 1) := by decide +kernel
theorem dX9_four_16 : decode cX9_four 16 = .ok (.iload_n 2, 1) := by decide +kernel
theorem dX9_four_17 : decode cX9_four 17 = .ok (.ishr, 1) := by decide +kernel
theorem dX9_four_18 : decode cX9_four 18 = .ok (.i2b, 1) := by decide +kernel
theorem dX9_four_19 : decode cX9_four 19 = .ok (.bastore, 1) := by decide +kernel
theorem dX9_four_20 : decode cX9_four 20 = .ok (.aload_n 0, 1) := by decide +kernel
theorem dX9_four_21 : decode cX9_four 21 = .ok (.dup, 1) := by decide +kernel
theorem dX9_four_22 : decode cX9_four 22 = .ok (.getfield 98, 3) := by decide +kernel
theorem dX9_four_25 : decode cX9_four 25 = .ok (.iconst 1, 1) := by decide +kernel
theorem dX9_four_26 : decode cX9_four 26 = .ok (.iadd, 1) := by decide +kernel
theorem dX9_four_27 : decode cX9_four 27 = .ok (.putfield 98, 3) := by decide +kernel
theorem dX9_four_30 : decode cX9_four 30 = .ok (.iinc 2 (-8), 3) := by decide +kernel
theorem dX9_four_33 : decode cX9_four 33 = .ok (.goto (-30), 3) := by decide +kernel
theorem dX9_four_36 : decode cX9_four 36 = .ok (.return_, 1) := by decide +kernel
set_option maxHeartbeats 4000000 in
set_option maxRecDepth 100000 in
theorem k_X9_four_0 (l : Launch) (D : va_G) (K : Nat → ClassId) (ad : Nat → Nat) (v ar : sI) (al : sL) (h_0_6 : v 0 6 = 0) (p1 : Int32) : Met l yX9_four (wM yX9_four cX9_four 3 none) (rmD 0) (va_Pc [.ref (ad 0), .int p1] (wPre D K ad (yG ad K) 21 v ar al)) (va_Qv (fun u : sT => (∀ i j : Nat, (i, j) ∉ ([(0, 6)] : List (Nat × Nat)) → u.1 i j = v i j) ∧ u.1 0 6 = 4) (wB D ad (yG ad K) 21) (inW ad 21)) 0 0 (inW ad 21) := by
  refine x_met (by decide) (Nat.le_of_ble_eq_true rfl) ?_
  intro p e s m below meth c ls hE hr hlo hnm hB hl
  have hE : CallFix p m c cX9_four 3 s _ tbG "TaleCourtModel" := hE
  obtain ⟨hP, hK, hN⟩ := hB
  have hS : va_S (inW ad 21) s.heap s.heap [] := va_S.rf
  have hl : lv_has ls 3 [(0, .ref (ad 0)), (1, .int p1)] := hl
  refine lv_bipush (v := 24) hE.1 hE.2.1 dX9_four_0 (by decide) ?_
  refine lv_istore_n (lv' := [(2, .int 24), (0, .ref (ad 0)), (1, .int p1)]) hE.1 hE.2.1 dX9_four_2 rfl hl (by decide) rfl (fun ls hl => ?_)
  refine lv_iload_n hE.1 hE.2.1 dX9_four_3 rfl (lv_at hl 0 rfl) ?_
  refine lv_if_lt (tgt := 36) hE.1 hE.2.1 dX9_four_4 (by decide) (fun h => absurd h (by decide)) (fun _ => ?_)
  refine lv_aload_n hE.1 hE.2.1 dX9_four_7 rfl (lv_at hl 1 rfl) ?_
  refine x_get (x := .ref (ad 5)) hE hK hP 0 (by decide) (yG_9 rfl) rfl hin9 5 (by decide) mw_1339 rfl dX9_four_8 ?_
  refine lv_aload_n hE.1 hE.2.1 dX9_four_11 rfl (lv_at hl 1 rfl) ?_
  refine x_get (x := .int (v 0 6)) hE hK hP 0 (by decide) (yG_9 rfl) rfl hin9 6 (by decide) mw_1340 rfl dX9_four_12 ?_
  refine x_top (y := 0) h_0_6 ?_
  refine lv_iload_n hE.1 hE.2.1 dX9_four_15 rfl (lv_at hl 2 rfl) ?_
  refine lv_iload_n hE.1 hE.2.1 dX9_four_16 rfl (lv_at hl 0 rfl) ?_
  refine lv_ishr hE.1 hE.2.1 dX9_four_17 ?_
  refine lv_i2b (v := ((p1 >>> (24 &&& 31)).toInt8.toInt32)) hE.1 hE.2.1 dX9_four_18 rfl ?_
  refine x_bast (j := 0) hE hK hN hP hS 5 (by decide) (fun _ => yG_12 rfl) (by unfold vp_in; decide) dX9_four_19 (fun ar_1 H locs har_1 hP hS => ?_)
  refine lv_aload_n hE.1 hE.2.1 dX9_four_20 rfl (lv_at hl 1 rfl) ?_
  refine lv_dup hE.1 hE.2.1 dX9_four_21 rfl ?_
  refine x_get (x := .int (v 0 6)) hE hK hP 0 (by decide) (yG_9 rfl) rfl hin9 6 (by decide) mw_1340 rfl dX9_four_22 ?_
  refine x_top (y := 0) h_0_6 ?_
  refine lv_iconst (v := 1) hE.1 hE.2.1 dX9_four_25 (by decide) ?_
  refine lv_iadd hE.1 hE.2.1 dX9_four_26 ?_
  refine x_top (y := 1) (by decide) ?_
  refine x_put hE hK hN hP hS 0 (by decide) (yG_9 rfl) rfl hin9 tyX9 tyX9_ok nmX9 6 (by decide) mw_1340 rfl rfl rfl (Nat.le_of_ble_eq_true rfl) (yG_9 rfl) dX9_four_27 (fun v_2 H locs hv_2 hP hS => ?_)
  refine lv_iinc (v := 16) (lv' := [(2, .int 16), (0, .ref (ad 0)), (1, .int p1)]) hE.1 hE.2.1 dX9_four_30 hl (k := 0) rfl (by decide) (by decide) rfl (fun ls hl => ?_)
  refine lv_goto (tgt := 3) hE.1 hE.2.1 dX9_four_33 (by decide) ?_
  refine lv_iload_n hE.1 hE.2.1 dX9_four_3 rfl (lv_at hl 0 rfl) ?_
  refine lv_if_lt (tgt := 36) hE.1 hE.2.1 dX9_four_4 (by decide) (fun h => absurd h (by decide)) (fun _ => ?_)
  refine lv_aload_n hE.1 hE.2.1 dX9_four_7 rfl (lv_at hl 1 rfl) ?_
  refine x_get (x := .ref (ad 5)) hE hK hP 0 (by decide) (yG_9 rfl) rfl hin9 5 (by decide) mw_1339 rfl dX9_four_8 ?_
  refine lv_aload_n hE.1 hE.2.1 dX9_four_11 rfl (lv_at hl 1 rfl) ?_
  refine x_get (x := .int (v_2 0 6)) hE hK hP 0 (by decide) (yG_9 rfl) rfl hin9 6 (by decide) mw_1340 rfl dX9_four_12 ?_
  refine x_top (y := 1) (up_eq hv_2) ?_
  refine lv_iload_n hE.1 hE.2.1 dX9_four_15 rfl (lv_at hl 2 rfl) ?_
  refine lv_iload_n hE.1 hE.2.1 dX9_four_16 rfl (lv_at hl 0 rfl) ?_
  refine lv_ishr hE.1 hE.2.1 dX9_four_17 ?_
  refine lv_i2b (v := ((p1 >>> (16 &&& 31)).toInt8.toInt32)) hE.1 hE.2.1 dX9_four_18 rfl ?_
  refine x_bast (j := 1) hE hK hN hP hS 5 (by decide) (fun _ => yG_12 rfl) (by unfold vp_in; decide) dX9_four_19 (fun ar_3 H locs har_3 hP hS => ?_)
  refine lv_aload_n hE.1 hE.2.1 dX9_four_20 rfl (lv_at hl 1 rfl) ?_
  refine lv_dup hE.1 hE.2.1 dX9_four_21 rfl ?_
  refine x_get (x := .int (v_2 0 6)) hE hK hP 0 (by decide) (yG_9 rfl) rfl hin9 6 (by decide) mw_1340 rfl dX9_four_22 ?_
  refine x_top (y := 1) (up_eq hv_2) ?_
  refine lv_iconst (v := 1) hE.1 hE.2.1 dX9_four_25 (by decide) ?_
  refine lv_iadd hE.1 hE.2.1 dX9_four_26 ?_
  refine x_top (y := 2) (by decide) ?_
  refine x_put hE hK hN hP hS 0 (by decide) (yG_9 rfl) rfl hin9 tyX9 tyX9_ok nmX9 6 (by decide) mw_1340 rfl rfl rfl (Nat.le_of_ble_eq_true rfl) (yG_9 rfl) dX9_four_27 (fun v_4 H locs hv_4 hP hS => ?_)
  refine lv_iinc (v := 8) (lv' := [(2, .int 8), (0, .ref (ad 0)), (1, .int p1)]) hE.1 hE.2.1 dX9_four_30 hl (k := 0) rfl (by decide) (by decide) rfl (fun ls hl => ?_)
  refine lv_goto (tgt := 3) hE.1 hE.2.1 dX9_four_33 (by decide) ?_
  refine lv_iload_n hE.1 hE.2.1 dX9_four_3 rfl (lv_at hl 0 rfl) ?_
  refine lv_if_lt (tgt := 36) hE.1 hE.2.1 dX9_four_4 (by decide) (fun h => absurd h (by decide)) (fun _ => ?_)
  refine lv_aload_n hE.1 hE.2.1 dX9_four_7 rfl (lv_at hl 1 rfl) ?_
  refine x_get (x := .ref (ad 5)) hE hK hP 0 (by decide) (yG_9 rfl) rfl hin9 5 (by decide) mw_1339 rfl dX9_four_8 ?_
  refine lv_aload_n hE.1 hE.2.1 dX9_four_11 rfl (lv_at hl 1 rfl) ?_
  refine x_get (x := .int (v_4 0 6)) hE hK hP 0 (by decide) (yG_9 rfl) rfl hin9 6 (by decide) mw_1340 rfl dX9_four_12 ?_
  refine x_top (y := 2) (up_eq hv_4) ?_
  refine lv_iload_n hE.1 hE.2.1 dX9_four_15 rfl (lv_at hl 2 rfl) ?_
  refine lv_iload_n hE.1 hE.2.1 dX9_four_16 rfl (lv_at hl 0 rfl) ?_
  refine lv_ishr hE.1 hE.2.1 dX9_four_17 ?_
  refine lv_i2b (v := ((p1 >>> (8 &&& 31)).toInt8.toInt32)) hE.1 hE.2.1 dX9_four_18 rfl ?_
  refine x_bast (j := 2) hE hK hN hP hS 5 (by decide) (fun _ => yG_12 rfl) (by unfold vp_in; decide) dX9_four_19 (fun ar_5 H locs har_5 hP hS => ?_)
  refine lv_aload_n hE.1 hE.2.1 dX9_four_20 rfl (lv_at hl 1 rfl) ?_
  refine lv_dup hE.1 hE.2.1 dX9_four_21 rfl ?_
  refine x_get (x := .int (v_4 0 6)) hE hK hP 0 (by decide) (yG_9 rfl) rfl hin9 6 (by decide) mw_1340 rfl dX9_four_22 ?_
  refine x_top (y := 2) (up_eq hv_4) ?_
  refine lv_iconst (v := 1) hE.1 hE.2.1 dX9_four_25 (by decide) ?_
  refine lv_iadd hE.1 hE.2.1 dX9_four_26 ?_
  refine x_top (y := 3) (by decide) ?_
  refine x_put hE hK hN hP hS 0 (by decide) (yG_9 rfl) rfl hin9 tyX9 tyX9_ok nmX9 6 (by decide) mw_1340 rfl rfl rfl (Nat.le_of_ble_eq_true rfl) (yG_9 rfl) dX9_four_27 (fun v_6 H locs hv_6 hP hS => ?_)
  refine lv_iinc (v := 0) (lv' := [(2, .int 0), (0, .ref (ad 0)), (1, .int p1)]) hE.1 hE.2.1 dX9_four_30 hl (k := 0) rfl (by decide) (by decide) rfl (fun ls hl => ?_)
  refine lv_goto (tgt := 3) hE.1 hE.2.1 dX9_four_33 (by decide) ?_
  refine lv_iload_n hE.1 hE.2.1 dX9_four_3 rfl (lv_at hl 0 rfl) ?_
  refine lv_if_lt (tgt := 36) hE.1 hE.2.1 dX9_four_4 (by decide) (fun h => absurd h (by decide)) (fun _ => ?_)
  refine lv_aload_n hE.1 hE.2.1 dX9_four_7 rfl (lv_at hl 1 rfl) ?_
  refine x_get (x := .ref (ad 5)) hE hK hP 0 (by decide) (yG_9 rfl) rfl hin9 5 (by decide) mw_1339 rfl dX9_four_8 ?_
  refine lv_aload_n hE.1 hE.2.1 dX9_four_11 rfl (lv_at hl 1 rfl) ?_
  refine x_get (x := .int (v_6 0 6)) hE hK hP 0 (by decide) (yG_9 rfl) rfl hin9 6 (by decide) mw_1340 rfl dX9_four_12 ?_
  refine x_top (y := 3) (up_eq hv_6) ?_
  refine lv_iload_n hE.1 hE.2.1 dX9_four_15 rfl (lv_at hl 2 rfl) ?_
  refine lv_iload_n hE.1 hE.2.1 dX9_four_16 rfl (lv_at hl 0 rfl) ?_
  refine lv_ishr hE.1 hE.2.1 dX9_four_17 ?_
  refine lv_i2b (v := ((p1 >>> (0 &&& 31)).toInt8.toInt32)) hE.1 hE.2.1 dX9_four_18 rfl ?_
  refine x_bast (j := 3) hE hK hN hP hS 5 (by decide) (fun _ => yG_12 rfl) (by unfold vp_in; decide) dX9_four_19 (fun ar_7 H locs har_7 hP hS => ?_)
  refine lv_aload_n hE.1 hE.2.1 dX9_four_20 rfl (lv_at hl 1 rfl) ?_
  refine lv_dup hE.1 hE.2.1 dX9_four_21 rfl ?_
  refine x_get (x := .int (v_6 0 6)) hE hK hP 0 (by decide) (yG_9 rfl) rfl hin9 6 (by decide) mw_1340 rfl dX9_four_22 ?_
  refine x_top (y := 3) (up_eq hv_6) ?_
  refine lv_iconst (v := 1) hE.1 hE.2.1 dX9_four_25 (by decide) ?_
  refine lv_iadd hE.1 hE.2.1 dX9_four_26 ?_
  refine x_top (y := 4) (by decide) ?_
  refine x_put hE hK hN hP hS 0 (by decide) (yG_9 rfl) rfl hin9 tyX9 tyX9_ok nmX9 6 (by decide) mw_1340 rfl rfl rfl (Nat.le_of_ble_eq_true rfl) (yG_9 rfl) dX9_four_27 (fun v_8 H locs hv_8 hP hS => ?_)
  refine lv_iinc (v := (-8)) (lv' := [(2, .int (-8)), (0, .ref (ad 0)), (1, .int p1)]) hE.1 hE.2.1 dX9_four_30 hl (k := 0) rfl (by decide) (by decide) rfl (fun ls hl => ?_)
  refine lv_goto (tgt := 3) hE.1 hE.2.1 dX9_four_33 (by decide) ?_
  refine lv_iload_n hE.1 hE.2.1 dX9_four_3 rfl (lv_at hl 0 rfl) ?_
  refine lv_if_lt (tgt := 36) hE.1 hE.2.1 dX9_four_4 (by decide) (fun _ => ?_) (fun h => absurd (by decide) h)
  exact x_wv hE hr hlo hP hS ⟨fun i j h => ((up_oth hv_8 (fun q => h (by rcases q with ⟨rfl, rfl⟩; decide))).trans ((up_oth hv_6 (fun q => h (by rcases q with ⟨rfl, rfl⟩; decide))).trans ((up_oth hv_4 (fun q => h (by rcases q with ⟨rfl, rfl⟩; decide))).trans (up_oth hv_2 (fun q => h (by rcases q with ⟨rfl, rfl⟩; decide)))))), (up_eq hv_8)⟩ dX9_four_36

set_option maxHeartbeats 4000000 in
set_option maxRecDepth 100000 in
theorem k_X9_four_4 (l : Launch) (D : va_G) (K : Nat → ClassId) (ad : Nat → Nat) (v ar : sI) (al : sL) (h_0_6 : v 0 6 = 4) (p1 : Int32) : Met l yX9_four (wM yX9_four cX9_four 3 none) (rmD 0) (va_Pc [.ref (ad 0), .int p1] (wPre D K ad (yG ad K) 21 v ar al)) (va_Qv (fun u : sT => (∀ i j : Nat, (i, j) ∉ ([(0, 6)] : List (Nat × Nat)) → u.1 i j = v i j) ∧ u.1 0 6 = 8) (wB D ad (yG ad K) 21) (inW ad 21)) 0 0 (inW ad 21) := by
  refine x_met (by decide) (Nat.le_of_ble_eq_true rfl) ?_
  intro p e s m below meth c ls hE hr hlo hnm hB hl
  have hE : CallFix p m c cX9_four 3 s _ tbG "TaleCourtModel" := hE
  obtain ⟨hP, hK, hN⟩ := hB
  have hS : va_S (inW ad 21) s.heap s.heap [] := va_S.rf
  have hl : lv_has ls 3 [(0, .ref (ad 0)), (1, .int p1)] := hl
  refine lv_bipush (v := 24) hE.1 hE.2.1 dX9_four_0 (by decide) ?_
  refine lv_istore_n (lv' := [(2, .int 24), (0, .ref (ad 0)), (1, .int p1)]) hE.1 hE.2.1 dX9_four_2 rfl hl (by decide) rfl (fun ls hl => ?_)
  refine lv_iload_n hE.1 hE.2.1 dX9_four_3 rfl (lv_at hl 0 rfl) ?_
  refine lv_if_lt (tgt := 36) hE.1 hE.2.1 dX9_four_4 (by decide) (fun h => absurd h (by decide)) (fun _ => ?_)
  refine lv_aload_n hE.1 hE.2.1 dX9_four_7 rfl (lv_at hl 1 rfl) ?_
  refine x_get (x := .ref (ad 5)) hE hK hP 0 (by decide) (yG_9 rfl) rfl hin9 5 (by decide) mw_1339 rfl dX9_four_8 ?_
  refine lv_aload_n hE.1 hE.2.1 dX9_four_11 rfl (lv_at hl 1 rfl) ?_
  refine x_get (x := .int (v 0 6)) hE hK hP 0 (by decide) (yG_9 rfl) rfl hin9 6 (by decide) mw_1340 rfl dX9_four_12 ?_
  refine x_top (y := 4) h_0_6 ?_
  refine lv_iload_n hE.1 hE.2.1 dX9_four_15 rfl (lv_at hl 2 rfl) ?_
  refine lv_iload_n hE.1 hE.2.1 dX9_four_16 rfl (lv_at hl 0 rfl) ?_
  refine lv_ishr hE.1 hE.2.1 dX9_four_17 ?_
  refine lv_i2b (v := ((p1 >>> (24 &&& 31)).toInt8.toInt32)) hE.1 hE.2.1 dX9_four_18 rfl ?_
  refine x_bast (j := 4) hE hK hN hP hS 5 (by decide) (fun _ => yG_12 rfl) (by unfold vp_in; decide) dX9_four_19 (fun ar_1 H locs har_1 hP hS => ?_)
  refine lv_aload_n hE.1 hE.2.1 dX9_four_20 rfl (lv_at hl 1 rfl) ?_
  refine lv_dup hE.1 hE.2.1 dX9_four_21 rfl ?_
  refine x_get (x := .int (v 0 6)) hE hK hP 0 (by decide) (yG_9 rfl) rfl hin9 6 (by decide) mw_1340 rfl dX9_four_22 ?_
  refine x_top (y := 4) h_0_6 ?_
  refine lv_iconst (v := 1) hE.1 hE.2.1 dX9_four_25 (by decide) ?_
  refine lv_iadd hE.1 hE.2.1 dX9_four_26 ?_
  refine x_top (y := 5) (by decide) ?_
  refine x_put hE hK hN hP hS 0 (by decide) (yG_9 rfl) rfl hin9 tyX9 tyX9_ok nmX9 6 (by decide) mw_1340 rfl rfl rfl (Nat.le_of_ble_eq_true rfl) (yG_9 rfl) dX9_four_27 (fun v_2 H locs hv_2 hP hS => ?_)
  refine lv_iinc (v := 16) (lv' := [(2, .int 16), (0, .ref (ad 0)), (1, .int p1)]) hE.1 hE.2.1 dX9_four_30 hl (k := 0) rfl (by decide) (by decide) rfl (fun ls hl => ?_)
  refine lv_goto (tgt := 3) hE.1 hE.2.1 dX9_four_33 (by decide) ?_
  refine lv_iload_n hE.1 hE.2.1 dX9_four_3 rfl (lv_at hl 0 rfl) ?_
  refine lv_if_lt (tgt := 36) hE.1 hE.2.1 dX9_four_4 (by decide) (fun h => absurd h (by decide)) (fun _ => ?_)
  refine lv_aload_n hE.1 hE.2.1 dX9_four_7 rfl (lv_at hl 1 rfl) ?_
  refine x_get (x := .ref (ad 5)) hE hK hP 0 (by decide) (yG_9 rfl) rfl hin9 5 (by decide) mw_1339 rfl dX9_four_8 ?_
  refine lv_aload_n hE.1 hE.2.1 dX9_four_11 rfl (lv_at hl 1 rfl) ?_
  refine x_get (x := .int (v_2 0 6)) hE hK hP 0 (by decide) (yG_9 rfl) rfl hin9 6 (by decide) mw_1340 rfl dX9_four_12 ?_
  refine x_top (y := 5) (up_eq hv_2) ?_
  refine lv_iload_n hE.1 hE.2.1 dX9_four_15 rfl (lv_at hl 2 rfl) ?_
  refine lv_iload_n hE.1 hE.2.1 dX9_four_16 rfl (lv_at hl 0 rfl) ?_
  refine lv_ishr hE.1 hE.2.1 dX9_four_17 ?_
  refine lv_i2b (v := ((p1 >>> (16 &&& 31)).toInt8.toInt32)) hE.1 hE.2.1 dX9_four_18 rfl ?_
  refine x_bast (j := 5) hE hK hN hP hS 5 (by decide) (fun _ => yG_12 rfl) (by unfold vp_in; decide) dX9_four_19 (fun ar_3 H locs har_3 hP hS => ?_)
  refine lv_aload_n hE.1 hE.2.1 dX9_four_20 rfl (lv_at hl 1 rfl) ?_
  refine lv_dup hE.1 hE.2.1 dX9_four_21 rfl ?_
  refine x_get (x := .int (v_2 0 6)) hE hK hP 0 (by decide) (yG_9 rfl) rfl hin9 6 (by decide) mw_1340 rfl dX9_four_22 ?_
  refine x_top (y := 5) (up_eq hv_2) ?_
  refine lv_iconst (v := 1) hE.1 hE.2.1 dX9_four_25 (by decide) ?_
  refine lv_iadd hE.1 hE.2.1 dX9_four_26 ?_
  refine x_top (y := 6) (by decide) ?_
  refine x_put hE hK hN hP hS 0 (by decide) (yG_9 rfl) rfl hin9 tyX9 tyX9_ok nmX9 6 (by decide) mw_1340 rfl rfl rfl (Nat.le_of_ble_eq_true rfl) (yG_9 rfl) dX9_four_27 (fun v_4 H locs hv_4 hP hS => ?_)
  refine lv_iinc (v := 8) (lv' := [(2, .int 8), (0, .ref (ad 0)), (1, .int p1)]) hE.1 hE.2.1 dX9_four_30 hl (k := 0) rfl (by decide) (by decide) rfl (fun ls hl => ?_)
  refine lv_goto (tgt := 3) hE.1 hE.2.1 dX9_four_33 (by decide) ?_
  refine lv_iload_n hE.1 hE.2.1 dX9_four_3 rfl (lv_at hl 0 rfl) ?_
  refine lv_if_lt (tgt := 36) hE.1 hE.2.1 dX9_four_4 (by decide) (fun h => absurd h (by decide)) (fun _ => ?_)
  refine lv_aload_n hE.1 hE.2.1 dX9_four_7 rfl (lv_at hl 1 rfl) ?_
  refine x_get (x := .ref (ad 5)) hE hK hP 0 (by decide) (yG_9 rfl) rfl hin9 5 (by decide) mw_1339 rfl dX9_four_8 ?_
  refine lv_aload_n hE.1 hE.2.1 dX9_four_11 rfl (lv_at hl 1 rfl) ?_
  refine x_get (x := .int (v_4 0 6)) hE hK hP 0 (by decide) (yG_9 rfl) rfl hin9 6 (by decide) mw_1340 rfl dX9_four_12 ?_
  refine x_top (y := 6) (up_eq hv_4) ?_
  refine lv_iload_n hE.1 hE.2.1 dX9_four_15 rfl (lv_at hl 2 rfl) ?_
  refine lv_iload_n hE.1 hE.2.1 dX9_four_16 rfl (lv_at hl 0 rfl) ?_
  refine lv_ishr hE.1 hE.2.1 dX9_four_17 ?_
  refine lv_i2b (v := ((p1 >>> (8 &&& 31)).toInt8.toInt32)) hE.1 hE.2.1 dX9_four_18 rfl ?_
  refine x_bast (j := 6) hE hK hN hP hS 5 (by decide) (fun _ => yG_12 rfl) (by unfold vp_in; decide) dX9_four_19 (fun ar_5 H locs har_5 hP hS => ?_)
  refine lv_aload_n hE.1 hE.2.1 dX9_four_20 rfl (lv_at hl 1 rfl) ?_
  refine lv_dup hE.1 hE.2.1 dX9_four_21 rfl ?_
  refine x_get (x := .int (v_4 0 6)) hE hK hP 0 (by decide) (yG_9 rfl) rfl hin9 6 (by decide) mw_1340 rfl dX9_four_22 ?_
  refine x_top (y := 6) (up_eq hv_4) ?_
  refine lv_iconst (v := 1) hE.1 hE.2.1 dX9_four_25 (by decide) ?_
  refine lv_iadd hE.1 hE.2.1 dX9_four_26 ?_
  refine x_top (y := 7) (by decide) ?_
  refine x_put hE hK hN hP hS 0 (by decide) (yG_9 rfl) rfl hin9 tyX9 tyX9_ok nmX9 6 (by decide) mw_1340 rfl rfl rfl (Nat.le_of_ble_eq_true rfl) (yG_9 rfl) dX9_four_27 (fun v_6 H locs hv_6 hP hS => ?_)
  refine lv_iinc (v := 0) (lv' := [(2, .int 0), (0, .ref (ad 0)), (1, .int p1)]) hE.1 hE.2.1 dX9_four_30 hl (k := 0) rfl (by decide) (by decide) rfl (fun ls hl => ?_)
  refine lv_goto (tgt := 3) hE.1 hE.2.1 dX9_four_33 (by decide) ?_
  refine lv_iload_n hE.1 hE.2.1 dX9_four_3 rfl (lv_at hl 0 rfl) ?_
  refine lv_if_lt (tgt := 36) hE.1 hE.2.1 dX9_four_4 (by decide) (fun h => absurd h (by decide)) (fun _ => ?_)
  refine lv_aload_n hE.1 hE.2.1 dX9_four_7 rfl (lv_at hl 1 rfl) ?_
  refine x_get (x := .ref (ad 5)) hE hK hP 0 (by decide) (yG_9 rfl) rfl hin9 5 (by decide) mw_1339 rfl dX9_four_8 ?_
  refine lv_aload_n hE.1 hE.2.1 dX9_four_11 rfl (lv_at hl 1 rfl) ?_
  refine x_get (x := .int (v_6 0 6)) hE hK hP 0 (by decide) (yG_9 rfl) rfl hin9 6 (by decide) mw_1340 rfl dX9_four_12 ?_
  refine x_top (y := 7) (up_eq hv_6) ?_
  refine lv_iload_n hE.1 hE.2.1 dX9_four_15 rfl (lv_at hl 2 rfl) ?_
  refine lv_iload_n hE.1 hE.2.1 dX9_four_16 rfl (lv_at hl 0 rfl) ?_
  refine lv_ishr hE.1 hE.2.1 dX9_four_17 ?_
  refine lv_i2b (v := ((p1 >>> (0 &&& 31)).toInt8.toInt32)) hE.1 hE.2.1 dX9_four_18 rfl ?_
  refine x_bast (j := 7) hE hK hN hP hS 5 (by decide) (fun _ => yG_12 rfl) (by unfold vp_in; decide) dX9_four_19 (fun ar_7 H locs har_7 hP hS => ?_)
  refine lv_aload_n hE.1 hE.2.1 dX9_four_20 rfl (lv_at hl 1 rfl) ?_
  refine lv_dup hE.1 hE.2.1 dX9_four_21 rfl ?_
  refine x_get (x := .int (v_6 0 6)) hE hK hP 0 (by decide) (yG_9 rfl) rfl hin9 6 (by decide) mw_1340 rfl dX9_four_22 ?_
  refine x_top (y := 7) (up_eq hv_6) ?_
  refine lv_iconst (v := 1) hE.1 hE.2.1 dX9_four_25 (by decide) ?_
  refine lv_iadd hE.1 hE.2.1 dX9_four_26 ?_
  refine x_top (y := 8) (by decide) ?_
  refine x_put hE hK hN hP hS 0 (by decide) (yG_9 rfl) rfl hin9 tyX9 tyX9_ok nmX9 6 (by decide) mw_1340 rfl rfl rfl (Nat.le_of_ble_eq_true rfl) (yG_9 rfl) dX9_four_27 (fun v_8 H locs hv_8 hP hS => ?_)
  refine lv_iinc (v := (-8)) (lv' := [(2, .int (-8)), (0, .ref (ad 0)), (1, .int p1)]) hE.1 hE.2.1 dX9_four_30 hl (k := 0) rfl (by decide) (by decide) rfl (fun ls hl => ?_)
  refine lv_goto (tgt := 3) hE.1 hE.2.1 dX9_four_33 (by decide) ?_
  refine lv_iload_n hE.1 hE.2.1 dX9_four_3 rfl (lv_at hl 0 rfl) ?_
  refine lv_if_lt (tgt := 36) hE.1 hE.2.1 dX9_four_4 (by decide) (fun _ => ?_) (fun h => absurd (by decide) h)
  exact x_wv hE hr hlo hP hS ⟨fun i j h => ((up_oth hv_8 (fun q => h (by rcases q with ⟨rfl, rfl⟩; decide))).trans ((up_oth hv_6 (fun q => h (by rcases q with ⟨rfl, rfl⟩; decide))).trans ((up_oth hv_4 (fun q => h (by rcases q with ⟨rfl, rfl⟩; decide))).trans (up_oth hv_2 (fun q => h (by rcases q with ⟨rfl, rfl⟩; decide)))))), (up_eq hv_8)⟩ dX9_four_36

set_option maxHeartbeats 4000000 in
set_option maxRecDepth 100000 in
theorem k_X9_four_8 (l : Launch) (D : va_G) (K : Nat → ClassId) (ad : Nat → Nat) (v ar : sI) (al : sL) (h_0_6 : v 0 6 = 8) (p1 : Int32) : Met l yX9_four (wM yX9_four cX9_four 3 none) (rmD 0) (va_Pc [.ref (ad 0), .int p1] (wPre D K ad (yG ad K) 21 v ar al)) (va_Qv (fun u : sT => (∀ i j : Nat, (i, j) ∉ ([(0, 6)] : List (Nat × Nat)) → u.1 i j = v i j) ∧ u.1 0 6 = 12) (wB D ad (yG ad K) 21) (inW ad 21)) 0 0 (inW ad 21) := by
  refine x_met (by decide) (Nat.le_of_ble_eq_true rfl) ?_
  intro p e s m below meth c ls hE hr hlo hnm hB hl
  have hE : CallFix p m c cX9_four 3 s _ tbG "TaleCourtModel" := hE
  obtain ⟨hP, hK, hN⟩ := hB
  have hS : va_S (inW ad 21) s.heap s.heap [] := va_S.rf
  have hl : lv_has ls 3 [(0, .ref (ad 0)), (1, .int p1)] := hl
  refine lv_bipush (v := 24) hE.1 hE.2.1 dX9_four_0 (by decide) ?_
  refine lv_istore_n (lv' := [(2, .int 24), (0, .ref (ad 0)), (1, .int p1)]) hE.1 hE.2.1 dX9_four_2 rfl hl (by decide) rfl (fun ls hl => ?_)
  refine lv_iload_n hE.1 hE.2.1 dX9_four_3 rfl (lv_at hl 0 rfl) ?_
  refine lv_if_lt (tgt := 36) hE.1 hE.2.1 dX9_four_4 (by decide) (fun h => absurd h (by decide)) (fun _ => ?_)
  refine lv_aload_n hE.1 hE.2.1 dX9_four_7 rfl (lv_at hl 1 rfl) ?_
  refine x_get (x := .ref (ad 5)) hE hK hP 0 (by decide) (yG_9 rfl) rfl hin9 5 (by decide) mw_1339 rfl dX9_four_8 ?_
  refine lv_aload_n hE.1 hE.2.1 dX9_four_11 rfl (lv_at hl 1 rfl) ?_
  refine x_get (x := .int (v 0 6)) hE hK hP 0 (by decide) (yG_9 rfl) rfl hin9 6 (by decide) mw_1340 rfl dX9_four_12 ?_
  refine x_top (y := 8) h_0_6 ?_
  refine lv_iload_n hE.1 hE.2.1 dX9_four_15 rfl (lv_at hl 2 rfl) ?_
  refine lv_iload_n hE.1 hE.2.1 dX9_four_16 rfl (lv_at hl 0 rfl) ?_
  refine lv_ishr hE.1 hE.2.1 dX9_four_17 ?_
  refine lv_i2b (v := ((p1 >>> (24 &&& 31)).toInt8.toInt32)) hE.1 hE.2.1 dX9_four_18 rfl ?_
  refine x_bast (j := 8) hE hK hN hP hS 5 (by decide) (fun _ => yG_12 rfl) (by unfold vp_in; decide) dX9_four_19 (fun ar_1 H locs har_1 hP hS => ?_)
  refine lv_aload_n hE.1 hE.2.1 dX9_four_20 rfl (lv_at hl 1 rfl) ?_
  refine lv_dup hE.1 hE.2.1 dX9_four_21 rfl ?_
  refine x_get (x := .int (v 0 6)) hE hK hP 0 (by decide) (yG_9 rfl) rfl hin9 6 (by decide) mw_1340 rfl dX9_four_22 ?_
  refine x_top (y := 8) h_0_6 ?_
  refine lv_iconst (v := 1) hE.1 hE.2.1 dX9_four_25 (by decide) ?_
  refine lv_iadd hE.1 hE.2.1 dX9_four_26 ?_
  refine x_top (y := 9) (by decide) ?_
  refine x_put hE hK hN hP hS 0 (by decide) (yG_9 rfl) rfl hin9 tyX9 tyX9_ok nmX9 6 (by decide) mw_1340 rfl rfl rfl (Nat.le_of_ble_eq_true rfl) (yG_9 rfl) dX9_four_27 (fun v_2 H locs hv_2 hP hS => ?_)
  refine lv_iinc (v := 16) (lv' := [(2, .int 16), (0, .ref (ad 0)), (1, .int p1)]) hE.1 hE.2.1 dX9_four_30 hl (k := 0) rfl (by decide) (by decide) rfl (fun ls hl => ?_)
  refine lv_goto (tgt := 3) hE.1 hE.2.1 dX9_four_33 (by decide) ?_
  refine lv_iload_n hE.1 hE.2.1 dX9_four_3 rfl (lv_at hl 0 rfl) ?_
  refine lv_if_lt (tgt := 36) hE.1 hE.2.1 dX9_four_4 (by decide) (fun h => absurd h (by decide)) (fun _ => ?_)
  refine lv_aload_n hE.1 hE.2.1 dX9_four_7 rfl (lv_at hl 1 rfl) ?_
  refine x_get (x := .ref (ad 5)) hE hK hP 0 (by decide) (yG_9 rfl) rfl hin9 5 (by decide) mw_1339 rfl dX9_four_8 ?_
  refine lv_aload_n hE.1 hE.2.1 dX9_four_11 rfl (lv_at hl 1 rfl) ?_
  refine x_get (x := .int (v_2 0 6)) hE hK hP 0 (by decide) (yG_9 rfl) rfl hin9 6 (by decide) mw_1340 rfl dX9_four_12 ?_
  refine x_top (y := 9) (up_eq hv_2) ?_
  refine lv_iload_n hE.1 hE.2.1 dX9_four_15 rfl (lv_at hl 2 rfl) ?_
  refine lv_iload_n hE.1 hE.2.1 dX9_four_16 rfl (lv_at hl 0 rfl) ?_
  refine lv_ishr hE.1 hE.2.1 dX9_four_17 ?_
  refine lv_i2b (v := ((p1 >>> (16 &&& 31)).toInt8.toInt32)) hE.1 hE.2.1 dX9_four_18 rfl ?_
  refine x_bast (j := 9) hE hK hN hP hS 5 (by decide) (fun _ => yG_12 rfl) (by unfold vp_in; decide) dX9_four_19 (fun ar_3 H locs har_3 hP hS => ?_)
  refine lv_aload_n hE.1 hE.2.1 dX9_four_20 rfl (lv_at hl 1 rfl) ?_
  refine lv_dup hE.1 hE.2.1 dX9_four_21 rfl ?_
  refine x_get (x := .int (v_2 0 6)) hE hK hP 0 (by decide) (yG_9 rfl) rfl hin9 6 (by decide) mw_1340 rfl dX9_four_22 ?_
  refine x_top (y := 9) (up_eq hv_2) ?_
  refine lv_iconst (v := 1) hE.1 hE.2.1 dX9_four_25 (by decide) ?_
  refine lv_iadd hE.1 hE.2.1 dX9_four_26 ?_
  refine x_top (y := 10) (by decide) ?_
  refine x_put hE hK hN hP hS 0 (by decide) (yG_9 rfl) rfl hin9 tyX9 tyX9_ok nmX9 6 (by decide) mw_1340 rfl rfl rfl (Nat.le_of_ble_eq_true rfl) (yG_9 rfl) dX9_four_27 (fun v_4 H locs hv_4 hP hS => ?_)
  refine lv_iinc (v := 8) (lv' := [(2, .int 8), (0, .ref (ad 0)), (1, .int p1)]) hE.1 hE.2.1 dX9_four_30 hl (k := 0) rfl (by decide) (by decide) rfl (fun ls hl => ?_)
  refine lv_goto (tgt := 3) hE.1 hE.2.1 dX9_four_33 (by decide) ?_
  refine lv_iload_n hE.1 hE.2.1 dX9_four_3 rfl (lv_at hl 0 rfl) ?_
  refine lv_if_lt (tgt := 36) hE.1 hE.2.1 dX9_four_4 (by decide) (fun h => absurd h (by decide)) (fun _ => ?_)
  refine lv_aload_n hE.1 hE.2.1 dX9_four_7 rfl (lv_at hl 1 rfl) ?_
  refine x_get (x := .ref (ad 5)) hE hK hP 0 (by decide) (yG_9 rfl) rfl hin9 5 (by decide) mw_1339 rfl dX9_four_8 ?_
  refine lv_aload_n hE.1 hE.2.1 dX9_four_11 rfl (lv_at hl 1 rfl) ?_
  refine x_get (x := .int (v_4 0 6)) hE hK hP 0 (by decide) (yG_9 rfl) rfl hin9 6 (by decide) mw_1340 rfl dX9_four_12 ?_
  refine x_top (y := 10) (up_eq hv_4) ?_
  refine lv_iload_n hE.1 hE.2.1 dX9_four_15 rfl (lv_at hl 2 rfl) ?_
  refine lv_iload_n hE.1 hE.2.1 dX9_four_16 rfl (lv_at hl 0 rfl) ?_
  refine lv_ishr hE.1 hE.2.1 dX9_four_17 ?_
  refine lv_i2b (v := ((p1 >>> (8 &&& 31)).toInt8.toInt32)) hE.1 hE.2.1 dX9_four_18 rfl ?_
  refine x_bast (j := 10) hE hK hN hP hS 5 (by decide) (fun _ => yG_12 rfl) (by unfold vp_in; decide) dX9_four_19 (fun ar_5 H locs har_5 hP hS => ?_)
  refine lv_aload_n hE.1 hE.2.1 dX9_four_20 rfl (lv_at hl 1 rfl) ?_
  refine lv_dup hE.1 hE.2.1 dX9_four_21 rfl ?_
  refine x_get (x := .int (v_4 0 6)) hE hK hP 0 (by decide) (yG_9 rfl) rfl hin9 6 (by decide) mw_1340 rfl dX9_four_22 ?_
  refine x_top (y := 10) (up_eq hv_4) ?_
  refine lv_iconst (v := 1) hE.1 hE.2.1 dX9_four_25 (by decide) ?_
  refine lv_iadd hE.1 hE.2.1 dX9_four_26 ?_
  refine x_top (y := 11) (by decide) ?_
  refine x_put hE hK hN hP hS 0 (by decide) (yG_9 rfl) rfl hin9 tyX9 tyX9_ok nmX9 6 (by decide) mw_1340 rfl rfl rfl (Nat.le_of_ble_eq_true rfl) (yG_9 rfl) dX9_four_27 (fun v_6 H locs hv_6 hP hS => ?_)
  refine lv_iinc (v := 0) (lv' := [(2, .int 0), (0, .ref (ad 0)), (1, .int p1)]) hE.1 hE.2.1 dX9_four_30 hl (k := 0) rfl (by decide) (by decide) rfl (fun ls hl => ?_)
  refine lv_goto (tgt := 3) hE.1 hE.2.1 dX9_four_33 (by decide) ?_
  refine lv_iload_n hE.1 hE.2.1 dX9_four_3 rfl (lv_at hl 0 rfl) ?_
  refine lv_if_lt (tgt := 36) hE.1 hE.2.1 dX9_four_4 (by decide) (fun h => absurd h (by decide)) (fun _ => ?_)
  refine lv_aload_n hE.1 hE.2.1 dX9_four_7 rfl (lv_at hl 1 rfl) ?_
  refine x_get (x := .ref (ad 5)) hE hK hP 0 (by decide) (yG_9 rfl) rfl hin9 5 (by decide) mw_1339 rfl dX9_four_8 ?_
  refine lv_aload_n hE.1 hE.2.1 dX9_four_11 rfl (lv_at hl 1 rfl) ?_
  refine x_get (x := .int (v_6 0 6)) hE hK hP 0 (by decide) (yG_9 rfl) rfl hin9 6 (by decide) mw_1340 rfl dX9_four_12 ?_
  refine x_top (y := 11) (up_eq hv_6) ?_
  refine lv_iload_n hE.1 hE.2.1 dX9_four_15 rfl (lv_at hl 2 rfl) ?_
  refine lv_iload_n hE.1 hE.2.1 dX9_four_16 rfl (lv_at hl 0 rfl) ?_
  refine lv_ishr hE.1 hE.2.1 dX9_four_17 ?_
  refine lv_i2b (v := ((p1 >>> (0 &&& 31)).toInt8.toInt32)) hE.1 hE.2.1 dX9_four_18 rfl ?_
  refine x_bast (j := 11) hE hK hN hP hS 5 (by decide) (fun _ => yG_12 rfl) (by unfold vp_in; decide) dX9_four_19 (fun ar_7 H locs har_7 hP hS => ?_)
  refine lv_aload_n hE.1 hE.2.1 dX9_four_20 rfl (lv_at hl 1 rfl) ?_
  refine lv_dup hE.1 hE.2.1 dX9_four_21 rfl ?_
  refine x_get (x := .int (v_6 0 6)) hE hK hP 0 (by decide) (yG_9 rfl) rfl hin9 6 (by decide) mw_1340 rfl dX9_four_22 ?_
  refine x_top (y := 11) (up_eq hv_6) ?_
  refine lv_iconst (v := 1) hE.1 hE.2.1 dX9_four_25 (by decide) ?_
  refine lv_iadd hE.1 hE.2.1 dX9_four_26 ?_
  refine x_top (y := 12) (by decide) ?_
  refine x_put hE hK hN hP hS 0 (by decide) (yG_9 rfl) rfl hin9 tyX9 tyX9_ok nmX9 6 (by decide) mw_1340 rfl rfl rfl (Nat.le_of_ble_eq_true rfl) (yG_9 rfl) dX9_four_27 (fun v_8 H locs hv_8 hP hS => ?_)
  refine lv_iinc (v := (-8)) (lv' := [(2, .int (-8)), (0, .ref (ad 0)), (1, .int p1)]) hE.1 hE.2.1 dX9_four_30 hl (k := 0) rfl (by decide) (by decide) rfl (fun ls hl => ?_)
  refine lv_goto (tgt := 3) hE.1 hE.2.1 dX9_four_33 (by decide) ?_
  refine lv_iload_n hE.1 hE.2.1 dX9_four_3 rfl (lv_at hl 0 rfl) ?_
  refine lv_if_lt (tgt := 36) hE.1 hE.2.1 dX9_four_4 (by decide) (fun _ => ?_) (fun h => absurd (by decide) h)
  exact x_wv hE hr hlo hP hS ⟨fun i j h => ((up_oth hv_8 (fun q => h (by rcases q with ⟨rfl, rfl⟩; decide))).trans ((up_oth hv_6 (fun q => h (by rcases q with ⟨rfl, rfl⟩; decide))).trans ((up_oth hv_4 (fun q => h (by rcases q with ⟨rfl, rfl⟩; decide))).trans (up_oth hv_2 (fun q => h (by rcases q with ⟨rfl, rfl⟩; decide)))))), (up_eq hv_8)⟩ dX9_four_36

set_option maxHeartbeats 4000000 in
set_option maxRecDepth 100000 in
theorem k_X9_four_12 (l : Launch) (D : va_G) (K : Nat → ClassId) (ad : Nat → Nat) (v ar : sI) (al : sL) (h_0_6 : v 0 6 = 12) (p1 : Int32) : Met l yX9_four (wM yX9_four cX9_four 3 none) (rmD 0) (va_Pc [.ref (ad 0), .int p1] (wPre D K ad (yG ad K) 21 v ar al)) (va_Qv (fun u : sT => (∀ i j : Nat, (i, j) ∉ ([(0, 6)] : List (Nat × Nat)) → u.1 i j = v i j) ∧ u.1 0 6 = 16) (wB D ad (yG ad K) 21) (inW ad 21)) 0 0 (inW ad 21) := by
  refine x_met (by decide) (Nat.le_of_ble_eq_true rfl) ?_
  intro p e s m below meth c ls hE hr hlo hnm hB hl
  have hE : CallFix p m c cX9_four 3 s _ tbG "TaleCourtModel" := hE
  obtain ⟨hP, hK, hN⟩ := hB
  have hS : va_S (inW ad 21) s.heap s.heap [] := va_S.rf
  have hl : lv_has ls 3 [(0, .ref (ad 0)), (1, .int p1)] := hl
  refine lv_bipush (v := 24) hE.1 hE.2.1 dX9_four_0 (by decide) ?_
  refine lv_istore_n (lv' := [(2, .int 24), (0, .ref (ad 0)), (1, .int p1)]) hE.1 hE.2.1 dX9_four_2 rfl hl (by decide) rfl (fun ls hl => ?_)
  refine lv_iload_n hE.1 hE.2.1 dX9_four_3 rfl (lv_at hl 0 rfl) ?_
  refine lv_if_lt (tgt := 36) hE.1 hE.2.1 dX9_four_4 (by decide) (fun h => absurd h (by decide)) (fun _ => ?_)
  refine lv_aload_n hE.1 hE.2.1 dX9_four_7 rfl (lv_at hl 1 rfl) ?_
  refine x_get (x := .ref (ad 5)) hE hK hP 0 (by decide) (yG_9 rfl) rfl hin9 5 (by decide) mw_1339 rfl dX9_four_8 ?_
  refine lv_aload_n hE.1 hE.2.1 dX9_four_11 rfl (lv_at hl 1 rfl) ?_
  refine x_get (x := .int (v 0 6)) hE hK hP 0 (by decide) (yG_9 rfl) rfl hin9 6 (by decide) mw_1340 rfl dX9_four_12 ?_
  refine x_top (y := 12) h_0_6 ?_
  refine lv_iload_n hE.1 hE.2.1 dX9_four_15 rfl (lv_at hl 2 rfl) ?_
  refine lv_iload_n hE.1 hE.2.1 dX9_four_16 rfl (lv_at hl 0 rfl) ?_
  refine lv_ishr hE.1 hE.2.1 dX9_four_17 ?_
  refine lv_i2b (v := ((p1 >>> (24 &&& 31)).toInt8.toInt32)) hE.1 hE.2.1 dX9_four_18 rfl ?_
  refine x_bast (j := 12) hE hK hN hP hS 5 (by decide) (fun _ => yG_12 rfl) (by unfold vp_in; decide) dX9_four_19 (fun ar_1 H locs har_1 hP hS => ?_)
  refine lv_aload_n hE.1 hE.2.1 dX9_four_20 rfl (lv_at hl 1 rfl) ?_
  refine lv_dup hE.1 hE.2.1 dX9_four_21 rfl ?_
  refine x_get (x := .int (v 0 6)) hE hK hP 0 (by decide) (yG_9 rfl) rfl hin9 6 (by decide) mw_1340 rfl dX9_four_22 ?_
  refine x_top (y := 12) h_0_6 ?_
  refine lv_iconst (v := 1) hE.1 hE.2.1 dX9_four_25 (by decide) ?_
  refine lv_iadd hE.1 hE.2.1 dX9_four_26 ?_
  refine x_top (y := 13) (by decide) ?_
  refine x_put hE hK hN hP hS 0 (by decide) (yG_9 rfl) rfl hin9 tyX9 tyX9_ok nmX9 6 (by decide) mw_1340 rfl rfl rfl (Nat.le_of_ble_eq_true rfl) (yG_9 rfl) dX9_four_27 (fun v_2 H locs hv_2 hP hS => ?_)
  refine lv_iinc (v := 16) (lv' := [(2, .int 16), (0, .ref (ad 0)), (1, .int p1)]) hE.1 hE.2.1 dX9_four_30 hl (k := 0) rfl (by decide) (by decide) rfl (fun ls hl => ?_)
  refine lv_goto (tgt := 3) hE.1 hE.2.1 dX9_four_33 (by decide) ?_
  refine lv_iload_n hE.1 hE.2.1 dX9_four_3 rfl (lv_at hl 0 rfl) ?_
  refine lv_if_lt (tgt := 36) hE.1 hE.2.1 dX9_four_4 (by decide) (fun h => absurd h (by decide)) (fun _ => ?_)
  refine lv_aload_n hE.1 hE.2.1 dX9_four_7 rfl (lv_at hl 1 rfl) ?_
  refine x_get (x := .ref (ad 5)) hE hK hP 0 (by decide) (yG_9 rfl) rfl hin9 5 (by decide) mw_1339 rfl dX9_four_8 ?_
  refine lv_aload_n hE.1 hE.2.1 dX9_four_11 rfl (lv_at hl 1 rfl) ?_
  refine x_get (x := .int (v_2 0 6)) hE hK hP 0 (by decide) (yG_9 rfl) rfl hin9 6 (by decide) mw_1340 rfl dX9_four_12 ?_
  refine x_top (y := 13) (up_eq hv_2) ?_
  refine lv_iload_n hE.1 hE.2.1 dX9_four_15 rfl (lv_at hl 2 rfl) ?_
  refine lv_iload_n hE.1 hE.2.1 dX9_four_16 rfl (lv_at hl 0 rfl) ?_
  refine lv_ishr hE.1 hE.2.1 dX9_four_17 ?_
  refine lv_i2b (v := ((p1 >>> (16 &&& 31)).toInt8.toInt32)) hE.1 hE.2.1 dX9_four_18 rfl ?_
  refine x_bast (j := 13) hE hK hN hP hS 5 (by decide) (fun _ => yG_12 rfl) (by unfold vp_in; decide) dX9_four_19 (fun ar_3 H locs har_3 hP hS => ?_)
  refine lv_aload_n hE.1 hE.2.1 dX9_four_20 rfl (lv_at hl 1 rfl) ?_
  refine lv_dup hE.1 hE.2.1 dX9_four_21 rfl ?_
  refine x_get (x := .int (v_2 0 6)) hE hK hP 0 (by decide) (yG_9 rfl) rfl hin9 6 (by decide) mw_1340 rfl dX9_four_22 ?_
  refine x_top (y := 13) (up_eq hv_2) ?_
  refine lv_iconst (v := 1) hE.1 hE.2.1 dX9_four_25 (by decide) ?_
  refine lv_iadd hE.1 hE.2.1 dX9_four_26 ?_
  refine x_top (y := 14) (by decide) ?_
  refine x_put hE hK hN hP hS 0 (by decide) (yG_9 rfl) rfl hin9 tyX9 tyX9_ok nmX9 6 (by decide) mw_1340 rfl rfl rfl (Nat.le_of_ble_eq_true rfl) (yG_9 rfl) dX9_four_27 (fun v_4 H locs hv_4 hP hS => ?_)
  refine lv_iinc (v := 8) (lv' := [(2, .int 8), (0, .ref (ad 0)), (1, .int p1)]) hE.1 hE.2.1 dX9_four_30 hl (k := 0) rfl (by decide) (by decide) rfl (fun ls hl => ?_)
  refine lv_goto (tgt := 3) hE.1 hE.2.1 dX9_four_33 (by decide) ?_
  refine lv_iload_n hE.1 hE.2.1 dX9_four_3 rfl (lv_at hl 0 rfl) ?_
  refine lv_if_lt (tgt := 36) hE.1 hE.2.1 dX9_four_4 (by decide) (fun h => absurd h (by decide)) (fun _ => ?_)
  refine lv_aload_n hE.1 hE.2.1 dX9_four_7 rfl (lv_at hl 1 rfl) ?_
  refine x_get (x := .ref (ad 5)) hE hK hP 0 (by decide) (yG_9 rfl) rfl hin9 5 (by decide) mw_1339 rfl dX9_four_8 ?_
  refine lv_aload_n hE.1 hE.2.1 dX9_four_11 rfl (lv_at hl 1 rfl) ?_
  refine x_get (x := .int (v_4 0 6)) hE hK hP 0 (by decide) (yG_9 rfl) rfl hin9 6 (by decide) mw_1340 rfl dX9_four_12 ?_
  refine x_top (y := 14) (up_eq hv_4) ?_
  refine lv_iload_n hE.1 hE.2.1 dX9_four_15 rfl (lv_at hl 2 rfl) ?_
  refine lv_iload_n hE.1 hE.2.1 dX9_four_16 rfl (lv_at hl 0 rfl) ?_
  refine lv_ishr hE.1 hE.2.1 dX9_four_17 ?_
  refine lv_i2b (v := ((p1 >>> (8 &&& 31)).toInt8.toInt32)) hE.1 hE.2.1 dX9_four_18 rfl ?_
  refine x_bast (j := 14) hE hK hN hP hS 5 (by decide) (fun _ => yG_12 rfl) (by unfold vp_in; decide) dX9_four_19 (fun ar_5 H locs har_5 hP hS => ?_)
  refine lv_aload_n hE.1 hE.2.1 dX9_four_20 rfl (lv_at hl 1 rfl) ?_
  refine lv_dup hE.1 hE.2.1 dX9_four_21 rfl ?_
  refine x_get (x := .int (v_4 0 6)) hE hK hP 0 (by decide) (yG_9 rfl) rfl hin9 6 (by decide) mw_1340 rfl dX9_four_22 ?_
  refine x_top (y := 14) (up_eq hv_4) ?_
  refine lv_iconst (v := 1) hE.1 hE.2.1 dX9_four_25 (by decide) ?_
  refine lv_iadd hE.1 hE.2.1 dX9_four_26 ?_
  refine x_top (y := 15) (by decide) ?_
  refine x_put hE hK hN hP hS 0 (by decide) (yG_9 rfl) rfl hin9 tyX9 tyX9_ok nmX9 6 (by decide) mw_1340 rfl rfl rfl (Nat.le_of_ble_eq_true rfl) (yG_9 rfl) dX9_four_27 (fun v_6 H locs hv_6 hP hS => ?_)
  refine lv_iinc (v := 0) (lv' := [(2, .int 0), (0, .ref (ad 0)), (1, .int p1)]) hE.1 hE.2.1 dX9_four_30 hl (k := 0) rfl (by decide) (by decide) rfl (fun ls hl => ?_)
  refine lv_goto (tgt := 3) hE.1 hE.2.1 dX9_four_33 (by decide) ?_
  refine lv_iload_n hE.1 hE.2.1 dX9_four_3 rfl (lv_at hl 0 rfl) ?_
  refine lv_if_lt (tgt := 36) hE.1 hE.2.1 dX9_four_4 (by decide) (fun h => absurd h (by decide)) (fun _ => ?_)
  refine lv_aload_n hE.1 hE.2.1 dX9_four_7 rfl (lv_at hl 1 rfl) ?_
  refine x_get (x := .ref (ad 5)) hE hK hP 0 (by decide) (yG_9 rfl) rfl hin9 5 (by decide) mw_1339 rfl dX9_four_8 ?_
  refine lv_aload_n hE.1 hE.2.1 dX9_four_11 rfl (lv_at hl 1 rfl) ?_
  refine x_get (x := .int (v_6 0 6)) hE hK hP 0 (by decide) (yG_9 rfl) rfl hin9 6 (by decide) mw_1340 rfl dX9_four_12 ?_
  refine x_top (y := 15) (up_eq hv_6) ?_
  refine lv_iload_n hE.1 hE.2.1 dX9_four_15 rfl (lv_at hl 2 rfl) ?_
  refine lv_iload_n hE.1 hE.2.1 dX9_four_16 rfl (lv_at hl 0 rfl) ?_
  refine lv_ishr hE.1 hE.2.1 dX9_four_17 ?_
  refine lv_i2b (v := ((p1 >>> (0 &&& 31)).toInt8.toInt32)) hE.1 hE.2.1 dX9_four_18 rfl ?_
  refine x_bast (j := 15) hE hK hN hP hS 5 (by decide) (fun _ => yG_12 rfl) (by unfold vp_in; decide) dX9_four_19 (fun ar_7 H locs har_7 hP hS => ?_)
  refine lv_aload_n hE.1 hE.2.1 dX9_four_20 rfl (lv_at hl 1 rfl) ?_
  refine lv_dup hE.1 hE.2.1 dX9_four_21 rfl ?_
  refine x_get (x := .int (v_6 0 6)) hE hK hP 0 (by decide) (yG_9 rfl) rfl hin9 6 (by decide) mw_1340 rfl dX9_four_22 ?_
  refine x_top (y := 15) (up_eq hv_6) ?_
  refine lv_iconst (v := 1) hE.1 hE.2.1 dX9_four_25 (by decide) ?_
  refine lv_iadd hE.1 hE.2.1 dX9_four_26 ?_
  refine x_top (y := 16) (by decide) ?_
  refine x_put hE hK hN hP hS 0 (by decide) (yG_9 rfl) rfl hin9 tyX9 tyX9_ok nmX9 6 (by decide) mw_1340 rfl rfl rfl (Nat.le_of_ble_eq_true rfl) (yG_9 rfl) dX9_four_27 (fun v_8 H locs hv_8 hP hS => ?_)
  refine lv_iinc (v := (-8)) (lv' := [(2, .int (-8)), (0, .ref (ad 0)), (1, .int p1)]) hE.1 hE.2.1 dX9_four_30 hl (k := 0) rfl (by decide) (by decide) rfl (fun ls hl => ?_)
  refine lv_goto (tgt := 3) hE.1 hE.2.1 dX9_four_33 (by decide) ?_
  refine lv_iload_n hE.1 hE.2.1 dX9_four_3 rfl (lv_at hl 0 rfl) ?_
  refine lv_if_lt (tgt := 36) hE.1 hE.2.1 dX9_four_4 (by decide) (fun _ => ?_) (fun h => absurd (by decide) h)
  exact x_wv hE hr hlo hP hS ⟨fun i j h => ((up_oth hv_8 (fun q => h (by rcases q with ⟨rfl, rfl⟩; decide))).trans ((up_oth hv_6 (fun q => h (by rcases q with ⟨rfl, rfl⟩; decide))).trans ((up_oth hv_4 (fun q => h (by rcases q with ⟨rfl, rfl⟩; decide))).trans (up_oth hv_2 (fun q => h (by rcases q with ⟨rfl, rfl⟩; decide)))))), (up_eq hv_8)⟩ dX9_four_36

set_option maxHeartbeats 4000000 in
set_option maxRecDepth 100000 in
theorem k_X9_four_16 (l : Launch) (D : va_G) (K : Nat → ClassId) (ad : Nat → Nat) (v ar : sI) (al : sL) (h_0_6 : v 0 6 = 16) (p1 : Int32) : Met l yX9_four (wM yX9_four cX9_four 3 none) (rmD 0) (va_Pc [.ref (ad 0), .int p1] (wPre D K ad (yG ad K) 21 v ar al)) (va_Qv (fun u : sT => (∀ i j : Nat, (i, j) ∉ ([(0, 6)] : List (Nat × Nat)) → u.1 i j = v i j) ∧ u.1 0 6 = 20) (wB D ad (yG ad K) 21) (inW ad 21)) 0 0 (inW ad 21) := by
  refine x_met (by decide) (Nat.le_of_ble_eq_true rfl) ?_
  intro p e s m below meth c ls hE hr hlo hnm hB hl
  have hE : CallFix p m c cX9_four 3 s _ tbG "TaleCourtModel" := hE
  obtain ⟨hP, hK, hN⟩ := hB
  have hS : va_S (inW ad 21) s.heap s.heap [] := va_S.rf
  have hl : lv_has ls 3 [(0, .ref (ad 0)), (1, .int p1)] := hl
  refine lv_bipush (v := 24) hE.1 hE.2.1 dX9_four_0 (by decide) ?_
  refine lv_istore_n (lv' := [(2, .int 24), (0, .ref (ad 0)), (1, .int p1)]) hE.1 hE.2.1 dX9_four_2 rfl hl (by decide) rfl (fun ls hl => ?_)
  refine lv_iload_n hE.1 hE.2.1 dX9_four_3 rfl (lv_at hl 0 rfl) ?_
  refine lv_if_lt (tgt := 36) hE.1 hE.2.1 dX9_four_4 (by decide) (fun h => absurd h (by decide)) (fun _ => ?_)
  refine lv_aload_n hE.1 hE.2.1 dX9_four_7 rfl (lv_at hl 1 rfl) ?_
  refine x_get (x := .ref (ad 5)) hE hK hP 0 (by decide) (yG_9 rfl) rfl hin9 5 (by decide) mw_1339 rfl dX9_four_8 ?_
  refine lv_aload_n hE.1 hE.2.1 dX9_four_11 rfl (lv_at hl 1 rfl) ?_
  refine x_get (x := .int (v 0 6)) hE hK hP 0 (by decide) (yG_9 rfl) rfl hin9 6 (by decide) mw_1340 rfl dX9_four_12 ?_
  refine x_top (y := 16) h_0_6 ?_
  refine lv_iload_n hE.1 hE.2.1 dX9_four_15 rfl (lv_at hl 2 rfl) ?_
  refine lv_iload_n hE.1 hE.2.1 dX9_four_16 rfl (lv_at hl 0 rfl) ?_
  refine lv_ishr hE.1 hE.2.1 dX9_four_17 ?_
  refine lv_i2b (v := ((p1 >>> (24 &&& 31)).toInt8.toInt32)) hE.1 hE.2.1 dX9_four_18 rfl ?_
  refine x_bast (j := 16) hE hK hN hP hS 5 (by decide) (fun _ => yG_12 rfl) (by unfold vp_in; decide) dX9_four_19 (fun ar_1 H locs har_1 hP hS => ?_)
  refine lv_aload_n hE.1 hE.2.1 dX9_four_20 rfl (lv_at hl 1 rfl) ?_
  refine lv_dup hE.1 hE.2.1 dX9_four_21 rfl ?_
  refine x_get (x := .int (v 0 6)) hE hK hP 0 (by decide) (yG_9 rfl) rfl hin9 6 (by decide) mw_1340 rfl dX9_four_22 ?_
  refine x_top (y := 16) h_0_6 ?_
  refine lv_iconst (v := 1) hE.1 hE.2.1 dX9_four_25 (by decide) ?_
  refine lv_iadd hE.1 hE.2.1 dX9_four_26 ?_
  refine x_top (y := 17) (by decide) ?_
  refine x_put hE hK hN hP hS 0 (by decide) (yG_9 rfl) rfl hin9 tyX9 tyX9_ok nmX9 6 (by decide) mw_1340 rfl rfl rfl (Nat.le_of_ble_eq_true rfl) (yG_9 rfl) dX9_four_27 (fun v_2 H locs hv_2 hP hS => ?_)
  refine lv_iinc (v := 16) (lv' := [(2, .int 16), (0, .ref (ad 0)), (1, .int p1)]) hE.1 hE.2.1 dX9_four_30 hl (k := 0) rfl (by decide) (by decide) rfl (fun ls hl => ?_)
  refine lv_goto (tgt := 3) hE.1 hE.2.1 dX9_four_33 (by decide) ?_
  refine lv_iload_n hE.1 hE.2.1 dX9_four_3 rfl (lv_at hl 0 rfl) ?_
  refine lv_if_lt (tgt := 36) hE.1 hE.2.1 dX9_four_4 (by decide) (fun h => absurd h (by decide)) (fun _ => ?_)
  refine lv_aload_n hE.1 hE.2.1 dX9_four_7 rfl (lv_at hl 1 rfl) ?_
  refine x_get (x := .ref (ad 5)) hE hK hP 0 (by decide) (yG_9 rfl) rfl hin9 5 (by decide) mw_1339 rfl dX9_four_8 ?_
  refine lv_aload_n hE.1 hE.2.1 dX9_four_11 rfl (lv_at hl 1 rfl) ?_
  refine x_get (x := .int (v_2 0 6)) hE hK hP 0 (by decide) (yG_9 rfl) rfl hin9 6 (by decide) mw_1340 rfl dX9_four_12 ?_
  refine x_top (y := 17) (up_eq hv_2) ?_
  refine lv_iload_n hE.1 hE.2.1 dX9_four_15 rfl (lv_at hl 2 rfl) ?_
  refine lv_iload_n hE.1 hE.2.1 dX9_four_16 rfl (lv_at hl 0 rfl) ?_
  refine lv_ishr hE.1 hE.2.1 dX9_four_17 ?_
  refine lv_i2b (v := ((p1 >>> (16 &&& 31)).toInt8.toInt32)) hE.1 hE.2.1 dX9_four_18 rfl ?_
  refine x_bast (j := 17) hE hK hN hP hS 5 (by decide) (fun _ => yG_12 rfl) (by unfold vp_in; decide) dX9_four_19 (fun ar_3 H locs har_3 hP hS => ?_)
  refine lv_aload_n hE.1 hE.2.1 dX9_four_20 rfl (lv_at hl 1 rfl) ?_
  refine lv_dup hE.1 hE.2.1 dX9_four_21 rfl ?_
  refine x_get (x := .int (v_2 0 6)) hE hK hP 0 (by decide) (yG_9 rfl) rfl hin9 6 (by decide) mw_1340 rfl dX9_four_22 ?_
  refine x_top (y := 17) (up_eq hv_2) ?_
  refine lv_iconst (v := 1) hE.1 hE.2.1 dX9_four_25 (by decide) ?_
  refine lv_iadd hE.1 hE.2.1 dX9_four_26 ?_
  refine x_top (y := 18) (by decide) ?_
  refine x_put hE hK hN hP hS 0 (by decide) (yG_9 rfl) rfl hin9 tyX9 tyX9_ok nmX9 6 (by decide) mw_1340 rfl rfl rfl (Nat.le_of_ble_eq_true rfl) (yG_9 rfl) dX9_four_27 (fun v_4 H locs hv_4 hP hS => ?_)
  refine lv_iinc (v := 8) (lv' := [(2, .int 8), (0, .ref (ad 0)), (1, .int p1)]) hE.1 hE.2.1 dX9_four_30 hl (k := 0) rfl (by decide) (by decide) rfl (fun ls hl => ?_)
  refine lv_goto (tgt := 3) hE.1 hE.2.1 dX9_four_33 (by decide) ?_
  refine lv_iload_n hE.1 hE.2.1 dX9_four_3 rfl (lv_at hl 0 rfl) ?_
  refine lv_if_lt (tgt := 36) hE.1 hE.2.1 dX9_four_4 (by decide) (fun h => absurd h (by decide)) (fun _ => ?_)
  refine lv_aload_n hE.1 hE.2.1 dX9_four_7 rfl (lv_at hl 1 rfl) ?_
  refine x_get (x := .ref (ad 5)) hE hK hP 0 (by decide) (yG_9 rfl) rfl hin9 5 (by decide) mw_1339 rfl dX9_four_8 ?_
  refine lv_aload_n hE.1 hE.2.1 dX9_four_11 rfl (lv_at hl 1 rfl) ?_
  refine x_get (x := .int (v_4 0 6)) hE hK hP 0 (by decide) (yG_9 rfl) rfl hin9 6 (by decide) mw_1340 rfl dX9_four_12 ?_
  refine x_top (y := 18) (up_eq hv_4) ?_
  refine lv_iload_n hE.1 hE.2.1 dX9_four_15 rfl (lv_at hl 2 rfl) ?_
  refine lv_iload_n hE.1 hE.2.1 dX9_four_16 rfl (lv_at hl 0 rfl) ?_
  refine lv_ishr hE.1 hE.2.1 dX9_four_17 ?_
  refine lv_i2b (v := ((p1 >>> (8 &&& 31)).toInt8.toInt32)) hE.1 hE.2.1 dX9_four_18 rfl ?_
  refine x_bast (j := 18) hE hK hN hP hS 5 (by decide) (fun _ => yG_12 rfl) (by unfold vp_in; decide) dX9_four_19 (fun ar_5 H locs har_5 hP hS => ?_)
  refine lv_aload_n hE.1 hE.2.1 dX9_four_20 rfl (lv_at hl 1 rfl) ?_
  refine lv_dup hE.1 hE.2.1 dX9_four_21 rfl ?_
  refine x_get (x := .int (v_4 0 6)) hE hK hP 0 (by decide) (yG_9 rfl) rfl hin9 6 (by decide) mw_1340 rfl dX9_four_22 ?_
  refine x_top (y := 18) (up_eq hv_4) ?_
  refine lv_iconst (v := 1) hE.1 hE.2.1 dX9_four_25 (by decide) ?_
  refine lv_iadd hE.1 hE.2.1 dX9_four_26 ?_
  refine x_top (y := 19) (by decide) ?_
  refine x_put hE hK hN hP hS 0 (by decide) (yG_9 rfl) rfl hin9 tyX9 tyX9_ok nmX9 6 (by decide) mw_1340 rfl rfl rfl (Nat.le_of_ble_eq_true rfl) (yG_9 rfl) dX9_four_27 (fun v_6 H locs hv_6 hP hS => ?_)
  refine lv_iinc (v := 0) (lv' := [(2, .int 0), (0, .ref (ad 0)), (1, .int p1)]) hE.1 hE.2.1 dX9_four_30 hl (k := 0) rfl (by decide) (by decide) rfl (fun ls hl => ?_)
  refine lv_goto (tgt := 3) hE.1 hE.2.1 dX9_four_33 (by decide) ?_
  refine lv_iload_n hE.1 hE.2.1 dX9_four_3 rfl (lv_at hl 0 rfl) ?_
  refine lv_if_lt (tgt := 36) hE.1 hE.2.1 dX9_four_4 (by decide) (fun h => absurd h (by decide)) (fun _ => ?_)
  refine lv_aload_n hE.1 hE.2.1 dX9_four_7 rfl (lv_at hl 1 rfl) ?_
  refine x_get (x := .ref (ad 5)) hE hK hP 0 (by decide) (yG_9 rfl) rfl hin9 5 (by decide) mw_1339 rfl dX9_four_8 ?_
  refine lv_aload_n hE.1 hE.2.1 dX9_four_11 rfl (lv_at hl 1 rfl) ?_
  refine x_get (x := .int (v_6 0 6)) hE hK hP 0 (by decide) (yG_9 rfl) rfl hin9 6 (by decide) mw_1340 rfl dX9_four_12 ?_
  refine x_top (y := 19) (up_eq hv_6) ?_
  refine lv_iload_n hE.1 hE.2.1 dX9_four_15 rfl (lv_at hl 2 rfl) ?_
  refine lv_iload_n hE.1 hE.2.1 dX9_four_16 rfl (lv_at hl 0 rfl) ?_
  refine lv_ishr hE.1 hE.2.1 dX9_four_17 ?_
  refine lv_i2b (v := ((p1 >>> (0 &&& 31)).toInt8.toInt32)) hE.1 hE.2.1 dX9_four_18 rfl ?_
  refine x_bast (j := 19) hE hK hN hP hS 5 (by decide) (fun _ => yG_12 rfl) (by unfold vp_in; decide) dX9_four_19 (fun ar_7 H locs har_7 hP hS => ?_)
  refine lv_aload_n hE.1 hE.2.1 dX9_four_20 rfl (lv_at hl 1 rfl) ?_
  refine lv_dup hE.1 hE.2.1 dX9_four_21 rfl ?_
  refine x_get (x := .int (v_6 0 6)) hE hK hP 0 (by decide) (yG_9 rfl) rfl hin9 6 (by decide) mw_1340 rfl dX9_four_22 ?_
  refine x_top (y := 19) (up_eq hv_6) ?_
  refine lv_iconst (v := 1) hE.1 hE.2.1 dX9_four_25 (by decide) ?_
  refine lv_iadd hE.1 hE.2.1 dX9_four_26 ?_
  refine x_top (y := 20) (by decide) ?_
  refine x_put hE hK hN hP hS 0 (by decide) (yG_9 rfl) rfl hin9 tyX9 tyX9_ok nmX9 6 (by decide) mw_1340 rfl rfl rfl (Nat.le_of_ble_eq_true rfl) (yG_9 rfl) dX9_four_27 (fun v_8 H locs hv_8 hP hS => ?_)
  refine lv_iinc (v := (-8)) (lv' := [(2, .int (-8)), (0, .ref (ad 0)), (1, .int p1)]) hE.1 hE.2.1 dX9_four_30 hl (k := 0) rfl (by decide) (by decide) rfl (fun ls hl => ?_)
  refine lv_goto (tgt := 3) hE.1 hE.2.1 dX9_four_33 (by decide) ?_
  refine lv_iload_n hE.1 hE.2.1 dX9_four_3 rfl (lv_at hl 0 rfl) ?_
  refine lv_if_lt (tgt := 36) hE.1 hE.2.1 dX9_four_4 (by decide) (fun _ => ?_) (fun h => absurd (by decide) h)
  exact x_wv hE hr hlo hP hS ⟨fun i j h => ((up_oth hv_8 (fun q => h (by rcases q with ⟨rfl, rfl⟩; decide))).trans ((up_oth hv_6 (fun q => h (by rcases q with ⟨rfl, rfl⟩; decide))).trans ((up_oth hv_4 (fun q => h (by rcases q with ⟨rfl, rfl⟩; decide))).trans (up_oth hv_2 (fun q => h (by rcases q with ⟨rfl, rfl⟩; decide)))))), (up_eq hv_8)⟩ dX9_four_36

theorem dX9_feed_0 : decode cX9_feed 0 = .ok (.aload_n 0, 1) := by decide +kernel
theorem dX9_feed_1 : decode cX9_feed 1 = .ok (.iconst 0, 1) := by decide +kernel
theorem dX9_feed_2 : decode cX9_feed 2 = .ok (.putfield 81, 3) := by decide +kernel
theorem dX9_feed_5 : decode cX9_feed 5 = .ok (.aload_n 0, 1) := by decide +kernel
theorem dX9_feed_6 : decode cX9_feed 6 = .ok (.getfield 98, 3) := by decide +kernel
theorem dX9_feed_9 : decode cX9_feed 9 = .ok (.bipush 20, 2) := by decide +kernel
theorem dX9_feed_11 : decode cX9_feed 11 = .ok (.iadd, 1) := by decide +kernel
theorem dX9_feed_12 : decode cX9_feed 12 = .ok (.sipush 1600, 3) := by decide +kernel
theorem dX9_feed_15 : decode cX9_feed 15 = .ok (.if_icmp .le 5, 3) := by decide +kernel
theorem dX9_feed_20 : decode cX9_feed 20 = .ok (.aload_n 0, 1) := by decide +kernel
theorem dX9_feed_21 : decode cX9_feed 21 = .ok (.iload_n 1, 1) := by decide +kernel
theorem dX9_feed_22 : decode cX9_feed 22 = .ok (.invokevirtual 101, 3) := by decide +kernel
theorem dX9_feed_25 : decode cX9_feed 25 = .ok (.aload_n 0, 1) := by decide +kernel
theorem dX9_feed_26 : decode cX9_feed 26 = .ok (.iload_n 2, 1) := by decide +kernel
theorem dX9_feed_27 : decode cX9_feed 27 = .ok (.invokevirtual 101, 3) := by decide +kernel
theorem dX9_feed_30 : decode cX9_feed 30 = .ok (.aload_n 0, 1) := by decide +kernel
theorem dX9_feed_31 : decode cX9_feed 31 = .ok (.iload_n 3, 1) := by decide +kernel
theorem dX9_feed_32 : decode cX9_feed 32 = .ok (.invokevirtual 101, 3) := by decide +kernel
theorem dX9_feed_35 : decode cX9_feed 35 = .ok (.aload_n 0, 1) := by decide +kernel
theorem dX9_feed_36 : decode cX9_feed 36 = .ok (.iload 4, 2) := by decide +kernel
theorem dX9_feed_38 : decode cX9_feed 38 = .ok (.invokevirtual 101, 3) := by decide +kernel
theorem dX9_feed_41 : decode cX9_feed 41 = .ok (.aload_n 0, 1) := by decide +kernel
theorem dX9_feed_42 : decode cX9_feed 42 = .ok (.iload 5, 2) := by decide +kernel
theorem dX9_feed_44 : decode cX9_feed 44 = .ok (.invokevirtual 101, 3) := by decide +kernel
theorem dX9_feed_47 : decode cX9_feed 47 = .ok (.aload_n 0, 1) := by decide +kernel
theorem dX9_feed_48 : decode cX9_feed 48 = .ok (.getfield 98, 3) := by decide +kernel
theorem dX9_feed_51 : decode cX9_feed 51 = .ok (.ireturn, 1) := by decide +kernel
set_option maxHeartbeats 4000000 in
set_option maxRecDepth 100000 in
theorem k_X9_feed (l : Launch) (D : va_G) (K : Nat → ClassId) (ad : Nat → Nat) (p1 : Int32) (p2 : Int32) (p3 : Int32) (p4 : Int32) (p5 : Int32) : Met l yX9_feed (wM yX9_feed cX9_feed 6 (some .int)) (rmD 1) (va_Pc [.ref (ad 0), .int p1, .int p2, .int p3, .int p4, .int p5] (wPre D K ad (yG ad K) 21 yv0 ya0 yl0)) (va_Qi (fun (r : Int32) (_ : sT) => r = 20) (wB D ad (yG ad K) 21) (inW ad 21)) 0 0 (inW ad 21) := by
  refine x_met (by decide) (Nat.le_of_ble_eq_true rfl) ?_
  intro p e s m below meth c ls hE hr hlo hnm hB hl
  have hE : CallFix p m c cX9_feed 6 s _ tbG "TaleCourtModel" := hE
  obtain ⟨hP, hK, hN⟩ := hB
  have hS : va_S (inW ad 21) s.heap s.heap [] := va_S.rf
  have hl : lv_has ls 6 [(0, .ref (ad 0)), (1, .int p1), (2, .int p2), (3, .int p3), (4, .int p4), (5, .int p5)] := hl
  refine lv_aload_n hE.1 hE.2.1 dX9_feed_0 rfl (lv_at hl 0 rfl) ?_
  refine lv_iconst (v := 0) hE.1 hE.2.1 dX9_feed_1 (by decide) ?_
  refine x_put hE hK hN hP hS 0 (by decide) (yG_9 rfl) rfl hin9 tyX9 tyX9_ok nmX9 0 (by decide) mw_1334 rfl rfl rfl (Nat.le_of_ble_eq_true rfl) (yG_9 rfl) dX9_feed_2 (fun v_1 H locs hv_1 hP hS => ?_)
  rw [hv_1.trans (up_same rfl)] at hP
  refine lv_aload_n hE.1 hE.2.1 dX9_feed_5 rfl (lv_at hl 0 rfl) ?_
  refine x_get (x := .int 0) hE hK hP 0 (by decide) (yG_9 rfl) rfl hin9 6 (by decide) mw_1340 rfl dX9_feed_6 ?_
  refine lv_bipush (v := 20) hE.1 hE.2.1 dX9_feed_9 (by decide) ?_
  refine lv_iadd hE.1 hE.2.1 dX9_feed_11 ?_
  refine x_top (y := 20) (by decide) ?_
  refine lv_sipush (v := 1600) hE.1 hE.2.1 dX9_feed_12 (by decide) ?_
  refine lv_icmp_le (tgt := 20) hE.1 hE.2.1 dX9_feed_15 (by decide) (fun _ => ?_) (fun h => absurd (by decide) h)
  refine lv_aload_n hE.1 hE.2.1 dX9_feed_20 rfl (lv_at hl 0 rfl) ?_
  refine lv_iload_n hE.1 hE.2.1 dX9_feed_21 rfl (lv_at hl 1 rfl) ?_
  refine x_vv (nn := 1) (As := [.int p1]) (rest := []) hE hK hN hP hS (k_X9_four_0 l D K ad yv0 ya0 yl0 rfl p1) (x_recv hK hP 0 (by decide) (yG_9 rfl) rfl) rfl mw_1512 mw_1514 mw_47 mw_123 mw_1515 (by decide +kernel) ⟨by decide, by decide⟩ hl.1 rfl (Nat.le_of_ble_eq_true rfl) ⟨Nat.zero_le _, Nat.zero_le _⟩ dX9_feed_22 (fun v_2 ar_2 al_2 H locs hq_2 hP hS => ?_)
  refine lv_aload_n hE.1 hE.2.1 dX9_feed_25 rfl (lv_at hl 0 rfl) ?_
  refine lv_iload_n hE.1 hE.2.1 dX9_feed_26 rfl (lv_at hl 2 rfl) ?_
  refine x_vv (nn := 1) (As := [.int p2]) (rest := []) hE hK hN hP hS (k_X9_four_4 l D K ad v_2 ar_2 al_2 hq_2.2 p2) (x_recv hK hP 0 (by decide) (yG_9 rfl) rfl) rfl mw_1512 mw_1514 mw_47 mw_123 mw_1515 (by decide +kernel) ⟨by decide, by decide⟩ hl.1 rfl (Nat.le_of_ble_eq_true rfl) ⟨Nat.zero_le _, Nat.zero_le _⟩ dX9_feed_27 (fun v_3 ar_3 al_3 H locs hq_3 hP hS => ?_)
  refine lv_aload_n hE.1 hE.2.1 dX9_feed_30 rfl (lv_at hl 0 rfl) ?_
  refine lv_iload_n hE.1 hE.2.1 dX9_feed_31 rfl (lv_at hl 3 rfl) ?_
  refine x_vv (nn := 1) (As := [.int p3]) (rest := []) hE hK hN hP hS (k_X9_four_8 l D K ad v_3 ar_3 al_3 hq_3.2 p3) (x_recv hK hP 0 (by decide) (yG_9 rfl) rfl) rfl mw_1512 mw_1514 mw_47 mw_123 mw_1515 (by decide +kernel) ⟨by decide, by decide⟩ hl.1 rfl (Nat.le_of_ble_eq_true rfl) ⟨Nat.zero_le _, Nat.zero_le _⟩ dX9_feed_32 (fun v_4 ar_4 al_4 H locs hq_4 hP hS => ?_)
  refine lv_aload_n hE.1 hE.2.1 dX9_feed_35 rfl (lv_at hl 0 rfl) ?_
  refine lv_iload hE.1 hE.2.1 dX9_feed_36 (lv_at hl 4 rfl) ?_
  refine x_vv (nn := 1) (As := [.int p4]) (rest := []) hE hK hN hP hS (k_X9_four_12 l D K ad v_4 ar_4 al_4 hq_4.2 p4) (x_recv hK hP 0 (by decide) (yG_9 rfl) rfl) rfl mw_1512 mw_1514 mw_47 mw_123 mw_1515 (by decide +kernel) ⟨by decide, by decide⟩ hl.1 rfl (Nat.le_of_ble_eq_true rfl) ⟨Nat.zero_le _, Nat.zero_le _⟩ dX9_feed_38 (fun v_5 ar_5 al_5 H locs hq_5 hP hS => ?_)
  refine lv_aload_n hE.1 hE.2.1 dX9_feed_41 rfl (lv_at hl 0 rfl) ?_
  refine lv_iload hE.1 hE.2.1 dX9_feed_42 (lv_at hl 5 rfl) ?_
  refine x_vv (nn := 1) (As := [.int p5]) (rest := []) hE hK hN hP hS (k_X9_four_16 l D K ad v_5 ar_5 al_5 hq_5.2 p5) (x_recv hK hP 0 (by decide) (yG_9 rfl) rfl) rfl mw_1512 mw_1514 mw_47 mw_123 mw_1515 (by decide +kernel) ⟨by decide, by decide⟩ hl.1 rfl (Nat.le_of_ble_eq_true rfl) ⟨Nat.zero_le _, Nat.zero_le _⟩ dX9_feed_44 (fun v_6 ar_6 al_6 H locs hq_6 hP hS => ?_)
  refine lv_aload_n hE.1 hE.2.1 dX9_feed_47 rfl (lv_at hl 0 rfl) ?_
  refine x_get (x := .int (v_6 0 6)) hE hK hP 0 (by decide) (yG_9 rfl) rfl hin9 6 (by decide) mw_1340 rfl dX9_feed_48 ?_
  refine x_top (y := 20) hq_6.2 ?_
  exact x_wi (post := fun r _ => r = 20) hE hr hlo hP hS rfl (show (20 : Int32) = 20 from rfl) dX9_feed_51

theorem dX9_end_0 : decode cX9_end 0 = .ok (.aload_n 0, 1) := by decide +kernel
theorem dX9_end_1 : decode cX9_end 1 = .ok (.iconst 0, 1) := by decide +kernel
theorem dX9_end_2 : decode cX9_end 2 = .ok (.putfield 81, 3) := by decide +kernel
theorem dX9_end_5 : decode cX9_end 5 = .ok (.iload_n 1, 1) := by decide +kernel
theorem dX9_end_6 : decode cX9_end 6 = .ok (.i2l, 1) := by decide +kernel
theorem dX9_end_7 : decode cX9_end 7 = .ok (.lconst 0, 1) := by decide +kernel
theorem dX9_end_8 : decode cX9_end 8 = .ok (.aload_n 0, 1) := by decide +kernel
theorem dX9_end_9 : decode cX9_end 9 = .ok (.getfield 98, 3) := by decide +kernel
theorem dX9_end_12 : decode cX9_end 12 = .ok (.i2l, 1) := by decide +kernel
theorem dX9_end_13 : decode cX9_end 13 = .ok (.invokestatic 86, 3) := by decide +kernel
theorem dX9_end_16 : decode cX9_end 16 = .ok (.ifCond .ne 5, 3) := by decide +kernel
theorem dX9_end_19 : decode cX9_end 19 = .ok (.iconst (-1), 1) := by decide +kernel
theorem dX9_end_20 : decode cX9_end 20 = .ok (.ireturn, 1) := by decide +kernel
theorem dX9_end_21 : decode cX9_end 21 = .ok (.aload_n 0, 1) := by decide +kernel
theorem dX9_end_22 : decode cX9_end 22 = .ok (.iload_n 1, 1) := by decide +kernel
theorem dX9_end_23 : decode cX9_end 23 = .ok (.putfield 98, 3) := by decide +kernel
theorem dX9_end_26 : decode cX9_end 26 = .ok (.iload_n 1, 1) := by decide +kernel
theorem dX9_end_27 : decode cX9_end 27 = .ok (.ireturn, 1) := by decide +kernel
set_option maxHeartbeats 4000000 in
set_option maxRecDepth 100000 in
theorem k_X9_end (l : Launch) (D : va_G) (K : Nat → ClassId) (ad : Nat → Nat) (p1 : Int32) : Met l yX9_end (wM yX9_end cX9_end 2 (some .int)) (rmD 1) (va_Pc [.ref (ad 0), .int p1] (wPre D K ad (yG ad K) 21 yv0 ya0 yl0)) (va_Qi (fun (r : Int32) (_ : sT) => r = fEnd p1) (wB D ad (yG ad K) 21) (inW ad 21)) 0 0 (inW ad 21) := by
  refine x_met (by decide) (Nat.le_of_ble_eq_true rfl) ?_
  intro p e s m below meth c ls hE hr hlo hnm hB hl
  have hE : CallFix p m c cX9_end 2 s _ tbG "TaleCourtModel" := hE
  obtain ⟨hP, hK, hN⟩ := hB
  have hS : va_S (inW ad 21) s.heap s.heap [] := va_S.rf
  have hl : lv_has ls 2 [(0, .ref (ad 0)), (1, .int p1)] := hl
  refine lv_aload_n hE.1 hE.2.1 dX9_end_0 rfl (lv_at hl 0 rfl) ?_
  refine lv_iconst (v := 0) hE.1 hE.2.1 dX9_end_1 (by decide) ?_
  refine x_put hE hK hN hP hS 0 (by decide) (yG_9 rfl) rfl hin9 tyX9 tyX9_ok nmX9 0 (by decide) mw_1334 rfl rfl rfl (Nat.le_of_ble_eq_true rfl) (yG_9 rfl) dX9_end_2 (fun v_1 H locs hv_1 hP hS => ?_)
  rw [hv_1.trans (up_same rfl)] at hP
  refine lv_iload_n hE.1 hE.2.1 dX9_end_5 rfl (lv_at hl 1 rfl) ?_
  refine lv_i2l (v := (p1.toInt64)) hE.1 hE.2.1 dX9_end_6 rfl ?_
  refine lv_lconst (v := 0) hE.1 hE.2.1 dX9_end_7 (by decide) ?_
  refine lv_aload_n hE.1 hE.2.1 dX9_end_8 rfl (lv_at hl 0 rfl) ?_
  refine x_get (x := .int 0) hE hK hP 0 (by decide) (yG_9 rfl) rfl hin9 6 (by decide) mw_1340 rfl dX9_end_9 ?_
  refine lv_i2l (v := 0) hE.1 hE.2.1 dX9_end_12 (by decide) ?_
  refine x_sp (nn := 3) (As := [.long (p1.toInt64), .long 0, .long 0]) (rest := []) hE (k_X9_in l (p1.toInt64) 0 0) tt_blind (fun _ _ _ => trivial) rfl mw_1494 mw_1495 mw_123 mw_1496 (by decide +kernel) ⟨by decide, by decide⟩ hl.1 rfl (Nat.le_of_ble_eq_true rfl) ⟨Nat.zero_le _, Nat.zero_le _⟩ dX9_end_13 (fun r_2 hr_2 => ?_)
  subst hr_2
  refine lv_if_ne (tgt := 21) hE.1 hE.2.1 dX9_end_16 (by decide) (fun c_3 => ?_) (fun c_3 => ?_)
  · skip
    refine lv_aload_n hE.1 hE.2.1 dX9_end_21 rfl (lv_at hl 0 rfl) ?_
    refine lv_iload_n hE.1 hE.2.1 dX9_end_22 rfl (lv_at hl 1 rfl) ?_
    refine x_put hE hK hN hP hS 0 (by decide) (yG_9 rfl) rfl hin9 tyX9 tyX9_ok nmX9 6 (by decide) mw_1340 rfl rfl rfl (Nat.le_of_ble_eq_true rfl) (yG_9 rfl) dX9_end_23 (fun v_4 H locs hv_4 hP hS => ?_)
    refine lv_iload_n hE.1 hE.2.1 dX9_end_26 rfl (lv_at hl 1 rfl) ?_
    exact x_wi (post := fun r _ => r = fEnd p1) hE hr hlo hP hS rfl (show (p1 : Int32) = fEnd p1 from (by rw [inL_zero c_3]; rfl)) dX9_end_27
  · skip
    refine lv_iconst (v := (-1)) hE.1 hE.2.1 dX9_end_19 (by decide) ?_
    exact x_wi (post := fun r _ => r = fEnd p1) hE hr hlo hP hS rfl (show ((-1) : Int32) = fEnd p1 from inL_nz c_3) dX9_end_20

theorem dX9_fault_0 : decode cX9_fault 0 = .ok (.aload_n 0, 1) := by decide +kernel
theorem dX9_fault_1 : decode cX9_fault 1 = .ok (.iconst 0, 1) := by decide +kernel
theorem dX9_fault_2 : decode cX9_fault 2 = .ok (.putfield 81, 3) := by decide +kernel
theorem dX9_fault_5 : decode cX9_fault 5 = .ok (.iload_n 1, 1) := by decide +kernel
theorem dX9_fault_6 : decode cX9_fault 6 = .ok (.ifCond .ne 10, 3) := by decide +kernel
theorem dX9_fault_9 : decode cX9_fault 9 = .ok (.aload_n 0, 1) := by decide +kernel
theorem dX9_fault_10 : decode cX9_fault 10 = .ok (.getfield 160, 3) := by decide +kernel
theorem dX9_fault_13 : decode cX9_fault 13 = .ok (.goto 16, 3) := by decide +kernel
theorem dX9_fault_16 : decode cX9_fault 16 = .ok (.iload_n 1, 1) := by decide +kernel
theorem dX9_fault_17 : decode cX9_fault 17 = .ok (.iconst 1, 1) := by decide +kernel
theorem dX9_fault_18 : decode cX9_fault 18 = .ok (.if_icmp .ne 10, 3) := by decide +kernel
theorem dX9_fault_21 : decode cX9_fault 21 = .ok (.aload_n 0, 1) := by decide +kernel
theorem dX9_fault_22 : decode cX9_fault 22 = .ok (.getfield 27, 3) := by decide +kernel
theorem dX9_fault_25 : decode cX9_fault 25 = .ok (.goto 4, 3) := by decide +kernel
theorem dX9_fault_28 : decode cX9_fault 28 = .ok (.iconst (-1), 1) := by decide +kernel
theorem dX9_fault_29 : decode cX9_fault 29 = .ok (.ireturn, 1) := by decide +kernel
set_option maxHeartbeats 4000000 in
set_option maxRecDepth 100000 in
theorem k_X9_fault (l : Launch) (D : va_G) (K : Nat → ClassId) (ad : Nat → Nat) (p1 : Int32) : Met l yX9_fault (wM yX9_fault cX9_fault 2 (some .int)) (rmD 0) (va_Pc [.ref (ad 0), .int p1] (wPre D K ad (yG ad K) 21 yv0 ya0 yl0)) (va_Qi (fun (r : Int32) (_ : sT) => r = fFault p1) (wB D ad (yG ad K) 21) (inW ad 21)) 0 0 (inW ad 21) := by
  refine x_met (by decide) (Nat.le_of_ble_eq_true rfl) ?_
  intro p e s m below meth c ls hE hr hlo hnm hB hl
  have hE : CallFix p m c cX9_fault 2 s _ tbG "TaleCourtModel" := hE
  obtain ⟨hP, hK, hN⟩ := hB
  have hS : va_S (inW ad 21) s.heap s.heap [] := va_S.rf
  have hl : lv_has ls 2 [(0, .ref (ad 0)), (1, .int p1)] := hl
  refine lv_aload_n hE.1 hE.2.1 dX9_fault_0 rfl (lv_at hl 0 rfl) ?_
  refine lv_iconst (v := 0) hE.1 hE.2.1 dX9_fault_1 (by decide) ?_
  refine x_put hE hK hN hP hS 0 (by decide) (yG_9 rfl) rfl hin9 tyX9 tyX9_ok nmX9 0 (by decide) mw_1334 rfl rfl rfl (Nat.le_of_ble_eq_true rfl) (yG_9 rfl) dX9_fault_2 (fun v_1 H locs hv_1 hP hS => ?_)
  rw [hv_1.trans (up_same rfl)] at hP
  refine lv_iload_n hE.1 hE.2.1 dX9_fault_5 rfl (lv_at hl 1 rfl) ?_
  refine lv_if_ne (tgt := 16) hE.1 hE.2.1 dX9_fault_6 (by decide) (fun c_2 => ?_) (fun c_2 => ?_)
  · skip
    refine lv_iload_n hE.1 hE.2.1 dX9_fault_16 rfl (lv_at hl 1 rfl) ?_
    refine lv_iconst (v := 1) hE.1 hE.2.1 dX9_fault_17 (by decide) ?_
    refine lv_icmp_ne (tgt := 28) hE.1 hE.2.1 dX9_fault_18 (by decide) (fun c_3 => ?_) (fun c_3 => ?_)
    · skip
      refine lv_iconst (v := (-1)) hE.1 hE.2.1 dX9_fault_28 (by decide) ?_
      exact x_wi (post := fun r _ => r = fFault p1) hE hr hlo hP hS rfl (show ((-1) : Int32) = fFault p1 from (if_neg c_2).symm) dX9_fault_29
    · skip
      refine lv_aload_n hE.1 hE.2.1 dX9_fault_21 rfl (lv_at hl 0 rfl) ?_
      refine x_get (x := .int (-1)) hE hK hP 0 (by decide) (yG_9 rfl) rfl hin9 15 (by decide) mw_1349 rfl dX9_fault_22 ?_
      refine lv_goto (tgt := 29) hE.1 hE.2.1 dX9_fault_25 (by decide) ?_
      exact x_wi (post := fun r _ => r = fFault p1) hE hr hlo hP hS rfl (show ((-1) : Int32) = fFault p1 from (if_neg c_2).symm) dX9_fault_29
  · skip
    refine lv_aload_n hE.1 hE.2.1 dX9_fault_9 rfl (lv_at hl 0 rfl) ?_
    refine x_get (x := .int 0) hE hK hP 0 (by decide) (yG_9 rfl) rfl hin9 14 (by decide) mw_1348 rfl dX9_fault_10 ?_
    refine lv_goto (tgt := 29) hE.1 hE.2.1 dX9_fault_13 (by decide) ?_
    exact x_wi (post := fun r _ => r = fFault p1) hE hr hlo hP hS rfl (show (0 : Int32) = fFault p1 from (if_pos c_2).symm) dX9_fault_29

theorem dX9_count_0 : decode cX9_count 0 = .ok (.aload_n 0, 1) := by decide +kernel
theorem dX9_count_1 : decode cX9_count 1 = .ok (.iconst 0, 1) := by decide +kernel
theorem dX9_count_2 : decode cX9_count 2 = .ok (.putfield 81, 3) := by decide +kernel
theorem dX9_count_5 : decode cX9_count 5 = .ok (.iconst 0, 1) := by decide +kernel
theorem dX9_count_6 : decode cX9_count 6 = .ok (.istore_n 2, 1) := by decide +kernel
theorem dX9_count_7 : decode cX9_count 7 = .ok (.iload_n 1, 1) := by decide +kernel
theorem dX9_count_8 : decode cX9_count 8 = .ok (.tableswitch 204 0 9 #[56, 63, 70, 77, 110, 145, 152, 159, 164, 171], 56) := by decide +kernel
theorem dX9_count_64 : decode cX9_count 64 = .ok (.aload_n 0, 1) := by decide +kernel
theorem dX9_count_65 : decode cX9_count 65 = .ok (.getfield 34, 3) := by decide +kernel
theorem dX9_count_68 : decode cX9_count 68 = .ok (.iconst 2, 1) := by decide +kernel
theorem dX9_count_69 : decode cX9_count 69 = .ok (.iaload, 1) := by decide +kernel
theorem dX9_count_70 : decode cX9_count 70 = .ok (.ireturn, 1) := by decide +kernel
theorem dX9_count_71 : decode cX9_count 71 = .ok (.aload_n 0, 1) := by decide +kernel
theorem dX9_count_72 : decode cX9_count 72 = .ok (.getfield 34, 3) := by decide +kernel
theorem dX9_count_75 : decode cX9_count 75 = .ok (.iconst 0, 1) := by decide +kernel
theorem dX9_count_76 : decode cX9_count 76 = .ok (.iaload, 1) := by decide +kernel
theorem dX9_count_77 : decode cX9_count 77 = .ok (.ireturn, 1) := by decide +kernel
theorem dX9_count_78 : decode cX9_count 78 = .ok (.aload_n 0, 1) := by decide +kernel
theorem dX9_count_79 : decode cX9_count 79 = .ok (.getfield 34, 3) := by decide +kernel
theorem dX9_count_82 : decode cX9_count 82 = .ok (.iconst 1, 1) := by decide +kernel
theorem dX9_count_83 : decode cX9_count 83 = .ok (.iaload, 1) := by decide +kernel
theorem dX9_count_84 : decode cX9_count 84 = .ok (.ireturn, 1) := by decide +kernel
theorem dX9_count_85 : decode cX9_count 85 = .ok (.iconst 0, 1) := by decide +kernel
theorem dX9_count_86 : decode cX9_count 86 = .ok (.istore_n 3, 1) := by decide +kernel
theorem dX9_count_87 : decode cX9_count 87 = .ok (.iload_n 3, 1) := by decide +kernel
theorem dX9_count_88 : decode cX9_count 88 = .ok (.aload_n 0, 1) := by decide +kernel
theorem dX9_count_89 : decode cX9_count 89 = .ok (.getfield 34, 3) := by decide +kernel
theorem dX9_count_92 : decode cX9_count 92 = .ok (.iconst 2, 1) := by decide +kernel
theorem dX9_count_93 : decode cX9_count 93 = .ok (.iaload, 1) := by decide +kernel
theorem dX9_count_94 : decode cX9_count 94 = .ok (.if_icmp .ge 22, 3) := by decide +kernel
theorem dX9_count_116 : decode cX9_count 116 = .ok (.iload_n 2, 1) := by decide +kernel
theorem dX9_count_117 : decode cX9_count 117 = .ok (.ireturn, 1) := by decide +kernel
theorem dX9_count_118 : decode cX9_count 118 = .ok (.iconst 0, 1) := by decide +kernel
theorem dX9_count_119 : decode cX9_count 119 = .ok (.istore_n 3, 1) := by decide +kernel
theorem dX9_count_120 : decode cX9_count 120 = .ok (.iload_n 3, 1) := by decide +kernel
theorem dX9_count_121 : decode cX9_count 121 = .ok (.aload_n 0, 1) := by decide +kernel
theorem dX9_count_122 : decode cX9_count 122 = .ok (.getfield 34, 3) := by decide +kernel
theorem dX9_count_125 : decode cX9_count 125 = .ok (.iconst 2, 1) := by decide +kernel
theorem dX9_count_126 : decode cX9_count 126 = .ok (.iaload, 1) := by decide +kernel
theorem dX9_count_127 : decode cX9_count 127 = .ok (.if_icmp .ge 22, 3) := by decide +kernel
theorem dX9_count_149 : decode cX9_count 149 = .ok (.iload_n 2, 1) := by decide +kernel
theorem dX9_count_150 : decode cX9_count 150 = .ok (.iconst 2, 1) := by decide +kernel
theorem dX9_count_151 : decode cX9_count 151 = .ok (.idiv, 1) := by decide +kernel
theorem dX9_count_152 : decode cX9_count 152 = .ok (.ireturn, 1) := by decide +kernel
theorem dX9_count_153 : decode cX9_count 153 = .ok (.aload_n 0, 1) := by decide +kernel
theorem dX9_count_154 : decode cX9_count 154 = .ok (.getfield 34, 3) := by decide +kernel
theorem dX9_count_157 : decode cX9_count 157 = .ok (.iconst 3, 1) := by decide +kernel
theorem dX9_count_158 : decode cX9_count 158 = .ok (.iaload, 1) := by decide +kernel
theorem dX9_count_159 : decode cX9_count 159 = .ok (.ireturn, 1) := by decide +kernel
theorem dX9_count_160 : decode cX9_count 160 = .ok (.aload_n 0, 1) := by decide +kernel
theorem dX9_count_161 : decode cX9_count 161 = .ok (.getfield 31, 3) := by decide +kernel
theorem dX9_count_164 : decode cX9_count 164 = .ok (.iconst 0, 1) := by decide +kernel
theorem dX9_count_165 : decode cX9_count 165 = .ok (.iaload, 1) := by decide +kernel
theorem dX9_count_166 : decode cX9_count 166 = .ok (.ireturn, 1) := by decide +kernel
theorem dX9_count_167 : decode cX9_count 167 = .ok (.aload_n 0, 1) := by decide +kernel
theorem dX9_count_168 : decode cX9_count 168 = .ok (.getfield 98, 3) := by decide +kernel
theorem dX9_count_171 : decode cX9_count 171 = .ok (.ireturn, 1) := by decide +kernel
theorem dX9_count_172 : decode cX9_count 172 = .ok (.aload_n 0, 1) := by decide +kernel
theorem dX9_count_173 : decode cX9_count 173 = .ok (.getfield 34, 3) := by decide +kernel
theorem dX9_count_176 : decode cX9_count 176 = .ok (.iconst 5, 1) := by decide +kernel
theorem dX9_count_177 : decode cX9_count 177 = .ok (.iaload, 1) := by decide +kernel
theorem dX9_count_178 : decode cX9_count 178 = .ok (.ireturn, 1) := by decide +kernel
theorem dX9_count_179 : decode cX9_count 179 = .ok (.iconst 0, 1) := by decide +kernel
theorem dX9_count_180 : decode cX9_count 180 = .ok (.istore_n 3, 1) := by decide +kernel
theorem dX9_count_181 : decode cX9_count 181 = .ok (.iload_n 3, 1) := by decide +kernel
theorem dX9_count_182 : decode cX9_count 182 = .ok (.iconst 4, 1) := by decide +kernel
theorem dX9_count_183 : decode cX9_count 183 = .ok (.if_icmp .ge 27, 3) := by decide +kernel
theorem dX9_count_186 : decode cX9_count 186 = .ok (.iload_n 2, 1) := by decide +kernel
theorem dX9_count_187 : decode cX9_count 187 = .ok (.aload_n 0, 1) := by decide +kernel
theorem dX9_count_188 : decode cX9_count 188 = .ok (.getfield 7, 3) := by decide +kernel
theorem dX9_count_191 : decode cX9_count 191 = .ok (.iload_n 3, 1) := by decide +kernel
theorem dX9_count_192 : decode cX9_count 192 = .ok (.iaload, 1) := by decide +kernel
theorem dX9_count_193 : decode cX9_count 193 = .ok (.iconst (-1), 1) := by decide +kernel
theorem dX9_count_194 : decode cX9_count 194 = .ok (.if_icmp .ne 7, 3) := by decide +kernel
theorem dX9_count_197 : decode cX9_count 197 = .ok (.iconst 0, 1) := by decide +kernel
theorem dX9_count_198 : decode cX9_count 198 = .ok (.goto 4, 3) := by decide +kernel
theorem dX9_count_202 : decode cX9_count 202 = .ok (.iadd, 1) := by decide +kernel
theorem dX9_count_203 : decode cX9_count 203 = .ok (.istore_n 2, 1) := by decide +kernel
theorem dX9_count_204 : decode cX9_count 204 = .ok (.iinc 3 1, 3) := by decide +kernel
theorem dX9_count_207 : decode cX9_count 207 = .ok (.goto (-26), 3) := by decide +kernel
theorem dX9_count_210 : decode cX9_count 210 = .ok (.iload_n 2, 1) := by decide +kernel
theorem dX9_count_211 : decode cX9_count 211 = .ok (.ireturn, 1) := by decide +kernel
theorem dX9_count_212 : decode cX9_count 212 = .ok (.iconst (-1), 1) := by decide +kernel
theorem dX9_count_213 : decode cX9_count 213 = .ok (.ireturn, 1) := by decide +kernel
set_option maxHeartbeats 4000000 in
set_option maxRecDepth 100000 in
theorem k_X9_count (l : Launch) (D : va_G) (K : Nat → ClassId) (ad : Nat → Nat) (p1 : Int32) : Met l yX9_count (wM yX9_count cX9_count 4 (some .int)) (rmD 0) (va_Pc [.ref (ad 0), .int p1] (wPre D K ad (yG ad K) 21 yv0 ya0 yl0)) (va_Qi (fun (r : Int32) (_ : sT) => r = fCount p1) (wB D ad (yG ad K) 21) (inW ad 21)) 0 0 (inW ad 21) := by
  refine x_met (by decide) (Nat.le_of_ble_eq_true rfl) ?_
  intro p e s m below meth c ls hE hr hlo hnm hB hl
  have hE : CallFix p m c cX9_count 4 s _ tbG "TaleCourtModel" := hE
  obtain ⟨hP, hK, hN⟩ := hB
  have hS : va_S (inW ad 21) s.heap s.heap [] := va_S.rf
  have hl : lv_has ls 4 [(0, .ref (ad 0)), (1, .int p1)] := hl
  refine lv_aload_n hE.1 hE.2.1 dX9_count_0 rfl (lv_at hl 0 rfl) ?_
  refine lv_iconst (v := 0) hE.1 hE.2.1 dX9_count_1 (by decide) ?_
  refine x_put hE hK hN hP hS 0 (by decide) (yG_9 rfl) rfl hin9 tyX9 tyX9_ok nmX9 0 (by decide) mw_1334 rfl rfl rfl (Nat.le_of_ble_eq_true rfl) (yG_9 rfl) dX9_count_2 (fun v_1 H locs hv_1 hP hS => ?_)
  rw [hv_1.trans (up_same rfl)] at hP
  refine lv_iconst (v := 0) hE.1 hE.2.1 dX9_count_5 (by decide) ?_
  refine lv_istore_n (lv' := [(2, .int 0), (0, .ref (ad 0)), (1, .int p1)]) hE.1 hE.2.1 dX9_count_6 rfl hl (by decide) rfl (fun ls hl => ?_)
  refine lv_iload_n hE.1 hE.2.1 dX9_count_7 rfl (lv_at hl 2 rfl) ?_
  by_cases ho : p1.toInt < 0 ∨ 9 < p1.toInt
  · skip
    refine lv_tableOut (tgt := 212) hE.1 hE.2.1 dX9_count_8 ho (by decide) ?_
    refine lv_iconst (v := (-1)) hE.1 hE.2.1 dX9_count_212 (by decide) ?_
    exact x_wi (post := fun r _ => r = fCount p1) hE hr hlo hP hS rfl (show ((-1) : Int32) = fCount p1 from (fCount_out ho).symm) dX9_count_213
  · skip
    rcases t10 (fun q => ho (Or.inl q)) (fun q => ho (Or.inr q)) with rfl | rfl | rfl | rfl | rfl | rfl | rfl | rfl | rfl | rfl
    · skip
      refine lv_tableIn (off := 56) (tgt := 64) hE.1 hE.2.1 dX9_count_8 (by decide) (by decide) (by decide) (by decide) ?_
      refine lv_aload_n hE.1 hE.2.1 dX9_count_64 rfl (lv_at hl 1 rfl) ?_
      refine x_get (x := .ref (ad 7)) hE hK hP 0 (by decide) (yG_9 rfl) rfl hin9 17 (by decide) mw_1351 rfl dX9_count_65 ?_
      refine lv_iconst (v := 2) hE.1 hE.2.1 dX9_count_68 (by decide) ?_
      refine x_iald (j := 2) hE hK hP 7 (by decide) (yG_10 rfl) (by unfold vp_in; decide) dX9_count_69 ?_
      refine x_top (y := 0) (by decide) ?_
      exact x_wi (post := fun r _ => r = fCount 0) hE hr hlo hP hS rfl (show (0 : Int32) = fCount 0 from by decide) dX9_count_70
    · skip
      refine lv_tableIn (off := 63) (tgt := 71) hE.1 hE.2.1 dX9_count_8 (by decide) (by decide) (by decide) (by decide) ?_
      refine lv_aload_n hE.1 hE.2.1 dX9_count_71 rfl (lv_at hl 1 rfl) ?_
      refine x_get (x := .ref (ad 7)) hE hK hP 0 (by decide) (yG_9 rfl) rfl hin9 17 (by decide) mw_1351 rfl dX9_count_72 ?_
      refine lv_iconst (v := 0) hE.1 hE.2.1 dX9_count_75 (by decide) ?_
      refine x_iald (j := 0) hE hK hP 7 (by decide) (yG_10 rfl) (by unfold vp_in; decide) dX9_count_76 ?_
      refine x_top (y := 0) (by decide) ?_
      exact x_wi (post := fun r _ => r = fCount 1) hE hr hlo hP hS rfl (show (0 : Int32) = fCount 1 from by decide) dX9_count_77
    · skip
      refine lv_tableIn (off := 70) (tgt := 78) hE.1 hE.2.1 dX9_count_8 (by decide) (by decide) (by decide) (by decide) ?_
      refine lv_aload_n hE.1 hE.2.1 dX9_count_78 rfl (lv_at hl 1 rfl) ?_
      refine x_get (x := .ref (ad 7)) hE hK hP 0 (by decide) (yG_9 rfl) rfl hin9 17 (by decide) mw_1351 rfl dX9_count_79 ?_
      refine lv_iconst (v := 1) hE.1 hE.2.1 dX9_count_82 (by decide) ?_
      refine x_iald (j := 1) hE hK hP 7 (by decide) (yG_10 rfl) (by unfold vp_in; decide) dX9_count_83 ?_
      refine x_top (y := 0) (by decide) ?_
      exact x_wi (post := fun r _ => r = fCount 2) hE hr hlo hP hS rfl (show (0 : Int32) = fCount 2 from by decide) dX9_count_84
    · skip
      refine lv_tableIn (off := 77) (tgt := 85) hE.1 hE.2.1 dX9_count_8 (by decide) (by decide) (by decide) (by decide) ?_
      refine lv_iconst (v := 0) hE.1 hE.2.1 dX9_count_85 (by decide) ?_
      refine lv_istore_n (lv' := [(3, .int 0), (2, .int 0), (0, .ref (ad 0)), (1, .int 3)]) hE.1 hE.2.1 dX9_count_86 rfl hl (by decide) rfl (fun ls hl => ?_)
      refine lv_iload_n hE.1 hE.2.1 dX9_count_87 rfl (lv_at hl 0 rfl) ?_
      refine lv_aload_n hE.1 hE.2.1 dX9_count_88 rfl (lv_at hl 2 rfl) ?_
      refine x_get (x := .ref (ad 7)) hE hK hP 0 (by decide) (yG_9 rfl) rfl hin9 17 (by decide) mw_1351 rfl dX9_count_89 ?_
      refine lv_iconst (v := 2) hE.1 hE.2.1 dX9_count_92 (by decide) ?_
      refine x_iald (j := 2) hE hK hP 7 (by decide) (yG_10 rfl) (by unfold vp_in; decide) dX9_count_93 ?_
      refine x_top (y := 0) (by decide) ?_
      refine lv_icmp_ge (tgt := 116) hE.1 hE.2.1 dX9_count_94 (by decide) (fun _ => ?_) (fun h => absurd (by decide) h)
      refine lv_iload_n hE.1 hE.2.1 dX9_count_116 rfl (lv_at hl 1 rfl) ?_
      exact x_wi (post := fun r _ => r = fCount 3) hE hr hlo hP hS rfl (show (0 : Int32) = fCount 3 from by decide) dX9_count_117
    · skip
      refine lv_tableIn (off := 110) (tgt := 118) hE.1 hE.2.1 dX9_count_8 (by decide) (by decide) (by decide) (by decide) ?_
      refine lv_iconst (v := 0) hE.1 hE.2.1 dX9_count_118 (by decide) ?_
      refine lv_istore_n (lv' := [(3, .int 0), (2, .int 0), (0, .ref (ad 0)), (1, .int 4)]) hE.1 hE.2.1 dX9_count_119 rfl hl (by decide) rfl (fun ls hl => ?_)
      refine lv_iload_n hE.1 hE.2.1 dX9_count_120 rfl (lv_at hl 0 rfl) ?_
      refine lv_aload_n hE.1 hE.2.1 dX9_count_121 rfl (lv_at hl 2 rfl) ?_
      refine x_get (x := .ref (ad 7)) hE hK hP 0 (by decide) (yG_9 rfl) rfl hin9 17 (by decide) mw_1351 rfl dX9_count_122 ?_
      refine lv_iconst (v := 2) hE.1 hE.2.1 dX9_count_125 (by decide) ?_
      refine x_iald (j := 2) hE hK hP 7 (by decide) (yG_10 rfl) (by unfold vp_in; decide) dX9_count_126 ?_
      refine x_top (y := 0) (by decide) ?_
      refine lv_icmp_ge (tgt := 149) hE.1 hE.2.1 dX9_count_127 (by decide) (fun _ => ?_) (fun h => absurd (by decide) h)
      refine lv_iload_n hE.1 hE.2.1 dX9_count_149 rfl (lv_at hl 1 rfl) ?_
      refine lv_iconst (v := 2) hE.1 hE.2.1 dX9_count_150 (by decide) ?_
      refine lv_idiv hE.1 hE.2.1 dX9_count_151 (by decide) ?_
      refine x_top (y := 0) (by decide) ?_
      exact x_wi (post := fun r _ => r = fCount 4) hE hr hlo hP hS rfl (show (0 : Int32) = fCount 4 from by decide) dX9_count_152
    · skip
      refine lv_tableIn (off := 145) (tgt := 153) hE.1 hE.2.1 dX9_count_8 (by decide) (by decide) (by decide) (by decide) ?_
      refine lv_aload_n hE.1 hE.2.1 dX9_count_153 rfl (lv_at hl 1 rfl) ?_
      refine x_get (x := .ref (ad 7)) hE hK hP 0 (by decide) (yG_9 rfl) rfl hin9 17 (by decide) mw_1351 rfl dX9_count_154 ?_
      refine lv_iconst (v := 3) hE.1 hE.2.1 dX9_count_157 (by decide) ?_
      refine x_iald (j := 3) hE hK hP 7 (by decide) (yG_10 rfl) (by unfold vp_in; decide) dX9_count_158 ?_
      refine x_top (y := 0) (by decide) ?_
      exact x_wi (post := fun r _ => r = fCount 5) hE hr hlo hP hS rfl (show (0 : Int32) = fCount 5 from by decide) dX9_count_159
    · skip
      refine lv_tableIn (off := 152) (tgt := 160) hE.1 hE.2.1 dX9_count_8 (by decide) (by decide) (by decide) (by decide) ?_
      refine lv_aload_n hE.1 hE.2.1 dX9_count_160 rfl (lv_at hl 1 rfl) ?_
      refine x_get (x := .ref (ad 6)) hE hK hP 0 (by decide) (yG_9 rfl) rfl hin9 16 (by decide) mw_1350 rfl dX9_count_161 ?_
      refine lv_iconst (v := 0) hE.1 hE.2.1 dX9_count_164 (by decide) ?_
      refine x_iald (j := 0) hE hK hP 6 (by decide) (yG_10 rfl) (by unfold vp_in; decide) dX9_count_165 ?_
      refine x_top (y := 0) (by decide) ?_
      exact x_wi (post := fun r _ => r = fCount 6) hE hr hlo hP hS rfl (show (0 : Int32) = fCount 6 from by decide) dX9_count_166
    · skip
      refine lv_tableIn (off := 159) (tgt := 167) hE.1 hE.2.1 dX9_count_8 (by decide) (by decide) (by decide) (by decide) ?_
      refine lv_aload_n hE.1 hE.2.1 dX9_count_167 rfl (lv_at hl 1 rfl) ?_
      refine x_get (x := .int 0) hE hK hP 0 (by decide) (yG_9 rfl) rfl hin9 6 (by decide) mw_1340 rfl dX9_count_168 ?_
      exact x_wi (post := fun r _ => r = fCount 7) hE hr hlo hP hS rfl (show (0 : Int32) = fCount 7 from by decide) dX9_count_171
    · skip
      refine lv_tableIn (off := 164) (tgt := 172) hE.1 hE.2.1 dX9_count_8 (by decide) (by decide) (by decide) (by decide) ?_
      refine lv_aload_n hE.1 hE.2.1 dX9_count_172 rfl (lv_at hl 1 rfl) ?_
      refine x_get (x := .ref (ad 7)) hE hK hP 0 (by decide) (yG_9 rfl) rfl hin9 17 (by decide) mw_1351 rfl dX9_count_173 ?_
      refine lv_iconst (v := 5) hE.1 hE.2.1 dX9_count_176 (by decide) ?_
      refine x_iald (j := 5) hE hK hP 7 (by decide) (yG_10 rfl) (by unfold vp_in; decide) dX9_count_177 ?_
      refine x_top (y := 0) (by decide) ?_
      exact x_wi (post := fun r _ => r = fCount 8) hE hr hlo hP hS rfl (show (0 : Int32) = fCount 8 from by decide) dX9_count_178
    · skip
      refine lv_tableIn (off := 171) (tgt := 179) hE.1 hE.2.1 dX9_count_8 (by decide) (by decide) (by decide) (by decide) ?_
      refine lv_iconst (v := 0) hE.1 hE.2.1 dX9_count_179 (by decide) ?_
      refine lv_istore_n (lv' := [(3, .int 0), (2, .int 0), (0, .ref (ad 0)), (1, .int 9)]) hE.1 hE.2.1 dX9_count_180 rfl hl (by decide) rfl (fun ls hl => ?_)
      refine lv_iload_n hE.1 hE.2.1 dX9_count_181 rfl (lv_at hl 0 rfl) ?_
      refine lv_iconst (v := 4) hE.1 hE.2.1 dX9_count_182 (by decide) ?_
      refine lv_icmp_ge (tgt := 210) hE.1 hE.2.1 dX9_count_183 (by decide) (fun h => absurd h (by decide)) (fun _ => ?_)
      refine lv_iload_n hE.1 hE.2.1 dX9_count_186 rfl (lv_at hl 1 rfl) ?_
      refine lv_aload_n hE.1 hE.2.1 dX9_count_187 rfl (lv_at hl 2 rfl) ?_
      refine x_get (x := .ref (ad 1)) hE hK hP 0 (by decide) (yG_9 rfl) rfl hin9 1 (by decide) mw_1335 rfl dX9_count_188 ?_
      refine lv_iload_n hE.1 hE.2.1 dX9_count_191 rfl (lv_at hl 0 rfl) ?_
      refine x_iald (j := 0) hE hK hP 1 (by decide) (yG_10 rfl) (by unfold vp_in; decide) dX9_count_192 ?_
      refine x_top (y := (-1)) (by decide) ?_
      refine lv_iconst (v := (-1)) hE.1 hE.2.1 dX9_count_193 (by decide) ?_
      refine lv_icmp_ne (tgt := 201) hE.1 hE.2.1 dX9_count_194 (by decide) (fun h => absurd (by decide) h) (fun _ => ?_)
      refine lv_iconst (v := 0) hE.1 hE.2.1 dX9_count_197 (by decide) ?_
      refine lv_goto (tgt := 202) hE.1 hE.2.1 dX9_count_198 (by decide) ?_
      refine lv_iadd hE.1 hE.2.1 dX9_count_202 ?_
      refine x_top (y := 0) (by decide) ?_
      refine lv_istore_n (lv' := [(2, .int 0), (3, .int 0), (0, .ref (ad 0)), (1, .int 9)]) hE.1 hE.2.1 dX9_count_203 rfl hl (by decide) rfl (fun ls hl => ?_)
      refine lv_iinc (v := 1) (lv' := [(3, .int 1), (2, .int 0), (0, .ref (ad 0)), (1, .int 9)]) hE.1 hE.2.1 dX9_count_204 hl (k := 1) rfl (by decide) (by decide) rfl (fun ls hl => ?_)
      refine lv_goto (tgt := 181) hE.1 hE.2.1 dX9_count_207 (by decide) ?_
      refine lv_iload_n hE.1 hE.2.1 dX9_count_181 rfl (lv_at hl 0 rfl) ?_
      refine lv_iconst (v := 4) hE.1 hE.2.1 dX9_count_182 (by decide) ?_
      refine lv_icmp_ge (tgt := 210) hE.1 hE.2.1 dX9_count_183 (by decide) (fun h => absurd h (by decide)) (fun _ => ?_)
      refine lv_iload_n hE.1 hE.2.1 dX9_count_186 rfl (lv_at hl 1 rfl) ?_
      refine lv_aload_n hE.1 hE.2.1 dX9_count_187 rfl (lv_at hl 2 rfl) ?_
      refine x_get (x := .ref (ad 1)) hE hK hP 0 (by decide) (yG_9 rfl) rfl hin9 1 (by decide) mw_1335 rfl dX9_count_188 ?_
      refine lv_iload_n hE.1 hE.2.1 dX9_count_191 rfl (lv_at hl 0 rfl) ?_
      refine x_iald (j := 1) hE hK hP 1 (by decide) (yG_10 rfl) (by unfold vp_in; decide) dX9_count_192 ?_
      refine x_top (y := (-1)) (by decide) ?_
      refine lv_iconst (v := (-1)) hE.1 hE.2.1 dX9_count_193 (by decide) ?_
      refine lv_icmp_ne (tgt := 201) hE.1 hE.2.1 dX9_count_194 (by decide) (fun h => absurd (by decide) h) (fun _ => ?_)
      refine lv_iconst (v := 0) hE.1 hE.2.1 dX9_count_197 (by decide) ?_
      refine lv_goto (tgt := 202) hE.1 hE.2.1 dX9_count_198 (by decide) ?_
      refine lv_iadd hE.1 hE.2.1 dX9_count_202 ?_
      refine x_top (y := 0) (by decide) ?_
      refine lv_istore_n (lv' := [(2, .int 0), (3, .int 1), (0, .ref (ad 0)), (1, .int 9)]) hE.1 hE.2.1 dX9_count_203 rfl hl (by decide) rfl (fun ls hl => ?_)
      refine lv_iinc (v := 2) (lv' := [(3, .int 2), (2, .int 0), (0, .ref (ad 0)), (1, .int 9)]) hE.1 hE.2.1 dX9_count_204 hl (k := 1) rfl (by decide) (by decide) rfl (fun ls hl => ?_)
      refine lv_goto (tgt := 181) hE.1 hE.2.1 dX9_count_207 (by decide) ?_
      refine lv_iload_n hE.1 hE.2.1 dX9_count_181 rfl (lv_at hl 0 rfl) ?_
      refine lv_iconst (v := 4) hE.1 hE.2.1 dX9_count_182 (by decide) ?_
      refine lv_icmp_ge (tgt := 210) hE.1 hE.2.1 dX9_count_183 (by decide) (fun h => absurd h (by decide)) (fun _ => ?_)
      refine lv_iload_n hE.1 hE.2.1 dX9_count_186 rfl (lv_at hl 1 rfl) ?_
      refine lv_aload_n hE.1 hE.2.1 dX9_count_187 rfl (lv_at hl 2 rfl) ?_
      refine x_get (x := .ref (ad 1)) hE hK hP 0 (by decide) (yG_9 rfl) rfl hin9 1 (by decide) mw_1335 rfl dX9_count_188 ?_
      refine lv_iload_n hE.1 hE.2.1 dX9_count_191 rfl (lv_at hl 0 rfl) ?_
      refine x_iald (j := 2) hE hK hP 1 (by decide) (yG_10 rfl) (by unfold vp_in; decide) dX9_count_192 ?_
      refine x_top (y := (-1)) (by decide) ?_
      refine lv_iconst (v := (-1)) hE.1 hE.2.1 dX9_count_193 (by decide) ?_
      refine lv_icmp_ne (tgt := 201) hE.1 hE.2.1 dX9_count_194 (by decide) (fun h => absurd (by decide) h) (fun _ => ?_)
      refine lv_iconst (v := 0) hE.1 hE.2.1 dX9_count_197 (by decide) ?_
      refine lv_goto (tgt := 202) hE.1 hE.2.1 dX9_count_198 (by decide) ?_
      refine lv_iadd hE.1 hE.2.1 dX9_count_202 ?_
      refine x_top (y := 0) (by decide) ?_
      refine lv_istore_n (lv' := [(2, .int 0), (3, .int 2), (0, .ref (ad 0)), (1, .int 9)]) hE.1 hE.2.1 dX9_count_203 rfl hl (by decide) rfl (fun ls hl => ?_)
      refine lv_iinc (v := 3) (lv' := [(3, .int 3), (2, .int 0), (0, .ref (ad 0)), (1, .int 9)]) hE.1 hE.2.1 dX9_count_204 hl (k := 1) rfl (by decide) (by decide) rfl (fun ls hl => ?_)
      refine lv_goto (tgt := 181) hE.1 hE.2.1 dX9_count_207 (by decide) ?_
      refine lv_iload_n hE.1 hE.2.1 dX9_count_181 rfl (lv_at hl 0 rfl) ?_
      refine lv_iconst (v := 4) hE.1 hE.2.1 dX9_count_182 (by decide) ?_
      refine lv_icmp_ge (tgt := 210) hE.1 hE.2.1 dX9_count_183 (by decide) (fun h => absurd h (by decide)) (fun _ => ?_)
      refine lv_iload_n hE.1 hE.2.1 dX9_count_186 rfl (lv_at hl 1 rfl) ?_
      refine lv_aload_n hE.1 hE.2.1 dX9_count_187 rfl (lv_at hl 2 rfl) ?_
      refine x_get (x := .ref (ad 1)) hE hK hP 0 (by decide) (yG_9 rfl) rfl hin9 1 (by decide) mw_1335 rfl dX9_count_188 ?_
      refine lv_iload_n hE.1 hE.2.1 dX9_count_191 rfl (lv_at hl 0 rfl) ?_
      refine x_iald (j := 3) hE hK hP 1 (by decide) (yG_10 rfl) (by unfold vp_in; decide) dX9_count_192 ?_
      refine x_top (y := (-1)) (by decide) ?_
      refine lv_iconst (v := (-1)) hE.1 hE.2.1 dX9_count_193 (by decide) ?_
      refine lv_icmp_ne (tgt := 201) hE.1 hE.2.1 dX9_count_194 (by decide) (fun h => absurd (by decide) h) (fun _ => ?_)
      refine lv_iconst (v := 0) hE.1 hE.2.1 dX9_count_197 (by decide) ?_
      refine lv_goto (tgt := 202) hE.1 hE.2.1 dX9_count_198 (by decide) ?_
      refine lv_iadd hE.1 hE.2.1 dX9_count_202 ?_
      refine x_top (y := 0) (by decide) ?_
      refine lv_istore_n (lv' := [(2, .int 0), (3, .int 3), (0, .ref (ad 0)), (1, .int 9)]) hE.1 hE.2.1 dX9_count_203 rfl hl (by decide) rfl (fun ls hl => ?_)
      refine lv_iinc (v := 4) (lv' := [(3, .int 4), (2, .int 0), (0, .ref (ad 0)), (1, .int 9)]) hE.1 hE.2.1 dX9_count_204 hl (k := 1) rfl (by decide) (by decide) rfl (fun ls hl => ?_)
      refine lv_goto (tgt := 181) hE.1 hE.2.1 dX9_count_207 (by decide) ?_
      refine lv_iload_n hE.1 hE.2.1 dX9_count_181 rfl (lv_at hl 0 rfl) ?_
      refine lv_iconst (v := 4) hE.1 hE.2.1 dX9_count_182 (by decide) ?_
      refine lv_icmp_ge (tgt := 210) hE.1 hE.2.1 dX9_count_183 (by decide) (fun _ => ?_) (fun h => absurd (by decide) h)
      refine lv_iload_n hE.1 hE.2.1 dX9_count_210 rfl (lv_at hl 1 rfl) ?_
      exact x_wi (post := fun r _ => r = fCount 9) hE hr hlo hP hS rfl (show (0 : Int32) = fCount 9 from by decide) dX9_count_211

theorem dX9_back_0 : decode cX9_back 0 = .ok (.aload_n 0, 1) := by decide +kernel
theorem dX9_back_1 : decode cX9_back 1 = .ok (.iconst 0, 1) := by decide +kernel
theorem dX9_back_2 : decode cX9_back 2 = .ok (.putfield 81, 3) := by decide +kernel
theorem dX9_back_5 : decode cX9_back 5 = .ok (.iload_n 1, 1) := by decide +kernel
theorem dX9_back_6 : decode cX9_back 6 = .ok (.i2l, 1) := by decide +kernel
theorem dX9_back_7 : decode cX9_back 7 = .ok (.lconst 0, 1) := by decide +kernel
theorem dX9_back_8 : decode cX9_back 8 = .ok (.ldc2_w 461, 3) := by decide +kernel
theorem dX9_back_11 : decode cX9_back 11 = .ok (.invokestatic 86, 3) := by decide +kernel
theorem dX9_back_14 : decode cX9_back 14 = .ok (.ifCond .ne 6, 3) := by decide +kernel
theorem dX9_back_17 : decode cX9_back 17 = .ok (.bipush (-2), 2) := by decide +kernel
theorem dX9_back_19 : decode cX9_back 19 = .ok (.ireturn, 1) := by decide +kernel
theorem dX9_back_20 : decode cX9_back 20 = .ok (.aload_n 0, 1) := by decide +kernel
theorem dX9_back_21 : decode cX9_back 21 = .ok (.getfield 46, 3) := by decide +kernel
theorem dX9_back_24 : decode cX9_back 24 = .ok (.iload_n 1, 1) := by decide +kernel
theorem dX9_back_25 : decode cX9_back 25 = .ok (.baload, 1) := by decide +kernel
theorem dX9_back_26 : decode cX9_back 26 = .ok (.ifCond .ne 6, 3) := by decide +kernel
theorem dX9_back_29 : decode cX9_back 29 = .ok (.bipush (-6), 2) := by decide +kernel
theorem dX9_back_31 : decode cX9_back 31 = .ok (.ireturn, 1) := by decide +kernel
set_option maxHeartbeats 4000000 in
set_option maxRecDepth 100000 in
theorem k_X9_back (l : Launch) (D : va_G) (K : Nat → ClassId) (ad : Nat → Nat) (p1 : Int32) : Met l yX9_back (wM yX9_back cX9_back 2 (some .int)) (rmD 1) (va_Pc [.ref (ad 0), .int p1] (wPre D K ad (yG ad K) 21 yv0 ya0 yl0)) (va_Qi (fun (r : Int32) (_ : sT) => r = fBack p1) (wB D ad (yG ad K) 21) (inW ad 21)) 0 0 (inW ad 21) := by
  refine x_met (by decide) (Nat.le_of_ble_eq_true rfl) ?_
  intro p e s m below meth c ls hE hr hlo hnm hB hl
  have hE : CallFix p m c cX9_back 2 s _ tbG "TaleCourtModel" := hE
  obtain ⟨hP, hK, hN⟩ := hB
  have hS : va_S (inW ad 21) s.heap s.heap [] := va_S.rf
  have hl : lv_has ls 2 [(0, .ref (ad 0)), (1, .int p1)] := hl
  refine lv_aload_n hE.1 hE.2.1 dX9_back_0 rfl (lv_at hl 0 rfl) ?_
  refine lv_iconst (v := 0) hE.1 hE.2.1 dX9_back_1 (by decide) ?_
  refine x_put hE hK hN hP hS 0 (by decide) (yG_9 rfl) rfl hin9 tyX9 tyX9_ok nmX9 0 (by decide) mw_1334 rfl rfl rfl (Nat.le_of_ble_eq_true rfl) (yG_9 rfl) dX9_back_2 (fun v_1 H locs hv_1 hP hS => ?_)
  rw [hv_1.trans (up_same rfl)] at hP
  refine lv_iload_n hE.1 hE.2.1 dX9_back_5 rfl (lv_at hl 1 rfl) ?_
  refine lv_i2l (v := (p1.toInt64)) hE.1 hE.2.1 dX9_back_6 rfl ?_
  refine lv_lconst (v := 0) hE.1 hE.2.1 dX9_back_7 (by decide) ?_
  refine lv_ldc2 (v := 2) hE.1 hE.2.1 hE.2.2.2.1 (hE.2.2.2.2 _ mw_2046) dX9_back_8 ?_
  refine x_sp (nn := 3) (As := [.long (p1.toInt64), .long 0, .long 2]) (rest := []) hE (k_X9_in l (p1.toInt64) 0 2) tt_blind (fun _ _ _ => trivial) rfl mw_1494 mw_1495 mw_123 mw_1496 (by decide +kernel) ⟨by decide, by decide⟩ hl.1 rfl (Nat.le_of_ble_eq_true rfl) ⟨Nat.zero_le _, Nat.zero_le _⟩ dX9_back_11 (fun r_2 hr_2 => ?_)
  subst hr_2
  refine x_top (y := imB p1) (inL_img p1) ?_
  refine lv_if_ne (tgt := 20) hE.1 hE.2.1 dX9_back_14 (by decide) (fun c_3 => ?_) (fun c_3 => ?_)
  · skip
    refine lv_aload_n hE.1 hE.2.1 dX9_back_20 rfl (lv_at hl 0 rfl) ?_
    refine x_get (x := .ref (ad 11)) hE hK hP 0 (by decide) (yG_9 rfl) rfl hin9 21 (by decide) mw_1355 rfl dX9_back_21 ?_
    refine lv_iload_n hE.1 hE.2.1 dX9_back_24 rfl (lv_at hl 1 rfl) ?_
    rcases imB_cases c_3 with rfl | rfl | rfl
    · skip
      refine x_zald (j := 0) hE hK hP 11 (by decide) (yG_15 rfl) (by unfold vp_in; decide) dX9_back_25 ?_
      refine x_top (y := 0) (by decide) ?_
      refine lv_if_ne (tgt := 32) hE.1 hE.2.1 dX9_back_26 (by decide) (fun h => absurd (by decide) h) (fun _ => ?_)
      refine lv_bipush (v := (-6)) hE.1 hE.2.1 dX9_back_29 (by decide) ?_
      exact x_wi (post := fun r _ => r = fBack 0) hE hr hlo hP hS rfl (show ((-6) : Int32) = fBack 0 from by decide) dX9_back_31
    · skip
      refine x_zald (j := 1) hE hK hP 11 (by decide) (yG_15 rfl) (by unfold vp_in; decide) dX9_back_25 ?_
      refine x_top (y := 0) (by decide) ?_
      refine lv_if_ne (tgt := 32) hE.1 hE.2.1 dX9_back_26 (by decide) (fun h => absurd (by decide) h) (fun _ => ?_)
      refine lv_bipush (v := (-6)) hE.1 hE.2.1 dX9_back_29 (by decide) ?_
      exact x_wi (post := fun r _ => r = fBack 1) hE hr hlo hP hS rfl (show ((-6) : Int32) = fBack 1 from by decide) dX9_back_31
    · skip
      refine x_zald (j := 2) hE hK hP 11 (by decide) (yG_15 rfl) (by unfold vp_in; decide) dX9_back_25 ?_
      refine x_top (y := 0) (by decide) ?_
      refine lv_if_ne (tgt := 32) hE.1 hE.2.1 dX9_back_26 (by decide) (fun h => absurd (by decide) h) (fun _ => ?_)
      refine lv_bipush (v := (-6)) hE.1 hE.2.1 dX9_back_29 (by decide) ?_
      exact x_wi (post := fun r _ => r = fBack 2) hE hr hlo hP hS rfl (show ((-6) : Int32) = fBack 2 from by decide) dX9_back_31
  · skip
    refine lv_bipush (v := (-2)) hE.1 hE.2.1 dX9_back_17 (by decide) ?_
    exact x_wi (post := fun r _ => r = fBack p1) hE hr hlo hP hS rfl (show ((-2) : Int32) = fBack p1 from (by unfold fBack; rw [if_pos c_3])) dX9_back_19

theorem dX9_write_0 : decode cX9_write 0 = .ok (.aload_n 0, 1) := by decide +kernel
theorem dX9_write_1 : decode cX9_write 1 = .ok (.iconst 0, 1) := by decide +kernel
theorem dX9_write_2 : decode cX9_write 2 = .ok (.putfield 81, 3) := by decide +kernel
theorem dX9_write_5 : decode cX9_write 5 = .ok (.iload_n 1, 1) := by decide +kernel
theorem dX9_write_6 : decode cX9_write 6 = .ok (.invokestatic 90, 3) := by decide +kernel
theorem dX9_write_9 : decode cX9_write 9 = .ok (.ifCond .ne 6, 3) := by decide +kernel
theorem dX9_write_12 : decode cX9_write 12 = .ok (.bipush (-2), 2) := by decide +kernel
theorem dX9_write_14 : decode cX9_write 14 = .ok (.ireturn, 1) := by decide +kernel
theorem dX9_write_15 : decode cX9_write 15 = .ok (.aload_n 0, 1) := by decide +kernel
theorem dX9_write_16 : decode cX9_write 16 = .ok (.getfield 7, 3) := by decide +kernel
theorem dX9_write_19 : decode cX9_write 19 = .ok (.iload_n 1, 1) := by decide +kernel
theorem dX9_write_20 : decode cX9_write 20 = .ok (.iaload, 1) := by decide +kernel
theorem dX9_write_21 : decode cX9_write 21 = .ok (.iconst (-1), 1) := by decide +kernel
theorem dX9_write_22 : decode cX9_write 22 = .ok (.if_icmp .ne 6, 3) := by decide +kernel
theorem dX9_write_25 : decode cX9_write 25 = .ok (.bipush (-6), 2) := by decide +kernel
theorem dX9_write_27 : decode cX9_write 27 = .ok (.ireturn, 1) := by decide +kernel
set_option maxHeartbeats 4000000 in
set_option maxRecDepth 100000 in
theorem k_X9_write (l : Launch) (D : va_G) (K : Nat → ClassId) (ad : Nat → Nat) (p1 : Int32) (p2 : Int32) (p3 : Int64) : Met l yX9_write (wM yX9_write cX9_write 5 (some .int)) (rmD 2) (va_Pc [.ref (ad 0), .int p1, .int p2, .long p3] (wPre D K ad (yG ad K) 21 yv0 ya0 yl0)) (va_Qi (fun (r : Int32) (_ : sT) => r = fWrite p1) (wB D ad (yG ad K) 21) (inW ad 21)) 0 0 (inW ad 21) := by
  refine x_met (by decide) (Nat.le_of_ble_eq_true rfl) ?_
  intro p e s m below meth c ls hE hr hlo hnm hB hl
  have hE : CallFix p m c cX9_write 5 s _ tbG "TaleCourtModel" := hE
  obtain ⟨hP, hK, hN⟩ := hB
  have hS : va_S (inW ad 21) s.heap s.heap [] := va_S.rf
  have hl : lv_has ls 5 [(0, .ref (ad 0)), (1, .int p1), (2, .int p2), (3, .long p3)] := hl
  refine lv_aload_n hE.1 hE.2.1 dX9_write_0 rfl (lv_at hl 0 rfl) ?_
  refine lv_iconst (v := 0) hE.1 hE.2.1 dX9_write_1 (by decide) ?_
  refine x_put hE hK hN hP hS 0 (by decide) (yG_9 rfl) rfl hin9 tyX9 tyX9_ok nmX9 0 (by decide) mw_1334 rfl rfl rfl (Nat.le_of_ble_eq_true rfl) (yG_9 rfl) dX9_write_2 (fun v_1 H locs hv_1 hP hS => ?_)
  rw [hv_1.trans (up_same rfl)] at hP
  refine lv_iload_n hE.1 hE.2.1 dX9_write_5 rfl (lv_at hl 1 rfl) ?_
  refine x_sp (nn := 1) (As := [.int p1]) (rest := []) hE (k_X9_isSlot l p1) tt_blind (fun _ _ _ => trivial) rfl mw_1490 mw_1491 mw_123 mw_1492 (by decide +kernel) ⟨by decide, by decide⟩ hl.1 rfl (Nat.le_of_ble_eq_true rfl) ⟨Nat.zero_le _, Nat.zero_le _⟩ dX9_write_6 (fun r_2 hr_2 => ?_)
  subst hr_2
  refine lv_if_ne (tgt := 15) hE.1 hE.2.1 dX9_write_9 (by decide) (fun c_3 => ?_) (fun c_3 => ?_)
  · skip
    refine lv_aload_n hE.1 hE.2.1 dX9_write_15 rfl (lv_at hl 0 rfl) ?_
    refine x_get (x := .ref (ad 1)) hE hK hP 0 (by decide) (yG_9 rfl) rfl hin9 1 (by decide) mw_1335 rfl dX9_write_16 ?_
    refine lv_iload_n hE.1 hE.2.1 dX9_write_19 rfl (lv_at hl 1 rfl) ?_
    rcases slB_cases c_3 with rfl | rfl | rfl | rfl
    · skip
      refine x_iald (j := 0) hE hK hP 1 (by decide) (yG_10 rfl) (by unfold vp_in; decide) dX9_write_20 ?_
      refine x_top (y := (-1)) (by decide) ?_
      refine lv_iconst (v := (-1)) hE.1 hE.2.1 dX9_write_21 (by decide) ?_
      refine lv_icmp_ne (tgt := 28) hE.1 hE.2.1 dX9_write_22 (by decide) (fun h => absurd (by decide) h) (fun _ => ?_)
      refine lv_bipush (v := (-6)) hE.1 hE.2.1 dX9_write_25 (by decide) ?_
      exact x_wi (post := fun r _ => r = fWrite 0) hE hr hlo hP hS rfl (show ((-6) : Int32) = fWrite 0 from by decide) dX9_write_27
    · skip
      refine x_iald (j := 1) hE hK hP 1 (by decide) (yG_10 rfl) (by unfold vp_in; decide) dX9_write_20 ?_
      refine x_top (y := (-1)) (by decide) ?_
      refine lv_iconst (v := (-1)) hE.1 hE.2.1 dX9_write_21 (by decide) ?_
      refine lv_icmp_ne (tgt := 28) hE.1 hE.2.1 dX9_write_22 (by decide) (fun h => absurd (by decide) h) (fun _ => ?_)
      refine lv_bipush (v := (-6)) hE.1 hE.2.1 dX9_write_25 (by decide) ?_
      exact x_wi (post := fun r _ => r = fWrite 1) hE hr hlo hP hS rfl (show ((-6) : Int32) = fWrite 1 from by decide) dX9_write_27
    · skip
      refine x_iald (j := 2) hE hK hP 1 (by decide) (yG_10 rfl) (by unfold vp_in; decide) dX9_write_20 ?_
      refine x_top (y := (-1)) (by decide) ?_
      refine lv_iconst (v := (-1)) hE.1 hE.2.1 dX9_write_21 (by decide) ?_
      refine lv_icmp_ne (tgt := 28) hE.1 hE.2.1 dX9_write_22 (by decide) (fun h => absurd (by decide) h) (fun _ => ?_)
      refine lv_bipush (v := (-6)) hE.1 hE.2.1 dX9_write_25 (by decide) ?_
      exact x_wi (post := fun r _ => r = fWrite 2) hE hr hlo hP hS rfl (show ((-6) : Int32) = fWrite 2 from by decide) dX9_write_27
    · skip
      refine x_iald (j := 3) hE hK hP 1 (by decide) (yG_10 rfl) (by unfold vp_in; decide) dX9_write_20 ?_
      refine x_top (y := (-1)) (by decide) ?_
      refine lv_iconst (v := (-1)) hE.1 hE.2.1 dX9_write_21 (by decide) ?_
      refine lv_icmp_ne (tgt := 28) hE.1 hE.2.1 dX9_write_22 (by decide) (fun h => absurd (by decide) h) (fun _ => ?_)
      refine lv_bipush (v := (-6)) hE.1 hE.2.1 dX9_write_25 (by decide) ?_
      exact x_wi (post := fun r _ => r = fWrite 3) hE hr hlo hP hS rfl (show ((-6) : Int32) = fWrite 3 from by decide) dX9_write_27
  · skip
    refine lv_bipush (v := (-2)) hE.1 hE.2.1 dX9_write_12 (by decide) ?_
    exact x_wi (post := fun r _ => r = fWrite p1) hE hr hlo hP hS rfl (show ((-2) : Int32) = fWrite p1 from (by unfold fWrite; rw [if_pos c_3])) dX9_write_14

theorem dX9_paste_0 : decode cX9_paste 0 = .ok (.aload_n 0, 1) := by decide +kernel
theorem dX9_paste_1 : decode cX9_paste 1 = .ok (.iconst 0, 1) := by decide +kernel
theorem dX9_paste_2 : decode cX9_paste 2 = .ok (.putfield 81, 3) := by decide +kernel
theorem dX9_paste_5 : decode cX9_paste 5 = .ok (.iload_n 1, 1) := by decide +kernel
theorem dX9_paste_6 : decode cX9_paste 6 = .ok (.invokestatic 90, 3) := by decide +kernel
theorem dX9_paste_9 : decode cX9_paste 9 = .ok (.ifCond .eq 10, 3) := by decide +kernel
theorem dX9_paste_12 : decode cX9_paste 12 = .ok (.iload_n 3, 1) := by decide +kernel
theorem dX9_paste_13 : decode cX9_paste 13 = .ok (.invokestatic 90, 3) := by decide +kernel
theorem dX9_paste_16 : decode cX9_paste 16 = .ok (.ifCond .ne 6, 3) := by decide +kernel
theorem dX9_paste_19 : decode cX9_paste 19 = .ok (.bipush (-2), 2) := by decide +kernel
theorem dX9_paste_21 : decode cX9_paste 21 = .ok (.ireturn, 1) := by decide +kernel
theorem dX9_paste_22 : decode cX9_paste 22 = .ok (.aload_n 0, 1) := by decide +kernel
theorem dX9_paste_23 : decode cX9_paste 23 = .ok (.getfield 7, 3) := by decide +kernel
theorem dX9_paste_26 : decode cX9_paste 26 = .ok (.iload_n 1, 1) := by decide +kernel
theorem dX9_paste_27 : decode cX9_paste 27 = .ok (.iaload, 1) := by decide +kernel
theorem dX9_paste_28 : decode cX9_paste 28 = .ok (.iconst (-1), 1) := by decide +kernel
theorem dX9_paste_29 : decode cX9_paste 29 = .ok (.if_icmp .eq 13, 3) := by decide +kernel
theorem dX9_paste_42 : decode cX9_paste 42 = .ok (.bipush (-6), 2) := by decide +kernel
theorem dX9_paste_44 : decode cX9_paste 44 = .ok (.ireturn, 1) := by decide +kernel
set_option maxHeartbeats 4000000 in
set_option maxRecDepth 100000 in
theorem k_X9_paste (l : Launch) (D : va_G) (K : Nat → ClassId) (ad : Nat → Nat) (p1 : Int32) (p2 : Int32) (p3 : Int32) (p4 : Int32) (p5 : Int32) : Met l yX9_paste (wM yX9_paste cX9_paste 7 (some .int)) (rmD 2) (va_Pc [.ref (ad 0), .int p1, .int p2, .int p3, .int p4, .int p5] (wPre D K ad (yG ad K) 21 yv0 ya0 yl0)) (va_Qi (fun (r : Int32) (_ : sT) => r = fPaste p1 p3) (wB D ad (yG ad K) 21) (inW ad 21)) 0 0 (inW ad 21) := by
  refine x_met (by decide) (Nat.le_of_ble_eq_true rfl) ?_
  intro p e s m below meth c ls hE hr hlo hnm hB hl
  have hE : CallFix p m c cX9_paste 7 s _ tbG "TaleCourtModel" := hE
  obtain ⟨hP, hK, hN⟩ := hB
  have hS : va_S (inW ad 21) s.heap s.heap [] := va_S.rf
  have hl : lv_has ls 7 [(0, .ref (ad 0)), (1, .int p1), (2, .int p2), (3, .int p3), (4, .int p4), (5, .int p5)] := hl
  refine lv_aload_n hE.1 hE.2.1 dX9_paste_0 rfl (lv_at hl 0 rfl) ?_
  refine lv_iconst (v := 0) hE.1 hE.2.1 dX9_paste_1 (by decide) ?_
  refine x_put hE hK hN hP hS 0 (by decide) (yG_9 rfl) rfl hin9 tyX9 tyX9_ok nmX9 0 (by decide) mw_1334 rfl rfl rfl (Nat.le_of_ble_eq_true rfl) (yG_9 rfl) dX9_paste_2 (fun v_1 H locs hv_1 hP hS => ?_)
  rw [hv_1.trans (up_same rfl)] at hP
  refine lv_iload_n hE.1 hE.2.1 dX9_paste_5 rfl (lv_at hl 1 rfl) ?_
  refine x_sp (nn := 1) (As := [.int p1]) (rest := []) hE (k_X9_isSlot l p1) tt_blind (fun _ _ _ => trivial) rfl mw_1490 mw_1491 mw_123 mw_1492 (by decide +kernel) ⟨by decide, by decide⟩ hl.1 rfl (Nat.le_of_ble_eq_true rfl) ⟨Nat.zero_le _, Nat.zero_le _⟩ dX9_paste_6 (fun r_2 hr_2 => ?_)
  subst hr_2
  refine lv_if_eq (tgt := 19) hE.1 hE.2.1 dX9_paste_9 (by decide) (fun c_3 => ?_) (fun c_3 => ?_)
  · skip
    refine lv_bipush (v := (-2)) hE.1 hE.2.1 dX9_paste_19 (by decide) ?_
    exact x_wi (post := fun r _ => r = fPaste p1 p3) hE hr hlo hP hS rfl (show ((-2) : Int32) = fPaste p1 p3 from (by unfold fPaste; rw [if_pos c_3])) dX9_paste_21
  · skip
    refine lv_iload_n hE.1 hE.2.1 dX9_paste_12 rfl (lv_at hl 3 rfl) ?_
    refine x_sp (nn := 1) (As := [.int p3]) (rest := []) hE (k_X9_isSlot l p3) tt_blind (fun _ _ _ => trivial) rfl mw_1490 mw_1491 mw_123 mw_1492 (by decide +kernel) ⟨by decide, by decide⟩ hl.1 rfl (Nat.le_of_ble_eq_true rfl) ⟨Nat.zero_le _, Nat.zero_le _⟩ dX9_paste_13 (fun r_4 hr_4 => ?_)
    subst hr_4
    refine lv_if_ne (tgt := 22) hE.1 hE.2.1 dX9_paste_16 (by decide) (fun c_5 => ?_) (fun c_5 => ?_)
    · skip
      refine lv_aload_n hE.1 hE.2.1 dX9_paste_22 rfl (lv_at hl 0 rfl) ?_
      refine x_get (x := .ref (ad 1)) hE hK hP 0 (by decide) (yG_9 rfl) rfl hin9 1 (by decide) mw_1335 rfl dX9_paste_23 ?_
      refine lv_iload_n hE.1 hE.2.1 dX9_paste_26 rfl (lv_at hl 1 rfl) ?_
      rcases slB_cases c_3 with rfl | rfl | rfl | rfl
      · skip
        refine x_iald (j := 0) hE hK hP 1 (by decide) (yG_10 rfl) (by unfold vp_in; decide) dX9_paste_27 ?_
        refine x_top (y := (-1)) (by decide) ?_
        refine lv_iconst (v := (-1)) hE.1 hE.2.1 dX9_paste_28 (by decide) ?_
        refine lv_icmp_eq (tgt := 42) hE.1 hE.2.1 dX9_paste_29 (by decide) (fun _ => ?_) (fun h => absurd (by decide) h)
        refine lv_bipush (v := (-6)) hE.1 hE.2.1 dX9_paste_42 (by decide) ?_
        exact x_wi (post := fun r _ => r = fPaste 0 p3) hE hr hlo hP hS rfl (show ((-6) : Int32) = fPaste 0 p3 from (by unfold fPaste; rw [if_neg (by decide), if_neg c_5])) dX9_paste_44
      · skip
        refine x_iald (j := 1) hE hK hP 1 (by decide) (yG_10 rfl) (by unfold vp_in; decide) dX9_paste_27 ?_
        refine x_top (y := (-1)) (by decide) ?_
        refine lv_iconst (v := (-1)) hE.1 hE.2.1 dX9_paste_28 (by decide) ?_
        refine lv_icmp_eq (tgt := 42) hE.1 hE.2.1 dX9_paste_29 (by decide) (fun _ => ?_) (fun h => absurd (by decide) h)
        refine lv_bipush (v := (-6)) hE.1 hE.2.1 dX9_paste_42 (by decide) ?_
        exact x_wi (post := fun r _ => r = fPaste 1 p3) hE hr hlo hP hS rfl (show ((-6) : Int32) = fPaste 1 p3 from (by unfold fPaste; rw [if_neg (by decide), if_neg c_5])) dX9_paste_44
      · skip
        refine x_iald (j := 2) hE hK hP 1 (by decide) (yG_10 rfl) (by unfold vp_in; decide) dX9_paste_27 ?_
        refine x_top (y := (-1)) (by decide) ?_
        refine lv_iconst (v := (-1)) hE.1 hE.2.1 dX9_paste_28 (by decide) ?_
        refine lv_icmp_eq (tgt := 42) hE.1 hE.2.1 dX9_paste_29 (by decide) (fun _ => ?_) (fun h => absurd (by decide) h)
        refine lv_bipush (v := (-6)) hE.1 hE.2.1 dX9_paste_42 (by decide) ?_
        exact x_wi (post := fun r _ => r = fPaste 2 p3) hE hr hlo hP hS rfl (show ((-6) : Int32) = fPaste 2 p3 from (by unfold fPaste; rw [if_neg (by decide), if_neg c_5])) dX9_paste_44
      · skip
        refine x_iald (j := 3) hE hK hP 1 (by decide) (yG_10 rfl) (by unfold vp_in; decide) dX9_paste_27 ?_
        refine x_top (y := (-1)) (by decide) ?_
        refine lv_iconst (v := (-1)) hE.1 hE.2.1 dX9_paste_28 (by decide) ?_
        refine lv_icmp_eq (tgt := 42) hE.1 hE.2.1 dX9_paste_29 (by decide) (fun _ => ?_) (fun h => absurd (by decide) h)
        refine lv_bipush (v := (-6)) hE.1 hE.2.1 dX9_paste_42 (by decide) ?_
        exact x_wi (post := fun r _ => r = fPaste 3 p3) hE hr hlo hP hS rfl (show ((-6) : Int32) = fPaste 3 p3 from (by unfold fPaste; rw [if_neg (by decide), if_neg c_5])) dX9_paste_44
    · skip
      refine lv_bipush (v := (-2)) hE.1 hE.2.1 dX9_paste_19 (by decide) ?_
      exact x_wi (post := fun r _ => r = fPaste p1 p3) hE hr hlo hP hS rfl (show ((-2) : Int32) = fPaste p1 p3 from (by unfold fPaste; rw [if_neg c_3, if_pos c_5])) dX9_paste_21

theorem dX9_row_0 : decode cX9_row 0 = .ok (.aload_n 0, 1) := by decide +kernel
theorem dX9_row_1 : decode cX9_row 1 = .ok (.iconst 0, 1) := by decide +kernel
theorem dX9_row_2 : decode cX9_row 2 = .ok (.putfield 81, 3) := by decide +kernel
theorem dX9_row_5 : decode cX9_row 5 = .ok (.iload_n 1, 1) := by decide +kernel
theorem dX9_row_6 : decode cX9_row 6 = .ok (.invokestatic 90, 3) := by decide +kernel
theorem dX9_row_9 : decode cX9_row 9 = .ok (.ifCond .eq 21, 3) := by decide +kernel
theorem dX9_row_12 : decode cX9_row 12 = .ok (.iload_n 2, 1) := by decide +kernel
theorem dX9_row_13 : decode cX9_row 13 = .ok (.i2l, 1) := by decide +kernel
theorem dX9_row_14 : decode cX9_row 14 = .ok (.lconst 0, 1) := by decide +kernel
theorem dX9_row_15 : decode cX9_row 15 = .ok (.ldc2_w 84, 3) := by decide +kernel
theorem dX9_row_18 : decode cX9_row 18 = .ok (.invokestatic 86, 3) := by decide +kernel
theorem dX9_row_21 : decode cX9_row 21 = .ok (.ifCond .eq 9, 3) := by decide +kernel
theorem dX9_row_24 : decode cX9_row 24 = .ok (.iload_n 3, 1) := by decide +kernel
theorem dX9_row_25 : decode cX9_row 25 = .ok (.bipush 60, 2) := by decide +kernel
theorem dX9_row_27 : decode cX9_row 27 = .ok (.if_icmp .le 6, 3) := by decide +kernel
theorem dX9_row_30 : decode cX9_row 30 = .ok (.bipush (-2), 2) := by decide +kernel
theorem dX9_row_32 : decode cX9_row 32 = .ok (.ireturn, 1) := by decide +kernel
theorem dX9_row_33 : decode cX9_row 33 = .ok (.iload_n 3, 1) := by decide +kernel
theorem dX9_row_34 : decode cX9_row 34 = .ok (.ifCond .ge 6, 3) := by decide +kernel
theorem dX9_row_37 : decode cX9_row 37 = .ok (.bipush (-3), 2) := by decide +kernel
theorem dX9_row_39 : decode cX9_row 39 = .ok (.ireturn, 1) := by decide +kernel
set_option maxHeartbeats 4000000 in
set_option maxRecDepth 100000 in
theorem k_X9_row (l : Launch) (D : va_G) (K : Nat → ClassId) (ad : Nat → Nat) (p1 : Int32) (p2 : Int32) (p3 : Int32) : Met l yX9_row (wM yX9_row cX9_row 5 (some .int)) (rmD 2) (va_Pc [.ref (ad 0), .int p1, .int p2, .int p3] (wPre D K ad (yG ad K) 21 yv0 ya0 yl0)) (va_Qi (fun (r : Int32) (_ : sT) => r = fRow p1 p2 p3) (wB D ad (yG ad K) 21) (inW ad 21)) 0 0 (inW ad 21) := by
  refine x_met (by decide) (Nat.le_of_ble_eq_true rfl) ?_
  intro p e s m below meth c ls hE hr hlo hnm hB hl
  have hE : CallFix p m c cX9_row 5 s _ tbG "TaleCourtModel" := hE
  obtain ⟨hP, hK, hN⟩ := hB
  have hS : va_S (inW ad 21) s.heap s.heap [] := va_S.rf
  have hl : lv_has ls 5 [(0, .ref (ad 0)), (1, .int p1), (2, .int p2), (3, .int p3)] := hl
  refine lv_aload_n hE.1 hE.2.1 dX9_row_0 rfl (lv_at hl 0 rfl) ?_
  refine lv_iconst (v := 0) hE.1 hE.2.1 dX9_row_1 (by decide) ?_
  refine x_put hE hK hN hP hS 0 (by decide) (yG_9 rfl) rfl hin9 tyX9 tyX9_ok nmX9 0 (by decide) mw_1334 rfl rfl rfl (Nat.le_of_ble_eq_true rfl) (yG_9 rfl) dX9_row_2 (fun v_1 H locs hv_1 hP hS => ?_)
  rw [hv_1.trans (up_same rfl)] at hP
  refine lv_iload_n hE.1 hE.2.1 dX9_row_5 rfl (lv_at hl 1 rfl) ?_
  refine x_sp (nn := 1) (As := [.int p1]) (rest := []) hE (k_X9_isSlot l p1) tt_blind (fun _ _ _ => trivial) rfl mw_1490 mw_1491 mw_123 mw_1492 (by decide +kernel) ⟨by decide, by decide⟩ hl.1 rfl (Nat.le_of_ble_eq_true rfl) ⟨Nat.zero_le _, Nat.zero_le _⟩ dX9_row_6 (fun r_2 hr_2 => ?_)
  subst hr_2
  refine lv_if_eq (tgt := 30) hE.1 hE.2.1 dX9_row_9 (by decide) (fun c_3 => ?_) (fun c_3 => ?_)
  · skip
    refine lv_bipush (v := (-2)) hE.1 hE.2.1 dX9_row_30 (by decide) ?_
    exact x_wi (post := fun r _ => r = fRow p1 p2 p3) hE hr hlo hP hS rfl (show ((-2) : Int32) = fRow p1 p2 p3 from (by unfold fRow; rw [if_pos c_3])) dX9_row_32
  · skip
    refine lv_iload_n hE.1 hE.2.1 dX9_row_12 rfl (lv_at hl 2 rfl) ?_
    refine lv_i2l (v := (p2.toInt64)) hE.1 hE.2.1 dX9_row_13 rfl ?_
    refine lv_lconst (v := 0) hE.1 hE.2.1 dX9_row_14 (by decide) ?_
    refine lv_ldc2 (v := 3) hE.1 hE.2.1 hE.2.2.2.1 (hE.2.2.2.2 _ mw_1493) dX9_row_15 ?_
    refine x_sp (nn := 3) (As := [.long (p2.toInt64), .long 0, .long 3]) (rest := []) hE (k_X9_in l (p2.toInt64) 0 3) tt_blind (fun _ _ _ => trivial) rfl mw_1494 mw_1495 mw_123 mw_1496 (by decide +kernel) ⟨by decide, by decide⟩ hl.1 rfl (Nat.le_of_ble_eq_true rfl) ⟨Nat.zero_le _, Nat.zero_le _⟩ dX9_row_18 (fun r_4 hr_4 => ?_)
    subst hr_4
    refine x_top (y := slB p2) (inL_slot p2) ?_
    refine lv_if_eq (tgt := 30) hE.1 hE.2.1 dX9_row_21 (by decide) (fun c_5 => ?_) (fun c_5 => ?_)
    · skip
      refine lv_bipush (v := (-2)) hE.1 hE.2.1 dX9_row_30 (by decide) ?_
      exact x_wi (post := fun r _ => r = fRow p1 p2 p3) hE hr hlo hP hS rfl (show ((-2) : Int32) = fRow p1 p2 p3 from (by unfold fRow; rw [if_neg c_3, if_pos c_5])) dX9_row_32
    · skip
      refine lv_iload_n hE.1 hE.2.1 dX9_row_24 rfl (lv_at hl 3 rfl) ?_
      refine lv_bipush (v := 60) hE.1 hE.2.1 dX9_row_25 (by decide) ?_
      refine lv_icmp_le (tgt := 33) hE.1 hE.2.1 dX9_row_27 (by decide) (fun c_6 => ?_) (fun c_6 => ?_)
      · skip
        refine lv_iload_n hE.1 hE.2.1 dX9_row_33 rfl (lv_at hl 3 rfl) ?_
        refine lv_if_ge (tgt := 40) hE.1 hE.2.1 dX9_row_34 (by decide) (fun c_7 => ?_) (fun c_7 => ?_)
        · skip
          have hz0 : (0 : Int32) = fRow p1 p2 p3 := (by unfold fRow; rw [if_neg c_3, if_neg c_5, if_pos c_6, if_neg (k2_nlt c_7)])
          obtain ⟨c9, hc9, rfl⟩ := slB_of c_3
          obtain ⟨n9, hn9, rfl⟩ := nI_of2 (M := 60) (n := 60) (by decide) (k2_nlt c_7) c_6
          exact y_rowtail hE hr hlo hK hN hP hS c9 n9 hc9 hn9 p2 (fun _ => hz0) hl
        · skip
          refine lv_bipush (v := (-3)) hE.1 hE.2.1 dX9_row_37 (by decide) ?_
          exact x_wi (post := fun r _ => r = fRow p1 p2 p3) hE hr hlo hP hS rfl (show ((-3) : Int32) = fRow p1 p2 p3 from (by unfold fRow; rw [if_neg c_3, if_neg c_5, if_pos c_6, if_pos (k2_lt c_7)])) dX9_row_39
      · skip
        refine lv_bipush (v := (-2)) hE.1 hE.2.1 dX9_row_30 (by decide) ?_
        exact x_wi (post := fun r _ => r = fRow p1 p2 p3) hE hr hlo hP hS rfl (show ((-2) : Int32) = fRow p1 p2 p3 from (by unfold fRow; rw [if_neg c_3, if_neg c_5, if_neg c_6])) dX9_row_32

theorem dX9_clears_0 : decode cX9_clears 0 = .ok (.aload_n 0, 1) := by decide +kernel
theorem dX9_clears_1 : decode cX9_clears 1 = .ok (.getfield 31, 3) := by decide +kernel
theorem dX9_clears_4 : decode cX9_clears 4 = .ok (.iconst 4, 1) := by decide +kernel
theorem dX9_clears_5 : decode cX9_clears 5 = .ok (.iconst 0, 1) := by decide +kernel
theorem dX9_clears_6 : decode cX9_clears 6 = .ok (.iastore, 1) := by decide +kernel
theorem dX9_clears_7 : decode cX9_clears 7 = .ok (.iconst 0, 1) := by decide +kernel
theorem dX9_clears_8 : decode cX9_clears 8 = .ok (.istore_n 1, 1) := by decide +kernel
theorem dX9_clears_9 : decode cX9_clears 9 = .ok (.iload_n 1, 1) := by decide +kernel
theorem dX9_clears_10 : decode cX9_clears 10 = .ok (.bipush 6, 2) := by decide +kernel
theorem dX9_clears_12 : decode cX9_clears 12 = .ok (.if_icmp .ge 19, 3) := by decide +kernel
theorem dX9_clears_15 : decode cX9_clears 15 = .ok (.aload_n 0, 1) := by decide +kernel
theorem dX9_clears_16 : decode cX9_clears 16 = .ok (.getfield 34, 3) := by decide +kernel
theorem dX9_clears_19 : decode cX9_clears 19 = .ok (.bipush 24, 2) := by decide +kernel
theorem dX9_clears_21 : decode cX9_clears 21 = .ok (.iload_n 1, 1) := by decide +kernel
theorem dX9_clears_22 : decode cX9_clears 22 = .ok (.iadd, 1) := by decide +kernel
theorem dX9_clears_23 : decode cX9_clears 23 = .ok (.iconst 0, 1) := by decide +kernel
theorem dX9_clears_24 : decode cX9_clears 24 = .ok (.iastore, 1) := by decide +kernel
theorem dX9_clears_25 : decode cX9_clears 25 = .ok (.iinc 1 1, 3) := by decide +kernel
theorem dX9_clears_28 : decode cX9_clears 28 = .ok (.goto (-19), 3) := by decide +kernel
theorem dX9_clears_31 : decode cX9_clears 31 = .ok (.return_, 1) := by decide +kernel
set_option maxHeartbeats 4000000 in
set_option maxRecDepth 100000 in
theorem k_X9_clears (l : Launch) (D : va_G) (K : Nat → ClassId) (ad : Nat → Nat) (v ar : sI) (al : sL) (hz_6 : ar 6 = fun _ => 0) (hz_7 : ar 7 = fun _ => 0) : Met l yX9_clears (wM yX9_clears cX9_clears 2 none) (rmD 0) (va_Pc [.ref (ad 0)] (wPre D K ad (yG ad K) 21 v ar al)) (va_Qv (fun u : sT => (∀ i j : Nat, (i, j) ∉ ([] : List (Nat × Nat)) → u.1 i j = v i j) ∧ u.2.1 = ar ∧ u.2.2 = al) (wB D ad (yG ad K) 21) (inW ad 21)) 0 0 (inW ad 21) := by
  refine x_met (by decide) (Nat.le_of_ble_eq_true rfl) ?_
  intro p e s m below meth c ls hE hr hlo hnm hB hl
  have hE : CallFix p m c cX9_clears 2 s _ tbG "TaleCourtModel" := hE
  obtain ⟨hP, hK, hN⟩ := hB
  have hS : va_S (inW ad 21) s.heap s.heap [] := va_S.rf
  have hl : lv_has ls 2 [(0, .ref (ad 0))] := hl
  refine lv_aload_n hE.1 hE.2.1 dX9_clears_0 rfl (lv_at hl 0 rfl) ?_
  refine x_get (x := .ref (ad 6)) hE hK hP 0 (by decide) (yG_9 rfl) rfl hin9 16 (by decide) mw_1350 rfl dX9_clears_1 ?_
  refine lv_iconst (v := 4) hE.1 hE.2.1 dX9_clears_4 (by decide) ?_
  refine lv_iconst (v := 0) hE.1 hE.2.1 dX9_clears_5 (by decide) ?_
  refine x_iast (j := 4) hE hK hN hP hS 6 (by decide) (fun _ => yG_10 rfl) (by unfold vp_in; decide) dX9_clears_6 (fun ar_1 H locs har_1 hP hS => ?_)
  rw [har_1.trans (up_same (congrFun hz_6 _))] at hP
  refine lv_iconst (v := 0) hE.1 hE.2.1 dX9_clears_7 (by decide) ?_
  refine lv_istore_n (lv' := [(1, .int 0), (0, .ref (ad 0))]) hE.1 hE.2.1 dX9_clears_8 rfl hl (by decide) rfl (fun ls hl => ?_)
  refine lv_iload_n hE.1 hE.2.1 dX9_clears_9 rfl (lv_at hl 0 rfl) ?_
  refine lv_bipush (v := 6) hE.1 hE.2.1 dX9_clears_10 (by decide) ?_
  refine lv_icmp_ge (tgt := 31) hE.1 hE.2.1 dX9_clears_12 (by decide) (fun h => absurd h (by decide)) (fun _ => ?_)
  refine lv_aload_n hE.1 hE.2.1 dX9_clears_15 rfl (lv_at hl 1 rfl) ?_
  refine x_get (x := .ref (ad 7)) hE hK hP 0 (by decide) (yG_9 rfl) rfl hin9 17 (by decide) mw_1351 rfl dX9_clears_16 ?_
  refine lv_bipush (v := 24) hE.1 hE.2.1 dX9_clears_19 (by decide) ?_
  refine lv_iload_n hE.1 hE.2.1 dX9_clears_21 rfl (lv_at hl 0 rfl) ?_
  refine lv_iadd hE.1 hE.2.1 dX9_clears_22 ?_
  refine x_top (y := 24) (by decide) ?_
  refine lv_iconst (v := 0) hE.1 hE.2.1 dX9_clears_23 (by decide) ?_
  refine x_iast (j := 24) hE hK hN hP hS 7 (by decide) (fun _ => yG_10 rfl) (by unfold vp_in; decide) dX9_clears_24 (fun ar_2 H locs har_2 hP hS => ?_)
  rw [har_2.trans (up_same (congrFun hz_7 _))] at hP
  refine lv_iinc (v := 1) (lv' := [(1, .int 1), (0, .ref (ad 0))]) hE.1 hE.2.1 dX9_clears_25 hl (k := 0) rfl (by decide) (by decide) rfl (fun ls hl => ?_)
  refine lv_goto (tgt := 9) hE.1 hE.2.1 dX9_clears_28 (by decide) ?_
  refine lv_iload_n hE.1 hE.2.1 dX9_clears_9 rfl (lv_at hl 0 rfl) ?_
  refine lv_bipush (v := 6) hE.1 hE.2.1 dX9_clears_10 (by decide) ?_
  refine lv_icmp_ge (tgt := 31) hE.1 hE.2.1 dX9_clears_12 (by decide) (fun h => absurd h (by decide)) (fun _ => ?_)
  refine lv_aload_n hE.1 hE.2.1 dX9_clears_15 rfl (lv_at hl 1 rfl) ?_
  refine x_get (x := .ref (ad 7)) hE hK hP 0 (by decide) (yG_9 rfl) rfl hin9 17 (by decide) mw_1351 rfl dX9_clears_16 ?_
  refine lv_bipush (v := 24) hE.1 hE.2.1 dX9_clears_19 (by decide) ?_
  refine lv_iload_n hE.1 hE.2.1 dX9_clears_21 rfl (lv_at hl 0 rfl) ?_
  refine lv_iadd hE.1 hE.2.1 dX9_clears_22 ?_
  refine x_top (y := 25) (by decide) ?_
  refine lv_iconst (v := 0) hE.1 hE.2.1 dX9_clears_23 (by decide) ?_
  refine x_iast (j := 25) hE hK hN hP hS 7 (by decide) (fun _ => yG_10 rfl) (by unfold vp_in; decide) dX9_clears_24 (fun ar_3 H locs har_3 hP hS => ?_)
  rw [har_3.trans (up_same (congrFun hz_7 _))] at hP
  refine lv_iinc (v := 2) (lv' := [(1, .int 2), (0, .ref (ad 0))]) hE.1 hE.2.1 dX9_clears_25 hl (k := 0) rfl (by decide) (by decide) rfl (fun ls hl => ?_)
  refine lv_goto (tgt := 9) hE.1 hE.2.1 dX9_clears_28 (by decide) ?_
  refine lv_iload_n hE.1 hE.2.1 dX9_clears_9 rfl (lv_at hl 0 rfl) ?_
  refine lv_bipush (v := 6) hE.1 hE.2.1 dX9_clears_10 (by decide) ?_
  refine lv_icmp_ge (tgt := 31) hE.1 hE.2.1 dX9_clears_12 (by decide) (fun h => absurd h (by decide)) (fun _ => ?_)
  refine lv_aload_n hE.1 hE.2.1 dX9_clears_15 rfl (lv_at hl 1 rfl) ?_
  refine x_get (x := .ref (ad 7)) hE hK hP 0 (by decide) (yG_9 rfl) rfl hin9 17 (by decide) mw_1351 rfl dX9_clears_16 ?_
  refine lv_bipush (v := 24) hE.1 hE.2.1 dX9_clears_19 (by decide) ?_
  refine lv_iload_n hE.1 hE.2.1 dX9_clears_21 rfl (lv_at hl 0 rfl) ?_
  refine lv_iadd hE.1 hE.2.1 dX9_clears_22 ?_
  refine x_top (y := 26) (by decide) ?_
  refine lv_iconst (v := 0) hE.1 hE.2.1 dX9_clears_23 (by decide) ?_
  refine x_iast (j := 26) hE hK hN hP hS 7 (by decide) (fun _ => yG_10 rfl) (by unfold vp_in; decide) dX9_clears_24 (fun ar_4 H locs har_4 hP hS => ?_)
  rw [har_4.trans (up_same (congrFun hz_7 _))] at hP
  refine lv_iinc (v := 3) (lv' := [(1, .int 3), (0, .ref (ad 0))]) hE.1 hE.2.1 dX9_clears_25 hl (k := 0) rfl (by decide) (by decide) rfl (fun ls hl => ?_)
  refine lv_goto (tgt := 9) hE.1 hE.2.1 dX9_clears_28 (by decide) ?_
  refine lv_iload_n hE.1 hE.2.1 dX9_clears_9 rfl (lv_at hl 0 rfl) ?_
  refine lv_bipush (v := 6) hE.1 hE.2.1 dX9_clears_10 (by decide) ?_
  refine lv_icmp_ge (tgt := 31) hE.1 hE.2.1 dX9_clears_12 (by decide) (fun h => absurd h (by decide)) (fun _ => ?_)
  refine lv_aload_n hE.1 hE.2.1 dX9_clears_15 rfl (lv_at hl 1 rfl) ?_
  refine x_get (x := .ref (ad 7)) hE hK hP 0 (by decide) (yG_9 rfl) rfl hin9 17 (by decide) mw_1351 rfl dX9_clears_16 ?_
  refine lv_bipush (v := 24) hE.1 hE.2.1 dX9_clears_19 (by decide) ?_
  refine lv_iload_n hE.1 hE.2.1 dX9_clears_21 rfl (lv_at hl 0 rfl) ?_
  refine lv_iadd hE.1 hE.2.1 dX9_clears_22 ?_
  refine x_top (y := 27) (by decide) ?_
  refine lv_iconst (v := 0) hE.1 hE.2.1 dX9_clears_23 (by decide) ?_
  refine x_iast (j := 27) hE hK hN hP hS 7 (by decide) (fun _ => yG_10 rfl) (by unfold vp_in; decide) dX9_clears_24 (fun ar_5 H locs har_5 hP hS => ?_)
  rw [har_5.trans (up_same (congrFun hz_7 _))] at hP
  refine lv_iinc (v := 4) (lv' := [(1, .int 4), (0, .ref (ad 0))]) hE.1 hE.2.1 dX9_clears_25 hl (k := 0) rfl (by decide) (by decide) rfl (fun ls hl => ?_)
  refine lv_goto (tgt := 9) hE.1 hE.2.1 dX9_clears_28 (by decide) ?_
  refine lv_iload_n hE.1 hE.2.1 dX9_clears_9 rfl (lv_at hl 0 rfl) ?_
  refine lv_bipush (v := 6) hE.1 hE.2.1 dX9_clears_10 (by decide) ?_
  refine lv_icmp_ge (tgt := 31) hE.1 hE.2.1 dX9_clears_12 (by decide) (fun h => absurd h (by decide)) (fun _ => ?_)
  refine lv_aload_n hE.1 hE.2.1 dX9_clears_15 rfl (lv_at hl 1 rfl) ?_
  refine x_get (x := .ref (ad 7)) hE hK hP 0 (by decide) (yG_9 rfl) rfl hin9 17 (by decide) mw_1351 rfl dX9_clears_16 ?_
  refine lv_bipush (v := 24) hE.1 hE.2.1 dX9_clears_19 (by decide) ?_
  refine lv_iload_n hE.1 hE.2.1 dX9_clears_21 rfl (lv_at hl 0 rfl) ?_
  refine lv_iadd hE.1 hE.2.1 dX9_clears_22 ?_
  refine x_top (y := 28) (by decide) ?_
  refine lv_iconst (v := 0) hE.1 hE.2.1 dX9_clears_23 (by decide) ?_
  refine x_iast (j := 28) hE hK hN hP hS 7 (by decide) (fun _ => yG_10 rfl) (by unfold vp_in; decide) dX9_clears_24 (fun ar_6 H locs har_6 hP hS => ?_)
  rw [har_6.trans (up_same (congrFun hz_7 _))] at hP
  refine lv_iinc (v := 5) (lv' := [(1, .int 5), (0, .ref (ad 0))]) hE.1 hE.2.1 dX9_clears_25 hl (k := 0) rfl (by decide) (by decide) rfl (fun ls hl => ?_)
  refine lv_goto (tgt := 9) hE.1 hE.2.1 dX9_clears_28 (by decide) ?_
  refine lv_iload_n hE.1 hE.2.1 dX9_clears_9 rfl (lv_at hl 0 rfl) ?_
  refine lv_bipush (v := 6) hE.1 hE.2.1 dX9_clears_10 (by decide) ?_
  refine lv_icmp_ge (tgt := 31) hE.1 hE.2.1 dX9_clears_12 (by decide) (fun h => absurd h (by decide)) (fun _ => ?_)
  refine lv_aload_n hE.1 hE.2.1 dX9_clears_15 rfl (lv_at hl 1 rfl) ?_
  refine x_get (x := .ref (ad 7)) hE hK hP 0 (by decide) (yG_9 rfl) rfl hin9 17 (by decide) mw_1351 rfl dX9_clears_16 ?_
  refine lv_bipush (v := 24) hE.1 hE.2.1 dX9_clears_19 (by decide) ?_
  refine lv_iload_n hE.1 hE.2.1 dX9_clears_21 rfl (lv_at hl 0 rfl) ?_
  refine lv_iadd hE.1 hE.2.1 dX9_clears_22 ?_
  refine x_top (y := 29) (by decide) ?_
  refine lv_iconst (v := 0) hE.1 hE.2.1 dX9_clears_23 (by decide) ?_
  refine x_iast (j := 29) hE hK hN hP hS 7 (by decide) (fun _ => yG_10 rfl) (by unfold vp_in; decide) dX9_clears_24 (fun ar_7 H locs har_7 hP hS => ?_)
  rw [har_7.trans (up_same (congrFun hz_7 _))] at hP
  refine lv_iinc (v := 6) (lv' := [(1, .int 6), (0, .ref (ad 0))]) hE.1 hE.2.1 dX9_clears_25 hl (k := 0) rfl (by decide) (by decide) rfl (fun ls hl => ?_)
  refine lv_goto (tgt := 9) hE.1 hE.2.1 dX9_clears_28 (by decide) ?_
  refine lv_iload_n hE.1 hE.2.1 dX9_clears_9 rfl (lv_at hl 0 rfl) ?_
  refine lv_bipush (v := 6) hE.1 hE.2.1 dX9_clears_10 (by decide) ?_
  refine lv_icmp_ge (tgt := 31) hE.1 hE.2.1 dX9_clears_12 (by decide) (fun _ => ?_) (fun h => absurd (by decide) h)
  exact x_wv hE hr hlo hP hS ⟨fun i j h => rfl, rfl, rfl⟩ dX9_clears_31

theorem dX9_isByte_0 : decode cX9_isByte 0 = .ok (.iload_n 1, 1) := by decide +kernel
theorem dX9_isByte_1 : decode cX9_isByte 1 = .ok (.aload_n 0, 1) := by decide +kernel
theorem dX9_isByte_2 : decode cX9_isByte 2 = .ok (.getfield 98, 3) := by decide +kernel
theorem dX9_isByte_5 : decode cX9_isByte 5 = .ok (.if_icmp .ge 27, 3) := by decide +kernel
theorem dX9_isByte_32 : decode cX9_isByte 32 = .ok (.iconst 0, 1) := by decide +kernel
theorem dX9_isByte_33 : decode cX9_isByte 33 = .ok (.ireturn, 1) := by decide +kernel
set_option maxHeartbeats 4000000 in
set_option maxRecDepth 100000 in
theorem k_X9_isByte_e (l : Launch) (D : va_G) (K : Nat → ClassId) (ad : Nat → Nat) (v ar : sI) (al : sL) (h_0_6 : v 0 6 = 0) (p2 : Int32) (p3 : Int32) : Met l yX9_isByte (wM yX9_isByte cX9_isByte 4 (some .boolean)) (rmD 0) (va_Pc [.ref (ad 0), .int 0, .int p2, .int p3] (wPre D K ad (yG ad K) 21 v ar al)) (vp_Si (fun r => r = 0)) 0 0 (fun _ => False) := by
  refine x_met (by decide) (Nat.le_of_ble_eq_true rfl) ?_
  intro p e s m below meth c ls hE hr hlo hnm hB hl
  have hE : CallFix p m c cX9_isByte 4 s _ tbG "TaleCourtModel" := hE
  obtain ⟨hP, hK, hN⟩ := hB
  have hS : va_S (inW ad 21) s.heap s.heap [] := va_S.rf
  have hl : lv_has ls 4 [(0, .ref (ad 0)), (1, .int 0), (2, .int p2), (3, .int p3)] := hl
  refine lv_iload_n hE.1 hE.2.1 dX9_isByte_0 rfl (lv_at hl 1 rfl) ?_
  refine lv_aload_n hE.1 hE.2.1 dX9_isByte_1 rfl (lv_at hl 0 rfl) ?_
  refine x_get (x := .int (v 0 6)) hE hK hP 0 (by decide) (yG_9 rfl) rfl hin9 6 (by decide) mw_1340 rfl dX9_isByte_2 ?_
  refine x_top (y := 0) h_0_6 ?_
  refine lv_icmp_ge (tgt := 32) hE.1 hE.2.1 dX9_isByte_5 (by decide) (fun _ => ?_) (fun h => absurd (by decide) h)
  refine lv_iconst (v := 0) hE.1 hE.2.1 dX9_isByte_32 (by decide) ?_
  exact x_ri (post := fun r => r = 0) hE hr hlo rfl rfl dX9_isByte_33

theorem dX9_next_0 : decode cX9_next 0 = .ok (.aload_n 0, 1) := by decide +kernel
theorem dX9_next_1 : decode cX9_next 1 = .ok (.aload_n 0, 1) := by decide +kernel
theorem dX9_next_2 : decode cX9_next 2 = .ok (.getfield 105, 3) := by decide +kernel
theorem dX9_next_5 : decode cX9_next 5 = .ok (.bipush 32, 2) := by decide +kernel
theorem dX9_next_7 : decode cX9_next 7 = .ok (.bipush 32, 2) := by decide +kernel
theorem dX9_next_9 : decode cX9_next 9 = .ok (.invokevirtual 108, 3) := by decide +kernel
theorem dX9_next_12 : decode cX9_next 12 = .ok (.ifCond .ne 18, 3) := by decide +kernel
theorem dX9_next_15 : decode cX9_next 15 = .ok (.aload_n 0, 1) := by decide +kernel
theorem dX9_next_16 : decode cX9_next 16 = .ok (.aload_n 0, 1) := by decide +kernel
theorem dX9_next_17 : decode cX9_next 17 = .ok (.getfield 105, 3) := by decide +kernel
theorem dX9_next_20 : decode cX9_next 20 = .ok (.bipush 10, 2) := by decide +kernel
theorem dX9_next_22 : decode cX9_next 22 = .ok (.bipush 10, 2) := by decide +kernel
theorem dX9_next_24 : decode cX9_next 24 = .ok (.invokevirtual 108, 3) := by decide +kernel
theorem dX9_next_27 : decode cX9_next 27 = .ok (.ifCond .eq 16, 3) := by decide +kernel
theorem dX9_next_43 : decode cX9_next 43 = .ok (.aload_n 0, 1) := by decide +kernel
theorem dX9_next_44 : decode cX9_next 44 = .ok (.aload_n 0, 1) := by decide +kernel
theorem dX9_next_45 : decode cX9_next 45 = .ok (.getfield 105, 3) := by decide +kernel
theorem dX9_next_48 : decode cX9_next 48 = .ok (.putfield 112, 3) := by decide +kernel
theorem dX9_next_51 : decode cX9_next 51 = .ok (.aload_n 0, 1) := by decide +kernel
theorem dX9_next_52 : decode cX9_next 52 = .ok (.iconst 0, 1) := by decide +kernel
theorem dX9_next_53 : decode cX9_next 53 = .ok (.putfield 115, 3) := by decide +kernel
theorem dX9_next_56 : decode cX9_next 56 = .ok (.aload_n 0, 1) := by decide +kernel
theorem dX9_next_57 : decode cX9_next 57 = .ok (.lconst 0, 1) := by decide +kernel
theorem dX9_next_58 : decode cX9_next 58 = .ok (.putfield 118, 3) := by decide +kernel
theorem dX9_next_61 : decode cX9_next 61 = .ok (.aload_n 0, 1) := by decide +kernel
theorem dX9_next_62 : decode cX9_next 62 = .ok (.getfield 105, 3) := by decide +kernel
theorem dX9_next_65 : decode cX9_next 65 = .ok (.aload_n 0, 1) := by decide +kernel
theorem dX9_next_66 : decode cX9_next 66 = .ok (.getfield 98, 3) := by decide +kernel
theorem dX9_next_69 : decode cX9_next 69 = .ok (.if_icmp .ne 11, 3) := by decide +kernel
theorem dX9_next_72 : decode cX9_next 72 = .ok (.aload_n 0, 1) := by decide +kernel
theorem dX9_next_73 : decode cX9_next 73 = .ok (.iconst 0, 1) := by decide +kernel
theorem dX9_next_74 : decode cX9_next 74 = .ok (.putfield 122, 3) := by decide +kernel
theorem dX9_next_77 : decode cX9_next 77 = .ok (.goto 230, 3) := by decide +kernel
theorem dX9_next_307 : decode cX9_next 307 = .ok (.return_, 1) := by decide +kernel
set_option maxHeartbeats 4000000 in
set_option maxRecDepth 100000 in
theorem k_X9_next_e (l : Launch) (D : va_G) (K : Nat → ClassId) (ad : Nat → Nat) (v ar : sI) (al : sL) (h_0_6 : v 0 6 = 0) (h_0_7 : v 0 7 = 0) (hzl_0 : al 0 0 = 0) : Met l yX9_next (wM yX9_next cX9_next 2 none) (rmD 1) (va_Pc [.ref (ad 0)] (wPre D K ad (yG ad K) 21 v ar al)) (va_Qv (fun u : sT => (∀ i j : Nat, (i, j) ∉ ([(0, 8), (0, 9), (0, 10)] : List (Nat × Nat)) → u.1 i j = v i j) ∧ u.1 0 8 = 0 ∧ u.2.1 = ar ∧ u.2.2 = al) (wB D ad (yG ad K) 21) (inW ad 21)) 0 0 (inW ad 21) := by
  refine x_met (by decide) (Nat.le_of_ble_eq_true rfl) ?_
  intro p e s m below meth c ls hE hr hlo hnm hB hl
  have hE : CallFix p m c cX9_next 2 s _ tbG "TaleCourtModel" := hE
  obtain ⟨hP, hK, hN⟩ := hB
  have hS : va_S (inW ad 21) s.heap s.heap [] := va_S.rf
  have hl : lv_has ls 2 [(0, .ref (ad 0))] := hl
  refine lv_aload_n hE.1 hE.2.1 dX9_next_0 rfl (lv_at hl 0 rfl) ?_
  refine lv_aload_n hE.1 hE.2.1 dX9_next_1 rfl (lv_at hl 0 rfl) ?_
  refine x_get (x := .int (v 0 7)) hE hK hP 0 (by decide) (yG_9 rfl) rfl hin9 7 (by decide) mw_1341 rfl dX9_next_2 ?_
  refine x_top (y := 0) h_0_7 ?_
  refine lv_bipush (v := 32) hE.1 hE.2.1 dX9_next_5 (by decide) ?_
  refine lv_bipush (v := 32) hE.1 hE.2.1 dX9_next_7 (by decide) ?_
  refine x_vp (nn := 3) (As := [.int 0, .int 32, .int 32]) (rest := []) hE (k_X9_isByte_e l D K ad v ar al h_0_6 32 32) wPre_blind (wPre_now hK hN hP) (x_recv hK hP 0 (by decide) (yG_9 rfl) rfl) rfl mw_1540 mw_1542 mw_51 mw_123 mw_1543 (by decide +kernel) ⟨by decide, by decide⟩ hl.1 rfl (Nat.le_of_ble_eq_true rfl) ⟨Nat.zero_le _, Nat.zero_le _⟩ dX9_next_9 (fun r_1 hr_1 => ?_)
  subst hr_1
  refine lv_if_ne (tgt := 30) hE.1 hE.2.1 dX9_next_12 (by decide) (fun h => absurd (by decide) h) (fun _ => ?_)
  refine lv_aload_n hE.1 hE.2.1 dX9_next_15 rfl (lv_at hl 0 rfl) ?_
  refine lv_aload_n hE.1 hE.2.1 dX9_next_16 rfl (lv_at hl 0 rfl) ?_
  refine x_get (x := .int (v 0 7)) hE hK hP 0 (by decide) (yG_9 rfl) rfl hin9 7 (by decide) mw_1341 rfl dX9_next_17 ?_
  refine x_top (y := 0) h_0_7 ?_
  refine lv_bipush (v := 10) hE.1 hE.2.1 dX9_next_20 (by decide) ?_
  refine lv_bipush (v := 10) hE.1 hE.2.1 dX9_next_22 (by decide) ?_
  refine x_vp (nn := 3) (As := [.int 0, .int 10, .int 10]) (rest := []) hE (k_X9_isByte_e l D K ad v ar al h_0_6 10 10) wPre_blind (wPre_now hK hN hP) (x_recv hK hP 0 (by decide) (yG_9 rfl) rfl) rfl mw_1540 mw_1542 mw_51 mw_123 mw_1543 (by decide +kernel) ⟨by decide, by decide⟩ hl.1 rfl (Nat.le_of_ble_eq_true rfl) ⟨Nat.zero_le _, Nat.zero_le _⟩ dX9_next_24 (fun r_2 hr_2 => ?_)
  subst hr_2
  refine lv_if_eq (tgt := 43) hE.1 hE.2.1 dX9_next_27 (by decide) (fun _ => ?_) (fun h => absurd (by decide) h)
  refine lv_aload_n hE.1 hE.2.1 dX9_next_43 rfl (lv_at hl 0 rfl) ?_
  refine lv_aload_n hE.1 hE.2.1 dX9_next_44 rfl (lv_at hl 0 rfl) ?_
  refine x_get (x := .int (v 0 7)) hE hK hP 0 (by decide) (yG_9 rfl) rfl hin9 7 (by decide) mw_1341 rfl dX9_next_45 ?_
  refine x_top (y := 0) h_0_7 ?_
  refine x_put hE hK hN hP hS 0 (by decide) (yG_9 rfl) rfl hin9 tyX9 tyX9_ok nmX9 9 (by decide) mw_1343 rfl rfl rfl (Nat.le_of_ble_eq_true rfl) (yG_9 rfl) dX9_next_48 (fun v_3 H locs hv_3 hP hS => ?_)
  refine lv_aload_n hE.1 hE.2.1 dX9_next_51 rfl (lv_at hl 0 rfl) ?_
  refine lv_iconst (v := 0) hE.1 hE.2.1 dX9_next_52 (by decide) ?_
  refine x_put hE hK hN hP hS 0 (by decide) (yG_9 rfl) rfl hin9 tyX9 tyX9_ok nmX9 10 (by decide) mw_1344 rfl rfl rfl (Nat.le_of_ble_eq_true rfl) (yG_9 rfl) dX9_next_53 (fun v_4 H locs hv_4 hP hS => ?_)
  refine lv_aload_n hE.1 hE.2.1 dX9_next_56 rfl (lv_at hl 0 rfl) ?_
  refine lv_lconst (v := 0) hE.1 hE.2.1 dX9_next_57 (by decide) ?_
  refine x_putl hE hK hN hP hS 0 (by decide) (yG_9 rfl) rfl hin9 tyX9 tyX9_ok nmX9 11 (by decide) mw_1345 rfl rfl rfl (Nat.le_of_ble_eq_true rfl) (yG_9 rfl) dX9_next_58 (fun al_5 H locs hv_5 hP hS => ?_)
  rw [hv_5.trans (upl_same hzl_0)] at hP
  refine lv_aload_n hE.1 hE.2.1 dX9_next_61 rfl (lv_at hl 0 rfl) ?_
  refine x_get (x := .int (v_4 0 7)) hE hK hP 0 (by decide) (yG_9 rfl) rfl hin9 7 (by decide) mw_1341 rfl dX9_next_62 ?_
  refine x_top (y := 0) ((up_oth hv_4 (by decide)).trans ((up_oth hv_3 (by decide)).trans h_0_7)) ?_
  refine lv_aload_n hE.1 hE.2.1 dX9_next_65 rfl (lv_at hl 0 rfl) ?_
  refine x_get (x := .int (v_4 0 6)) hE hK hP 0 (by decide) (yG_9 rfl) rfl hin9 6 (by decide) mw_1340 rfl dX9_next_66 ?_
  refine x_top (y := 0) ((up_oth hv_4 (by decide)).trans ((up_oth hv_3 (by decide)).trans h_0_6)) ?_
  refine lv_icmp_ne (tgt := 80) hE.1 hE.2.1 dX9_next_69 (by decide) (fun h => absurd (by decide) h) (fun _ => ?_)
  refine lv_aload_n hE.1 hE.2.1 dX9_next_72 rfl (lv_at hl 0 rfl) ?_
  refine lv_iconst (v := 0) hE.1 hE.2.1 dX9_next_73 (by decide) ?_
  refine x_put hE hK hN hP hS 0 (by decide) (yG_9 rfl) rfl hin9 tyX9 tyX9_ok nmX9 8 (by decide) mw_1342 rfl rfl rfl (Nat.le_of_ble_eq_true rfl) (yG_9 rfl) dX9_next_74 (fun v_6 H locs hv_6 hP hS => ?_)
  refine lv_goto (tgt := 307) hE.1 hE.2.1 dX9_next_77 (by decide) ?_
  exact x_wv hE hr hlo hP hS ⟨fun i j h => ((up_oth hv_6 (fun q => h (by rcases q with ⟨rfl, rfl⟩; decide))).trans ((up_oth hv_4 (fun q => h (by rcases q with ⟨rfl, rfl⟩; decide))).trans (up_oth hv_3 (fun q => h (by rcases q with ⟨rfl, rfl⟩; decide))))), (up_eq hv_6), rfl, rfl⟩ dX9_next_307

theorem dX9_begins_0 : decode cX9_begins 0 = .ok (.aload_n 0, 1) := by decide +kernel
theorem dX9_begins_1 : decode cX9_begins 1 = .ok (.iconst 0, 1) := by decide +kernel
theorem dX9_begins_2 : decode cX9_begins 2 = .ok (.putfield 133, 3) := by decide +kernel
theorem dX9_begins_5 : decode cX9_begins 5 = .ok (.aload_n 0, 1) := by decide +kernel
theorem dX9_begins_6 : decode cX9_begins 6 = .ok (.iconst (-1), 1) := by decide +kernel
theorem dX9_begins_7 : decode cX9_begins 7 = .ok (.putfield 136, 3) := by decide +kernel
theorem dX9_begins_10 : decode cX9_begins 10 = .ok (.aload_n 0, 1) := by decide +kernel
theorem dX9_begins_11 : decode cX9_begins 11 = .ok (.iconst 0, 1) := by decide +kernel
theorem dX9_begins_12 : decode cX9_begins 12 = .ok (.putfield 105, 3) := by decide +kernel
theorem dX9_begins_15 : decode cX9_begins 15 = .ok (.aload_n 0, 1) := by decide +kernel
theorem dX9_begins_16 : decode cX9_begins 16 = .ok (.invokevirtual 143, 3) := by decide +kernel
theorem dX9_begins_19 : decode cX9_begins 19 = .ok (.return_, 1) := by decide +kernel
set_option maxHeartbeats 4000000 in
set_option maxRecDepth 100000 in
theorem k_X9_begins_e (l : Launch) (D : va_G) (K : Nat → ClassId) (ad : Nat → Nat) (v ar : sI) (al : sL) (h_0_6 : v 0 6 = 0) (hzl_0 : al 0 0 = 0) : Met l yX9_begins (wM yX9_begins cX9_begins 1 none) (rmD 2) (va_Pc [.ref (ad 0)] (wPre D K ad (yG ad K) 21 v ar al)) (va_Qv (fun u : sT => (∀ i j : Nat, (i, j) ∉ ([(0, 8), (0, 9), (0, 10), (0, 7), (0, 12), (0, 13)] : List (Nat × Nat)) → u.1 i j = v i j) ∧ u.1 0 8 = 0 ∧ u.1 0 12 = 0 ∧ u.2.1 = ar ∧ u.2.2 = al) (wB D ad (yG ad K) 21) (inW ad 21)) 0 0 (inW ad 21) := by
  refine x_met (by decide) (Nat.le_of_ble_eq_true rfl) ?_
  intro p e s m below meth c ls hE hr hlo hnm hB hl
  have hE : CallFix p m c cX9_begins 1 s _ tbG "TaleCourtModel" := hE
  obtain ⟨hP, hK, hN⟩ := hB
  have hS : va_S (inW ad 21) s.heap s.heap [] := va_S.rf
  have hl : lv_has ls 1 [(0, .ref (ad 0))] := hl
  refine lv_aload_n hE.1 hE.2.1 dX9_begins_0 rfl (lv_at hl 0 rfl) ?_
  refine lv_iconst (v := 0) hE.1 hE.2.1 dX9_begins_1 (by decide) ?_
  refine x_put hE hK hN hP hS 0 (by decide) (yG_9 rfl) rfl hin9 tyX9 tyX9_ok nmX9 12 (by decide) mw_1346 rfl rfl rfl (Nat.le_of_ble_eq_true rfl) (yG_9 rfl) dX9_begins_2 (fun v_1 H locs hv_1 hP hS => ?_)
  refine lv_aload_n hE.1 hE.2.1 dX9_begins_5 rfl (lv_at hl 0 rfl) ?_
  refine lv_iconst (v := (-1)) hE.1 hE.2.1 dX9_begins_6 (by decide) ?_
  refine x_put hE hK hN hP hS 0 (by decide) (yG_9 rfl) rfl hin9 tyX9 tyX9_ok nmX9 13 (by decide) mw_1347 rfl rfl rfl (Nat.le_of_ble_eq_true rfl) (yG_9 rfl) dX9_begins_7 (fun v_2 H locs hv_2 hP hS => ?_)
  refine lv_aload_n hE.1 hE.2.1 dX9_begins_10 rfl (lv_at hl 0 rfl) ?_
  refine lv_iconst (v := 0) hE.1 hE.2.1 dX9_begins_11 (by decide) ?_
  refine x_put hE hK hN hP hS 0 (by decide) (yG_9 rfl) rfl hin9 tyX9 tyX9_ok nmX9 7 (by decide) mw_1341 rfl rfl rfl (Nat.le_of_ble_eq_true rfl) (yG_9 rfl) dX9_begins_12 (fun v_3 H locs hv_3 hP hS => ?_)
  refine lv_aload_n hE.1 hE.2.1 dX9_begins_15 rfl (lv_at hl 0 rfl) ?_
  refine x_vv (nn := 0) (As := []) (rest := []) hE hK hN hP hS (k_X9_next_e l D K ad v_3 ar al ((up_oth hv_3 (by decide)).trans ((up_oth hv_2 (by decide)).trans ((up_oth hv_1 (by decide)).trans h_0_6))) (up_eq hv_3) hzl_0 ) (x_recv hK hP 0 (by decide) (yG_9 rfl) rfl) rfl mw_1536 mw_1538 mw_50 mw_123 mw_1539 (by decide +kernel) ⟨by decide, by decide⟩ hl.1 rfl (Nat.le_of_ble_eq_true rfl) ⟨Nat.zero_le _, Nat.zero_le _⟩ dX9_begins_16 (fun v_4 ar_4 al_4 H locs hq_4 hP hS => ?_)
  rw [show ar_4 = ar from hq_4.2.2.1, show al_4 = al from hq_4.2.2.2] at hP
  exact x_wv hE hr hlo hP hS ⟨fun i j h => ((hq_4.1 i j (fun q => h (mem_sub (by decide) q))).trans ((up_oth hv_3 (fun q => h (by rcases q with ⟨rfl, rfl⟩; decide))).trans ((up_oth hv_2 (fun q => h (by rcases q with ⟨rfl, rfl⟩; decide))).trans (up_oth hv_1 (fun q => h (by rcases q with ⟨rfl, rfl⟩; decide)))))), hq_4.2.1, ((hq_4.1 0 12 (by decide)).trans ((up_oth hv_3 (by decide)).trans ((up_oth hv_2 (by decide)).trans (up_eq hv_1)))), rfl, rfl⟩ dX9_begins_19

theorem dX9_isGood_0 : decode cX9_isGood 0 = .ok (.aload_n 0, 1) := by decide +kernel
theorem dX9_isGood_1 : decode cX9_isGood 1 = .ok (.getfield 133, 3) := by decide +kernel
theorem dX9_isGood_4 : decode cX9_isGood 4 = .ok (.ifCond .ne 7, 3) := by decide +kernel
theorem dX9_isGood_7 : decode cX9_isGood 7 = .ok (.iconst 1, 1) := by decide +kernel
theorem dX9_isGood_8 : decode cX9_isGood 8 = .ok (.goto 4, 3) := by decide +kernel
theorem dX9_isGood_12 : decode cX9_isGood 12 = .ok (.ireturn, 1) := by decide +kernel
set_option maxHeartbeats 4000000 in
set_option maxRecDepth 100000 in
theorem k_X9_isGood_1 (l : Launch) (D : va_G) (K : Nat → ClassId) (ad : Nat → Nat) (v ar : sI) (al : sL) (h_0_12 : v 0 12 = 0) : Met l yX9_isGood (wM yX9_isGood cX9_isGood 1 (some .boolean)) (rmD 0) (va_Pc [.ref (ad 0)] (wPre D K ad (yG ad K) 21 v ar al)) (vp_Si (fun r => r = 1)) 0 0 (fun _ => False) := by
  refine x_met (by decide) (Nat.le_of_ble_eq_true rfl) ?_
  intro p e s m below meth c ls hE hr hlo hnm hB hl
  have hE : CallFix p m c cX9_isGood 1 s _ tbG "TaleCourtModel" := hE
  obtain ⟨hP, hK, hN⟩ := hB
  have hS : va_S (inW ad 21) s.heap s.heap [] := va_S.rf
  have hl : lv_has ls 1 [(0, .ref (ad 0))] := hl
  refine lv_aload_n hE.1 hE.2.1 dX9_isGood_0 rfl (lv_at hl 0 rfl) ?_
  refine x_get (x := .int (v 0 12)) hE hK hP 0 (by decide) (yG_9 rfl) rfl hin9 12 (by decide) mw_1346 rfl dX9_isGood_1 ?_
  refine x_top (y := 0) h_0_12 ?_
  refine lv_if_ne (tgt := 11) hE.1 hE.2.1 dX9_isGood_4 (by decide) (fun h => absurd (by decide) h) (fun _ => ?_)
  refine lv_iconst (v := 1) hE.1 hE.2.1 dX9_isGood_7 (by decide) ?_
  refine lv_goto (tgt := 12) hE.1 hE.2.1 dX9_isGood_8 (by decide) ?_
  exact x_ri (post := fun r => r = 1) hE hr hlo rfl rfl dX9_isGood_12

theorem dX9_isOver_0 : decode cX9_isOver 0 = .ok (.aload_n 0, 1) := by decide +kernel
theorem dX9_isOver_1 : decode cX9_isOver 1 = .ok (.iconst 0, 1) := by decide +kernel
theorem dX9_isOver_2 : decode cX9_isOver 2 = .ok (.putfield 98, 3) := by decide +kernel
theorem dX9_isOver_5 : decode cX9_isOver 5 = .ok (.aload_n 0, 1) := by decide +kernel
theorem dX9_isOver_6 : decode cX9_isOver 6 = .ok (.aload_n 0, 1) := by decide +kernel
theorem dX9_isOver_7 : decode cX9_isOver 7 = .ok (.getfield 133, 3) := by decide +kernel
theorem dX9_isOver_10 : decode cX9_isOver 10 = .ok (.putfield 160, 3) := by decide +kernel
theorem dX9_isOver_13 : decode cX9_isOver 13 = .ok (.aload_n 0, 1) := by decide +kernel
theorem dX9_isOver_14 : decode cX9_isOver 14 = .ok (.aload_n 0, 1) := by decide +kernel
theorem dX9_isOver_15 : decode cX9_isOver 15 = .ok (.getfield 133, 3) := by decide +kernel
theorem dX9_isOver_18 : decode cX9_isOver 18 = .ok (.ifCond .ne 7, 3) := by decide +kernel
theorem dX9_isOver_21 : decode cX9_isOver 21 = .ok (.iconst (-1), 1) := by decide +kernel
theorem dX9_isOver_22 : decode cX9_isOver 22 = .ok (.goto 7, 3) := by decide +kernel
theorem dX9_isOver_29 : decode cX9_isOver 29 = .ok (.putfield 27, 3) := by decide +kernel
theorem dX9_isOver_32 : decode cX9_isOver 32 = .ok (.return_, 1) := by decide +kernel
set_option maxHeartbeats 4000000 in
set_option maxRecDepth 100000 in
theorem k_X9_isOver_e (l : Launch) (D : va_G) (K : Nat → ClassId) (ad : Nat → Nat) (v ar : sI) (al : sL) (h_0_12 : v 0 12 = 0) : Met l yX9_isOver (wM yX9_isOver cX9_isOver 1 none) (rmD 0) (va_Pc [.ref (ad 0)] (wPre D K ad (yG ad K) 21 v ar al)) (va_Qv (fun u : sT => (∀ i j : Nat, (i, j) ∉ ([(0, 6), (0, 14), (0, 15)] : List (Nat × Nat)) → u.1 i j = v i j) ∧ u.2.1 = ar ∧ u.2.2 = al) (wB D ad (yG ad K) 21) (inW ad 21)) 0 0 (inW ad 21) := by
  refine x_met (by decide) (Nat.le_of_ble_eq_true rfl) ?_
  intro p e s m below meth c ls hE hr hlo hnm hB hl
  have hE : CallFix p m c cX9_isOver 1 s _ tbG "TaleCourtModel" := hE
  obtain ⟨hP, hK, hN⟩ := hB
  have hS : va_S (inW ad 21) s.heap s.heap [] := va_S.rf
  have hl : lv_has ls 1 [(0, .ref (ad 0))] := hl
  refine lv_aload_n hE.1 hE.2.1 dX9_isOver_0 rfl (lv_at hl 0 rfl) ?_
  refine lv_iconst (v := 0) hE.1 hE.2.1 dX9_isOver_1 (by decide) ?_
  refine x_put hE hK hN hP hS 0 (by decide) (yG_9 rfl) rfl hin9 tyX9 tyX9_ok nmX9 6 (by decide) mw_1340 rfl rfl rfl (Nat.le_of_ble_eq_true rfl) (yG_9 rfl) dX9_isOver_2 (fun v_1 H locs hv_1 hP hS => ?_)
  refine lv_aload_n hE.1 hE.2.1 dX9_isOver_5 rfl (lv_at hl 0 rfl) ?_
  refine lv_aload_n hE.1 hE.2.1 dX9_isOver_6 rfl (lv_at hl 0 rfl) ?_
  refine x_get (x := .int (v_1 0 12)) hE hK hP 0 (by decide) (yG_9 rfl) rfl hin9 12 (by decide) mw_1346 rfl dX9_isOver_7 ?_
  refine x_top (y := 0) ((up_oth hv_1 (by decide)).trans h_0_12) ?_
  refine x_put hE hK hN hP hS 0 (by decide) (yG_9 rfl) rfl hin9 tyX9 tyX9_ok nmX9 14 (by decide) mw_1348 rfl rfl rfl (Nat.le_of_ble_eq_true rfl) (yG_9 rfl) dX9_isOver_10 (fun v_2 H locs hv_2 hP hS => ?_)
  refine lv_aload_n hE.1 hE.2.1 dX9_isOver_13 rfl (lv_at hl 0 rfl) ?_
  refine lv_aload_n hE.1 hE.2.1 dX9_isOver_14 rfl (lv_at hl 0 rfl) ?_
  refine x_get (x := .int (v_2 0 12)) hE hK hP 0 (by decide) (yG_9 rfl) rfl hin9 12 (by decide) mw_1346 rfl dX9_isOver_15 ?_
  refine x_top (y := 0) ((up_oth hv_2 (by decide)).trans ((up_oth hv_1 (by decide)).trans h_0_12)) ?_
  refine lv_if_ne (tgt := 25) hE.1 hE.2.1 dX9_isOver_18 (by decide) (fun h => absurd (by decide) h) (fun _ => ?_)
  refine lv_iconst (v := (-1)) hE.1 hE.2.1 dX9_isOver_21 (by decide) ?_
  refine lv_goto (tgt := 29) hE.1 hE.2.1 dX9_isOver_22 (by decide) ?_
  refine x_put hE hK hN hP hS 0 (by decide) (yG_9 rfl) rfl hin9 tyX9 tyX9_ok nmX9 15 (by decide) mw_1349 rfl rfl rfl (Nat.le_of_ble_eq_true rfl) (yG_9 rfl) dX9_isOver_29 (fun v_3 H locs hv_3 hP hS => ?_)
  exact x_wv hE hr hlo hP hS ⟨fun i j h => ((up_oth hv_3 (fun q => h (by rcases q with ⟨rfl, rfl⟩; decide))).trans ((up_oth hv_2 (fun q => h (by rcases q with ⟨rfl, rfl⟩; decide))).trans (up_oth hv_1 (fun q => h (by rcases q with ⟨rfl, rfl⟩; decide))))), rfl, rfl⟩ dX9_isOver_32

theorem dX9_copyCourt_0 : decode cX9_copyCourt 0 = .ok (.aload_n 0, 1) := by decide +kernel
theorem dX9_copyCourt_1 : decode cX9_copyCourt 1 = .ok (.getfield 31, 3) := by decide +kernel
theorem dX9_copyCourt_4 : decode cX9_copyCourt 4 = .ok (.iconst 1, 1) := by decide +kernel
theorem dX9_copyCourt_5 : decode cX9_copyCourt 5 = .ok (.iload_n 1, 1) := by decide +kernel
theorem dX9_copyCourt_6 : decode cX9_copyCourt 6 = .ok (.iload_n 2, 1) := by decide +kernel
theorem dX9_copyCourt_7 : decode cX9_copyCourt 7 = .ok (.invokestatic 249, 3) := by decide +kernel
theorem dX9_copyCourt_10 : decode cX9_copyCourt 10 = .ok (.aload_n 0, 1) := by decide +kernel
theorem dX9_copyCourt_11 : decode cX9_copyCourt 11 = .ok (.getfield 34, 3) := by decide +kernel
theorem dX9_copyCourt_14 : decode cX9_copyCourt 14 = .ok (.bipush 6, 2) := by decide +kernel
theorem dX9_copyCourt_16 : decode cX9_copyCourt 16 = .ok (.iload_n 1, 1) := by decide +kernel
theorem dX9_copyCourt_17 : decode cX9_copyCourt 17 = .ok (.iload_n 2, 1) := by decide +kernel
theorem dX9_copyCourt_18 : decode cX9_copyCourt 18 = .ok (.invokestatic 249, 3) := by decide +kernel
theorem dX9_copyCourt_21 : decode cX9_copyCourt 21 = .ok (.aload_n 0, 1) := by decide +kernel
theorem dX9_copyCourt_22 : decode cX9_copyCourt 22 = .ok (.getfield 37, 3) := by decide +kernel
theorem dX9_copyCourt_25 : decode cX9_copyCourt 25 = .ok (.bipush 81, 2) := by decide +kernel
theorem dX9_copyCourt_27 : decode cX9_copyCourt 27 = .ok (.iload_n 1, 1) := by decide +kernel
theorem dX9_copyCourt_28 : decode cX9_copyCourt 28 = .ok (.iload_n 2, 1) := by decide +kernel
theorem dX9_copyCourt_29 : decode cX9_copyCourt 29 = .ok (.invokestatic 249, 3) := by decide +kernel
theorem dX9_copyCourt_32 : decode cX9_copyCourt 32 = .ok (.aload_n 0, 1) := by decide +kernel
theorem dX9_copyCourt_33 : decode cX9_copyCourt 33 = .ok (.getfield 40, 3) := by decide +kernel
theorem dX9_copyCourt_36 : decode cX9_copyCourt 36 = .ok (.bipush 16, 2) := by decide +kernel
theorem dX9_copyCourt_38 : decode cX9_copyCourt 38 = .ok (.iload_n 1, 1) := by decide +kernel
theorem dX9_copyCourt_39 : decode cX9_copyCourt 39 = .ok (.iload_n 2, 1) := by decide +kernel
theorem dX9_copyCourt_40 : decode cX9_copyCourt 40 = .ok (.invokestatic 249, 3) := by decide +kernel
theorem dX9_copyCourt_43 : decode cX9_copyCourt 43 = .ok (.aload_n 0, 1) := by decide +kernel
theorem dX9_copyCourt_44 : decode cX9_copyCourt 44 = .ok (.getfield 43, 3) := by decide +kernel
theorem dX9_copyCourt_47 : decode cX9_copyCourt 47 = .ok (.bipush 18, 2) := by decide +kernel
theorem dX9_copyCourt_49 : decode cX9_copyCourt 49 = .ok (.iload_n 1, 1) := by decide +kernel
theorem dX9_copyCourt_50 : decode cX9_copyCourt 50 = .ok (.iload_n 2, 1) := by decide +kernel
theorem dX9_copyCourt_51 : decode cX9_copyCourt 51 = .ok (.invokestatic 249, 3) := by decide +kernel
theorem dX9_copyCourt_54 : decode cX9_copyCourt 54 = .ok (.return_, 1) := by decide +kernel
set_option maxHeartbeats 4000000 in
set_option maxRecDepth 100000 in
theorem k_X9_copyCourt_4_0 (l : Launch) (D : va_G) (K : Nat → ClassId) (ad : Nat → Nat) (v ar : sI) (al : sL) (hz_6 : ar 6 = fun _ => 0) (hz_7 : ar 7 = fun _ => 0) (hz_8 : ar 8 = fun _ => 0) (hz_9 : ar 9 = fun _ => 0) (hz_10 : ar 10 = fun _ => 0) : Met l yX9_copyCourt (wM yX9_copyCourt cX9_copyCourt 3 none) (rmD 1) (va_Pc [.ref (ad 0), .int 4, .int 0] (wPre D K ad (yG ad K) 21 v ar al)) (va_Qv (fun u : sT => (∀ i j : Nat, (i, j) ∉ ([] : List (Nat × Nat)) → u.1 i j = v i j) ∧ u.2.1 = ar ∧ u.2.2 = al) (wB D ad (yG ad K) 21) (inW ad 21)) 0 0 (inW ad 21) := by
  refine x_met (by decide) (Nat.le_of_ble_eq_true rfl) ?_
  intro p e s m below meth c ls hE hr hlo hnm hB hl
  have hE : CallFix p m c cX9_copyCourt 3 s _ tbG "TaleCourtModel" := hE
  obtain ⟨hP, hK, hN⟩ := hB
  have hS : va_S (inW ad 21) s.heap s.heap [] := va_S.rf
  have hl : lv_has ls 3 [(0, .ref (ad 0)), (1, .int 4), (2, .int 0)] := hl
  refine lv_aload_n hE.1 hE.2.1 dX9_copyCourt_0 rfl (lv_at hl 0 rfl) ?_
  refine x_get (x := .ref (ad 6)) hE hK hP 0 (by decide) (yG_9 rfl) rfl hin9 16 (by decide) mw_1350 rfl dX9_copyCourt_1 ?_
  refine lv_iconst (v := 1) hE.1 hE.2.1 dX9_copyCourt_4 (by decide) ?_
  refine lv_iload_n hE.1 hE.2.1 dX9_copyCourt_5 rfl (lv_at hl 1 rfl) ?_
  refine lv_iload_n hE.1 hE.2.1 dX9_copyCourt_6 rfl (lv_at hl 2 rfl) ?_
  refine x_sv (nn := 4) (As := [.ref (ad 6), .int 1, .int 4, .int 0]) (rest := []) hE hK hN hP hS (k_copyRow l D K ad v ar al 6 5 (by decide) (fun _ => yG_10 rfl) hz_6 (Nat.le_of_ble_eq_true rfl) 1 4 0 (by decide) (by decide)) rfl mw_1635 mw_1636 mw_123 mw_1637 (by decide +kernel) ⟨by decide, by decide⟩ hl.1 rfl (Nat.le_of_ble_eq_true rfl) ⟨Nat.zero_le _, Nat.zero_le _⟩ dX9_copyCourt_7 (fun v_1 ar_1 al_1 H locs hq_1 hP hS => ?_)
  have hv_1 : v_1 = v := hq_1.1
  rw [hv_1] at hP
  rw [show ar_1 = ar from hq_1.2.1, show al_1 = al from hq_1.2.2] at hP
  refine lv_aload_n hE.1 hE.2.1 dX9_copyCourt_10 rfl (lv_at hl 0 rfl) ?_
  refine x_get (x := .ref (ad 7)) hE hK hP 0 (by decide) (yG_9 rfl) rfl hin9 17 (by decide) mw_1351 rfl dX9_copyCourt_11 ?_
  refine lv_bipush (v := 6) hE.1 hE.2.1 dX9_copyCourt_14 (by decide) ?_
  refine lv_iload_n hE.1 hE.2.1 dX9_copyCourt_16 rfl (lv_at hl 1 rfl) ?_
  refine lv_iload_n hE.1 hE.2.1 dX9_copyCourt_17 rfl (lv_at hl 2 rfl) ?_
  refine x_sv (nn := 4) (As := [.ref (ad 7), .int 6, .int 4, .int 0]) (rest := []) hE hK hN hP hS (k_copyRow l D K ad v ar al 7 30 (by decide) (fun _ => yG_10 rfl) hz_7 (Nat.le_of_ble_eq_true rfl) 6 4 0 (by decide) (by decide)) rfl mw_1635 mw_1636 mw_123 mw_1637 (by decide +kernel) ⟨by decide, by decide⟩ hl.1 rfl (Nat.le_of_ble_eq_true rfl) ⟨Nat.zero_le _, Nat.zero_le _⟩ dX9_copyCourt_18 (fun v_2 ar_2 al_2 H locs hq_2 hP hS => ?_)
  have hv_2 : v_2 = v := hq_2.1
  rw [hv_2] at hP
  rw [show ar_2 = ar from hq_2.2.1, show al_2 = al from hq_2.2.2] at hP
  refine lv_aload_n hE.1 hE.2.1 dX9_copyCourt_21 rfl (lv_at hl 0 rfl) ?_
  refine x_get (x := .ref (ad 8)) hE hK hP 0 (by decide) (yG_9 rfl) rfl hin9 18 (by decide) mw_1352 rfl dX9_copyCourt_22 ?_
  refine lv_bipush (v := 81) hE.1 hE.2.1 dX9_copyCourt_25 (by decide) ?_
  refine lv_iload_n hE.1 hE.2.1 dX9_copyCourt_27 rfl (lv_at hl 1 rfl) ?_
  refine lv_iload_n hE.1 hE.2.1 dX9_copyCourt_28 rfl (lv_at hl 2 rfl) ?_
  refine x_sv (nn := 4) (As := [.ref (ad 8), .int 81, .int 4, .int 0]) (rest := []) hE hK hN hP hS (k_copyRow l D K ad v ar al 8 405 (by decide) (fun _ => yG_10 rfl) hz_8 (Nat.le_of_ble_eq_true rfl) 81 4 0 (by decide) (by decide)) rfl mw_1635 mw_1636 mw_123 mw_1637 (by decide +kernel) ⟨by decide, by decide⟩ hl.1 rfl (Nat.le_of_ble_eq_true rfl) ⟨Nat.zero_le _, Nat.zero_le _⟩ dX9_copyCourt_29 (fun v_3 ar_3 al_3 H locs hq_3 hP hS => ?_)
  have hv_3 : v_3 = v := hq_3.1
  rw [hv_3] at hP
  rw [show ar_3 = ar from hq_3.2.1, show al_3 = al from hq_3.2.2] at hP
  refine lv_aload_n hE.1 hE.2.1 dX9_copyCourt_32 rfl (lv_at hl 0 rfl) ?_
  refine x_get (x := .ref (ad 9)) hE hK hP 0 (by decide) (yG_9 rfl) rfl hin9 19 (by decide) mw_1353 rfl dX9_copyCourt_33 ?_
  refine lv_bipush (v := 16) hE.1 hE.2.1 dX9_copyCourt_36 (by decide) ?_
  refine lv_iload_n hE.1 hE.2.1 dX9_copyCourt_38 rfl (lv_at hl 1 rfl) ?_
  refine lv_iload_n hE.1 hE.2.1 dX9_copyCourt_39 rfl (lv_at hl 2 rfl) ?_
  refine x_sv (nn := 4) (As := [.ref (ad 9), .int 16, .int 4, .int 0]) (rest := []) hE hK hN hP hS (k_copyRow l D K ad v ar al 9 80 (by decide) (fun _ => yG_10 rfl) hz_9 (Nat.le_of_ble_eq_true rfl) 16 4 0 (by decide) (by decide)) rfl mw_1635 mw_1636 mw_123 mw_1637 (by decide +kernel) ⟨by decide, by decide⟩ hl.1 rfl (Nat.le_of_ble_eq_true rfl) ⟨Nat.zero_le _, Nat.zero_le _⟩ dX9_copyCourt_40 (fun v_4 ar_4 al_4 H locs hq_4 hP hS => ?_)
  have hv_4 : v_4 = v := hq_4.1
  rw [hv_4] at hP
  rw [show ar_4 = ar from hq_4.2.1, show al_4 = al from hq_4.2.2] at hP
  refine lv_aload_n hE.1 hE.2.1 dX9_copyCourt_43 rfl (lv_at hl 0 rfl) ?_
  refine x_get (x := .ref (ad 10)) hE hK hP 0 (by decide) (yG_9 rfl) rfl hin9 20 (by decide) mw_1354 rfl dX9_copyCourt_44 ?_
  refine lv_bipush (v := 18) hE.1 hE.2.1 dX9_copyCourt_47 (by decide) ?_
  refine lv_iload_n hE.1 hE.2.1 dX9_copyCourt_49 rfl (lv_at hl 1 rfl) ?_
  refine lv_iload_n hE.1 hE.2.1 dX9_copyCourt_50 rfl (lv_at hl 2 rfl) ?_
  refine x_sv (nn := 4) (As := [.ref (ad 10), .int 18, .int 4, .int 0]) (rest := []) hE hK hN hP hS (k_copyRow l D K ad v ar al 10 90 (by decide) (fun _ => yG_10 rfl) hz_10 (Nat.le_of_ble_eq_true rfl) 18 4 0 (by decide) (by decide)) rfl mw_1635 mw_1636 mw_123 mw_1637 (by decide +kernel) ⟨by decide, by decide⟩ hl.1 rfl (Nat.le_of_ble_eq_true rfl) ⟨Nat.zero_le _, Nat.zero_le _⟩ dX9_copyCourt_51 (fun v_5 ar_5 al_5 H locs hq_5 hP hS => ?_)
  have hv_5 : v_5 = v := hq_5.1
  rw [hv_5] at hP
  rw [show ar_5 = ar from hq_5.2.1, show al_5 = al from hq_5.2.2] at hP
  exact x_wv hE hr hlo hP hS ⟨fun i j h => rfl, rfl, rfl⟩ dX9_copyCourt_54

set_option maxHeartbeats 4000000 in
set_option maxRecDepth 100000 in
theorem k_X9_copyCourt_0_1 (l : Launch) (D : va_G) (K : Nat → ClassId) (ad : Nat → Nat) (v ar : sI) (al : sL) (hz_6 : ar 6 = fun _ => 0) (hz_7 : ar 7 = fun _ => 0) (hz_8 : ar 8 = fun _ => 0) (hz_9 : ar 9 = fun _ => 0) (hz_10 : ar 10 = fun _ => 0) : Met l yX9_copyCourt (wM yX9_copyCourt cX9_copyCourt 3 none) (rmD 1) (va_Pc [.ref (ad 0), .int 0, .int 1] (wPre D K ad (yG ad K) 21 v ar al)) (va_Qv (fun u : sT => (∀ i j : Nat, (i, j) ∉ ([] : List (Nat × Nat)) → u.1 i j = v i j) ∧ u.2.1 = ar ∧ u.2.2 = al) (wB D ad (yG ad K) 21) (inW ad 21)) 0 0 (inW ad 21) := by
  refine x_met (by decide) (Nat.le_of_ble_eq_true rfl) ?_
  intro p e s m below meth c ls hE hr hlo hnm hB hl
  have hE : CallFix p m c cX9_copyCourt 3 s _ tbG "TaleCourtModel" := hE
  obtain ⟨hP, hK, hN⟩ := hB
  have hS : va_S (inW ad 21) s.heap s.heap [] := va_S.rf
  have hl : lv_has ls 3 [(0, .ref (ad 0)), (1, .int 0), (2, .int 1)] := hl
  refine lv_aload_n hE.1 hE.2.1 dX9_copyCourt_0 rfl (lv_at hl 0 rfl) ?_
  refine x_get (x := .ref (ad 6)) hE hK hP 0 (by decide) (yG_9 rfl) rfl hin9 16 (by decide) mw_1350 rfl dX9_copyCourt_1 ?_
  refine lv_iconst (v := 1) hE.1 hE.2.1 dX9_copyCourt_4 (by decide) ?_
  refine lv_iload_n hE.1 hE.2.1 dX9_copyCourt_5 rfl (lv_at hl 1 rfl) ?_
  refine lv_iload_n hE.1 hE.2.1 dX9_copyCourt_6 rfl (lv_at hl 2 rfl) ?_
  refine x_sv (nn := 4) (As := [.ref (ad 6), .int 1, .int 0, .int 1]) (rest := []) hE hK hN hP hS (k_copyRow l D K ad v ar al 6 5 (by decide) (fun _ => yG_10 rfl) hz_6 (Nat.le_of_ble_eq_true rfl) 1 0 1 (by decide) (by decide)) rfl mw_1635 mw_1636 mw_123 mw_1637 (by decide +kernel) ⟨by decide, by decide⟩ hl.1 rfl (Nat.le_of_ble_eq_true rfl) ⟨Nat.zero_le _, Nat.zero_le _⟩ dX9_copyCourt_7 (fun v_1 ar_1 al_1 H locs hq_1 hP hS => ?_)
  have hv_1 : v_1 = v := hq_1.1
  rw [hv_1] at hP
  rw [show ar_1 = ar from hq_1.2.1, show al_1 = al from hq_1.2.2] at hP
  refine lv_aload_n hE.1 hE.2.1 dX9_copyCourt_10 rfl (lv_at hl 0 rfl) ?_
  refine x_get (x := .ref (ad 7)) hE hK hP 0 (by decide) (yG_9 rfl) rfl hin9 17 (by decide) mw_1351 rfl dX9_copyCourt_11 ?_
  refine lv_bipush (v := 6) hE.1 hE.2.1 dX9_copyCourt_14 (by decide) ?_
  refine lv_iload_n hE.1 hE.2.1 dX9_copyCourt_16 rfl (lv_at hl 1 rfl) ?_
  refine lv_iload_n hE.1 hE.2.1 dX9_copyCourt_17 rfl (lv_at hl 2 rfl) ?_
  refine x_sv (nn := 4) (As := [.ref (ad 7), .int 6, .int 0, .int 1]) (rest := []) hE hK hN hP hS (k_copyRow l D K ad v ar al 7 30 (by decide) (fun _ => yG_10 rfl) hz_7 (Nat.le_of_ble_eq_true rfl) 6 0 1 (by decide) (by decide)) rfl mw_1635 mw_1636 mw_123 mw_1637 (by decide +kernel) ⟨by decide, by decide⟩ hl.1 rfl (Nat.le_of_ble_eq_true rfl) ⟨Nat.zero_le _, Nat.zero_le _⟩ dX9_copyCourt_18 (fun v_2 ar_2 al_2 H locs hq_2 hP hS => ?_)
  have hv_2 : v_2 = v := hq_2.1
  rw [hv_2] at hP
  rw [show ar_2 = ar from hq_2.2.1, show al_2 = al from hq_2.2.2] at hP
  refine lv_aload_n hE.1 hE.2.1 dX9_copyCourt_21 rfl (lv_at hl 0 rfl) ?_
  refine x_get (x := .ref (ad 8)) hE hK hP 0 (by decide) (yG_9 rfl) rfl hin9 18 (by decide) mw_1352 rfl dX9_copyCourt_22 ?_
  refine lv_bipush (v := 81) hE.1 hE.2.1 dX9_copyCourt_25 (by decide) ?_
  refine lv_iload_n hE.1 hE.2.1 dX9_copyCourt_27 rfl (lv_at hl 1 rfl) ?_
  refine lv_iload_n hE.1 hE.2.1 dX9_copyCourt_28 rfl (lv_at hl 2 rfl) ?_
  refine x_sv (nn := 4) (As := [.ref (ad 8), .int 81, .int 0, .int 1]) (rest := []) hE hK hN hP hS (k_copyRow l D K ad v ar al 8 405 (by decide) (fun _ => yG_10 rfl) hz_8 (Nat.le_of_ble_eq_true rfl) 81 0 1 (by decide) (by decide)) rfl mw_1635 mw_1636 mw_123 mw_1637 (by decide +kernel) ⟨by decide, by decide⟩ hl.1 rfl (Nat.le_of_ble_eq_true rfl) ⟨Nat.zero_le _, Nat.zero_le _⟩ dX9_copyCourt_29 (fun v_3 ar_3 al_3 H locs hq_3 hP hS => ?_)
  have hv_3 : v_3 = v := hq_3.1
  rw [hv_3] at hP
  rw [show ar_3 = ar from hq_3.2.1, show al_3 = al from hq_3.2.2] at hP
  refine lv_aload_n hE.1 hE.2.1 dX9_copyCourt_32 rfl (lv_at hl 0 rfl) ?_
  refine x_get (x := .ref (ad 9)) hE hK hP 0 (by decide) (yG_9 rfl) rfl hin9 19 (by decide) mw_1353 rfl dX9_copyCourt_33 ?_
  refine lv_bipush (v := 16) hE.1 hE.2.1 dX9_copyCourt_36 (by decide) ?_
  refine lv_iload_n hE.1 hE.2.1 dX9_copyCourt_38 rfl (lv_at hl 1 rfl) ?_
  refine lv_iload_n hE.1 hE.2.1 dX9_copyCourt_39 rfl (lv_at hl 2 rfl) ?_
  refine x_sv (nn := 4) (As := [.ref (ad 9), .int 16, .int 0, .int 1]) (rest := []) hE hK hN hP hS (k_copyRow l D K ad v ar al 9 80 (by decide) (fun _ => yG_10 rfl) hz_9 (Nat.le_of_ble_eq_true rfl) 16 0 1 (by decide) (by decide)) rfl mw_1635 mw_1636 mw_123 mw_1637 (by decide +kernel) ⟨by decide, by decide⟩ hl.1 rfl (Nat.le_of_ble_eq_true rfl) ⟨Nat.zero_le _, Nat.zero_le _⟩ dX9_copyCourt_40 (fun v_4 ar_4 al_4 H locs hq_4 hP hS => ?_)
  have hv_4 : v_4 = v := hq_4.1
  rw [hv_4] at hP
  rw [show ar_4 = ar from hq_4.2.1, show al_4 = al from hq_4.2.2] at hP
  refine lv_aload_n hE.1 hE.2.1 dX9_copyCourt_43 rfl (lv_at hl 0 rfl) ?_
  refine x_get (x := .ref (ad 10)) hE hK hP 0 (by decide) (yG_9 rfl) rfl hin9 20 (by decide) mw_1354 rfl dX9_copyCourt_44 ?_
  refine lv_bipush (v := 18) hE.1 hE.2.1 dX9_copyCourt_47 (by decide) ?_
  refine lv_iload_n hE.1 hE.2.1 dX9_copyCourt_49 rfl (lv_at hl 1 rfl) ?_
  refine lv_iload_n hE.1 hE.2.1 dX9_copyCourt_50 rfl (lv_at hl 2 rfl) ?_
  refine x_sv (nn := 4) (As := [.ref (ad 10), .int 18, .int 0, .int 1]) (rest := []) hE hK hN hP hS (k_copyRow l D K ad v ar al 10 90 (by decide) (fun _ => yG_10 rfl) hz_10 (Nat.le_of_ble_eq_true rfl) 18 0 1 (by decide) (by decide)) rfl mw_1635 mw_1636 mw_123 mw_1637 (by decide +kernel) ⟨by decide, by decide⟩ hl.1 rfl (Nat.le_of_ble_eq_true rfl) ⟨Nat.zero_le _, Nat.zero_le _⟩ dX9_copyCourt_51 (fun v_5 ar_5 al_5 H locs hq_5 hP hS => ?_)
  have hv_5 : v_5 = v := hq_5.1
  rw [hv_5] at hP
  rw [show ar_5 = ar from hq_5.2.1, show al_5 = al from hq_5.2.2] at hP
  exact x_wv hE hr hlo hP hS ⟨fun i j h => rfl, rfl, rfl⟩ dX9_copyCourt_54

set_option maxHeartbeats 4000000 in
set_option maxRecDepth 100000 in
theorem k_X9_copyCourt_0_2 (l : Launch) (D : va_G) (K : Nat → ClassId) (ad : Nat → Nat) (v ar : sI) (al : sL) (hz_6 : ar 6 = fun _ => 0) (hz_7 : ar 7 = fun _ => 0) (hz_8 : ar 8 = fun _ => 0) (hz_9 : ar 9 = fun _ => 0) (hz_10 : ar 10 = fun _ => 0) : Met l yX9_copyCourt (wM yX9_copyCourt cX9_copyCourt 3 none) (rmD 1) (va_Pc [.ref (ad 0), .int 0, .int 2] (wPre D K ad (yG ad K) 21 v ar al)) (va_Qv (fun u : sT => (∀ i j : Nat, (i, j) ∉ ([] : List (Nat × Nat)) → u.1 i j = v i j) ∧ u.2.1 = ar ∧ u.2.2 = al) (wB D ad (yG ad K) 21) (inW ad 21)) 0 0 (inW ad 21) := by
  refine x_met (by decide) (Nat.le_of_ble_eq_true rfl) ?_
  intro p e s m below meth c ls hE hr hlo hnm hB hl
  have hE : CallFix p m c cX9_copyCourt 3 s _ tbG "TaleCourtModel" := hE
  obtain ⟨hP, hK, hN⟩ := hB
  have hS : va_S (inW ad 21) s.heap s.heap [] := va_S.rf
  have hl : lv_has ls 3 [(0, .ref (ad 0)), (1, .int 0), (2, .int 2)] := hl
  refine lv_aload_n hE.1 hE.2.1 dX9_copyCourt_0 rfl (lv_at hl 0 rfl) ?_
  refine x_get (x := .ref (ad 6)) hE hK hP 0 (by decide) (yG_9 rfl) rfl hin9 16 (by decide) mw_1350 rfl dX9_copyCourt_1 ?_
  refine lv_iconst (v := 1) hE.1 hE.2.1 dX9_copyCourt_4 (by decide) ?_
  refine lv_iload_n hE.1 hE.2.1 dX9_copyCourt_5 rfl (lv_at hl 1 rfl) ?_
  refine lv_iload_n hE.1 hE.2.1 dX9_copyCourt_6 rfl (lv_at hl 2 rfl) ?_
  refine x_sv (nn := 4) (As := [.ref (ad 6), .int 1, .int 0, .int 2]) (rest := []) hE hK hN hP hS (k_copyRow l D K ad v ar al 6 5 (by decide) (fun _ => yG_10 rfl) hz_6 (Nat.le_of_ble_eq_true rfl) 1 0 2 (by decide) (by decide)) rfl mw_1635 mw_1636 mw_123 mw_1637 (by decide +kernel) ⟨by decide, by decide⟩ hl.1 rfl (Nat.le_of_ble_eq_true rfl) ⟨Nat.zero_le _, Nat.zero_le _⟩ dX9_copyCourt_7 (fun v_1 ar_1 al_1 H locs hq_1 hP hS => ?_)
  have hv_1 : v_1 = v := hq_1.1
  rw [hv_1] at hP
  rw [show ar_1 = ar from hq_1.2.1, show al_1 = al from hq_1.2.2] at hP
  refine lv_aload_n hE.1 hE.2.1 dX9_copyCourt_10 rfl (lv_at hl 0 rfl) ?_
  refine x_get (x := .ref (ad 7)) hE hK hP 0 (by decide) (yG_9 rfl) rfl hin9 17 (by decide) mw_1351 rfl dX9_copyCourt_11 ?_
  refine lv_bipush (v := 6) hE.1 hE.2.1 dX9_copyCourt_14 (by decide) ?_
  refine lv_iload_n hE.1 hE.2.1 dX9_copyCourt_16 rfl (lv_at hl 1 rfl) ?_
  refine lv_iload_n hE.1 hE.2.1 dX9_copyCourt_17 rfl (lv_at hl 2 rfl) ?_
  refine x_sv (nn := 4) (As := [.ref (ad 7), .int 6, .int 0, .int 2]) (rest := []) hE hK hN hP hS (k_copyRow l D K ad v ar al 7 30 (by decide) (fun _ => yG_10 rfl) hz_7 (Nat.le_of_ble_eq_true rfl) 6 0 2 (by decide) (by decide)) rfl mw_1635 mw_1636 mw_123 mw_1637 (by decide +kernel) ⟨by decide, by decide⟩ hl.1 rfl (Nat.le_of_ble_eq_true rfl) ⟨Nat.zero_le _, Nat.zero_le _⟩ dX9_copyCourt_18 (fun v_2 ar_2 al_2 H locs hq_2 hP hS => ?_)
  have hv_2 : v_2 = v := hq_2.1
  rw [hv_2] at hP
  rw [show ar_2 = ar from hq_2.2.1, show al_2 = al from hq_2.2.2] at hP
  refine lv_aload_n hE.1 hE.2.1 dX9_copyCourt_21 rfl (lv_at hl 0 rfl) ?_
  refine x_get (x := .ref (ad 8)) hE hK hP 0 (by decide) (yG_9 rfl) rfl hin9 18 (by decide) mw_1352 rfl dX9_copyCourt_22 ?_
  refine lv_bipush (v := 81) hE.1 hE.2.1 dX9_copyCourt_25 (by decide) ?_
  refine lv_iload_n hE.1 hE.2.1 dX9_copyCourt_27 rfl (lv_at hl 1 rfl) ?_
  refine lv_iload_n hE.1 hE.2.1 dX9_copyCourt_28 rfl (lv_at hl 2 rfl) ?_
  refine x_sv (nn := 4) (As := [.ref (ad 8), .int 81, .int 0, .int 2]) (rest := []) hE hK hN hP hS (k_copyRow l D K ad v ar al 8 405 (by decide) (fun _ => yG_10 rfl) hz_8 (Nat.le_of_ble_eq_true rfl) 81 0 2 (by decide) (by decide)) rfl mw_1635 mw_1636 mw_123 mw_1637 (by decide +kernel) ⟨by decide, by decide⟩ hl.1 rfl (Nat.le_of_ble_eq_true rfl) ⟨Nat.zero_le _, Nat.zero_le _⟩ dX9_copyCourt_29 (fun v_3 ar_3 al_3 H locs hq_3 hP hS => ?_)
  have hv_3 : v_3 = v := hq_3.1
  rw [hv_3] at hP
  rw [show ar_3 = ar from hq_3.2.1, show al_3 = al from hq_3.2.2] at hP
  refine lv_aload_n hE.1 hE.2.1 dX9_copyCourt_32 rfl (lv_at hl 0 rfl) ?_
  refine x_get (x := .ref (ad 9)) hE hK hP 0 (by decide) (yG_9 rfl) rfl hin9 19 (by decide) mw_1353 rfl dX9_copyCourt_33 ?_
  refine lv_bipush (v := 16) hE.1 hE.2.1 dX9_copyCourt_36 (by decide) ?_
  refine lv_iload_n hE.1 hE.2.1 dX9_copyCourt_38 rfl (lv_at hl 1 rfl) ?_
  refine lv_iload_n hE.1 hE.2.1 dX9_copyCourt_39 rfl (lv_at hl 2 rfl) ?_
  refine x_sv (nn := 4) (As := [.ref (ad 9), .int 16, .int 0, .int 2]) (rest := []) hE hK hN hP hS (k_copyRow l D K ad v ar al 9 80 (by decide) (fun _ => yG_10 rfl) hz_9 (Nat.le_of_ble_eq_true rfl) 16 0 2 (by decide) (by decide)) rfl mw_1635 mw_1636 mw_123 mw_1637 (by decide +kernel) ⟨by decide, by decide⟩ hl.1 rfl (Nat.le_of_ble_eq_true rfl) ⟨Nat.zero_le _, Nat.zero_le _⟩ dX9_copyCourt_40 (fun v_4 ar_4 al_4 H locs hq_4 hP hS => ?_)
  have hv_4 : v_4 = v := hq_4.1
  rw [hv_4] at hP
  rw [show ar_4 = ar from hq_4.2.1, show al_4 = al from hq_4.2.2] at hP
  refine lv_aload_n hE.1 hE.2.1 dX9_copyCourt_43 rfl (lv_at hl 0 rfl) ?_
  refine x_get (x := .ref (ad 10)) hE hK hP 0 (by decide) (yG_9 rfl) rfl hin9 20 (by decide) mw_1354 rfl dX9_copyCourt_44 ?_
  refine lv_bipush (v := 18) hE.1 hE.2.1 dX9_copyCourt_47 (by decide) ?_
  refine lv_iload_n hE.1 hE.2.1 dX9_copyCourt_49 rfl (lv_at hl 1 rfl) ?_
  refine lv_iload_n hE.1 hE.2.1 dX9_copyCourt_50 rfl (lv_at hl 2 rfl) ?_
  refine x_sv (nn := 4) (As := [.ref (ad 10), .int 18, .int 0, .int 2]) (rest := []) hE hK hN hP hS (k_copyRow l D K ad v ar al 10 90 (by decide) (fun _ => yG_10 rfl) hz_10 (Nat.le_of_ble_eq_true rfl) 18 0 2 (by decide) (by decide)) rfl mw_1635 mw_1636 mw_123 mw_1637 (by decide +kernel) ⟨by decide, by decide⟩ hl.1 rfl (Nat.le_of_ble_eq_true rfl) ⟨Nat.zero_le _, Nat.zero_le _⟩ dX9_copyCourt_51 (fun v_5 ar_5 al_5 H locs hq_5 hP hS => ?_)
  have hv_5 : v_5 = v := hq_5.1
  rw [hv_5] at hP
  rw [show ar_5 = ar from hq_5.2.1, show al_5 = al from hq_5.2.2] at hP
  exact x_wv hE hr hlo hP hS ⟨fun i j h => rfl, rfl, rfl⟩ dX9_copyCourt_54

set_option maxHeartbeats 4000000 in
set_option maxRecDepth 100000 in
theorem k_X9_copyCourt_0_3 (l : Launch) (D : va_G) (K : Nat → ClassId) (ad : Nat → Nat) (v ar : sI) (al : sL) (hz_6 : ar 6 = fun _ => 0) (hz_7 : ar 7 = fun _ => 0) (hz_8 : ar 8 = fun _ => 0) (hz_9 : ar 9 = fun _ => 0) (hz_10 : ar 10 = fun _ => 0) : Met l yX9_copyCourt (wM yX9_copyCourt cX9_copyCourt 3 none) (rmD 1) (va_Pc [.ref (ad 0), .int 0, .int 3] (wPre D K ad (yG ad K) 21 v ar al)) (va_Qv (fun u : sT => (∀ i j : Nat, (i, j) ∉ ([] : List (Nat × Nat)) → u.1 i j = v i j) ∧ u.2.1 = ar ∧ u.2.2 = al) (wB D ad (yG ad K) 21) (inW ad 21)) 0 0 (inW ad 21) := by
  refine x_met (by decide) (Nat.le_of_ble_eq_true rfl) ?_
  intro p e s m below meth c ls hE hr hlo hnm hB hl
  have hE : CallFix p m c cX9_copyCourt 3 s _ tbG "TaleCourtModel" := hE
  obtain ⟨hP, hK, hN⟩ := hB
  have hS : va_S (inW ad 21) s.heap s.heap [] := va_S.rf
  have hl : lv_has ls 3 [(0, .ref (ad 0)), (1, .int 0), (2, .int 3)] := hl
  refine lv_aload_n hE.1 hE.2.1 dX9_copyCourt_0 rfl (lv_at hl 0 rfl) ?_
  refine x_get (x := .ref (ad 6)) hE hK hP 0 (by decide) (yG_9 rfl) rfl hin9 16 (by decide) mw_1350 rfl dX9_copyCourt_1 ?_
  refine lv_iconst (v := 1) hE.1 hE.2.1 dX9_copyCourt_4 (by decide) ?_
  refine lv_iload_n hE.1 hE.2.1 dX9_copyCourt_5 rfl (lv_at hl 1 rfl) ?_
  refine lv_iload_n hE.1 hE.2.1 dX9_copyCourt_6 rfl (lv_at hl 2 rfl) ?_
  refine x_sv (nn := 4) (As := [.ref (ad 6), .int 1, .int 0, .int 3]) (rest := []) hE hK hN hP hS (k_copyRow l D K ad v ar al 6 5 (by decide) (fun _ => yG_10 rfl) hz_6 (Nat.le_of_ble_eq_true rfl) 1 0 3 (by decide) (by decide)) rfl mw_1635 mw_1636 mw_123 mw_1637 (by decide +kernel) ⟨by decide, by decide⟩ hl.1 rfl (Nat.le_of_ble_eq_true rfl) ⟨Nat.zero_le _, Nat.zero_le _⟩ dX9_copyCourt_7 (fun v_1 ar_1 al_1 H locs hq_1 hP hS => ?_)
  have hv_1 : v_1 = v := hq_1.1
  rw [hv_1] at hP
  rw [show ar_1 = ar from hq_1.2.1, show al_1 = al from hq_1.2.2] at hP
  refine lv_aload_n hE.1 hE.2.1 dX9_copyCourt_10 rfl (lv_at hl 0 rfl) ?_
  refine x_get (x := .ref (ad 7)) hE hK hP 0 (by decide) (yG_9 rfl) rfl hin9 17 (by decide) mw_1351 rfl dX9_copyCourt_11 ?_
  refine lv_bipush (v := 6) hE.1 hE.2.1 dX9_copyCourt_14 (by decide) ?_
  refine lv_iload_n hE.1 hE.2.1 dX9_copyCourt_16 rfl (lv_at hl 1 rfl) ?_
  refine lv_iload_n hE.1 hE.2.1 dX9_copyCourt_17 rfl (lv_at hl 2 rfl) ?_
  refine x_sv (nn := 4) (As := [.ref (ad 7), .int 6, .int 0, .int 3]) (rest := []) hE hK hN hP hS (k_copyRow l D K ad v ar al 7 30 (by decide) (fun _ => yG_10 rfl) hz_7 (Nat.le_of_ble_eq_true rfl) 6 0 3 (by decide) (by decide)) rfl mw_1635 mw_1636 mw_123 mw_1637 (by decide +kernel) ⟨by decide, by decide⟩ hl.1 rfl (Nat.le_of_ble_eq_true rfl) ⟨Nat.zero_le _, Nat.zero_le _⟩ dX9_copyCourt_18 (fun v_2 ar_2 al_2 H locs hq_2 hP hS => ?_)
  have hv_2 : v_2 = v := hq_2.1
  rw [hv_2] at hP
  rw [show ar_2 = ar from hq_2.2.1, show al_2 = al from hq_2.2.2] at hP
  refine lv_aload_n hE.1 hE.2.1 dX9_copyCourt_21 rfl (lv_at hl 0 rfl) ?_
  refine x_get (x := .ref (ad 8)) hE hK hP 0 (by decide) (yG_9 rfl) rfl hin9 18 (by decide) mw_1352 rfl dX9_copyCourt_22 ?_
  refine lv_bipush (v := 81) hE.1 hE.2.1 dX9_copyCourt_25 (by decide) ?_
  refine lv_iload_n hE.1 hE.2.1 dX9_copyCourt_27 rfl (lv_at hl 1 rfl) ?_
  refine lv_iload_n hE.1 hE.2.1 dX9_copyCourt_28 rfl (lv_at hl 2 rfl) ?_
  refine x_sv (nn := 4) (As := [.ref (ad 8), .int 81, .int 0, .int 3]) (rest := []) hE hK hN hP hS (k_copyRow l D K ad v ar al 8 405 (by decide) (fun _ => yG_10 rfl) hz_8 (Nat.le_of_ble_eq_true rfl) 81 0 3 (by decide) (by decide)) rfl mw_1635 mw_1636 mw_123 mw_1637 (by decide +kernel) ⟨by decide, by decide⟩ hl.1 rfl (Nat.le_of_ble_eq_true rfl) ⟨Nat.zero_le _, Nat.zero_le _⟩ dX9_copyCourt_29 (fun v_3 ar_3 al_3 H locs hq_3 hP hS => ?_)
  have hv_3 : v_3 = v := hq_3.1
  rw [hv_3] at hP
  rw [show ar_3 = ar from hq_3.2.1, show al_3 = al from hq_3.2.2] at hP
  refine lv_aload_n hE.1 hE.2.1 dX9_copyCourt_32 rfl (lv_at hl 0 rfl) ?_
  refine x_get (x := .ref (ad 9)) hE hK hP 0 (by decide) (yG_9 rfl) rfl hin9 19 (by decide) mw_1353 rfl dX9_copyCourt_33 ?_
  refine lv_bipush (v := 16) hE.1 hE.2.1 dX9_copyCourt_36 (by decide) ?_
  refine lv_iload_n hE.1 hE.2.1 dX9_copyCourt_38 rfl (lv_at hl 1 rfl) ?_
  refine lv_iload_n hE.1 hE.2.1 dX9_copyCourt_39 rfl (lv_at hl 2 rfl) ?_
  refine x_sv (nn := 4) (As := [.ref (ad 9), .int 16, .int 0, .int 3]) (rest := []) hE hK hN hP hS (k_copyRow l D K ad v ar al 9 80 (by decide) (fun _ => yG_10 rfl) hz_9 (Nat.le_of_ble_eq_true rfl) 16 0 3 (by decide) (by decide)) rfl mw_1635 mw_1636 mw_123 mw_1637 (by decide +kernel) ⟨by decide, by decide⟩ hl.1 rfl (Nat.le_of_ble_eq_true rfl) ⟨Nat.zero_le _, Nat.zero_le _⟩ dX9_copyCourt_40 (fun v_4 ar_4 al_4 H locs hq_4 hP hS => ?_)
  have hv_4 : v_4 = v := hq_4.1
  rw [hv_4] at hP
  rw [show ar_4 = ar from hq_4.2.1, show al_4 = al from hq_4.2.2] at hP
  refine lv_aload_n hE.1 hE.2.1 dX9_copyCourt_43 rfl (lv_at hl 0 rfl) ?_
  refine x_get (x := .ref (ad 10)) hE hK hP 0 (by decide) (yG_9 rfl) rfl hin9 20 (by decide) mw_1354 rfl dX9_copyCourt_44 ?_
  refine lv_bipush (v := 18) hE.1 hE.2.1 dX9_copyCourt_47 (by decide) ?_
  refine lv_iload_n hE.1 hE.2.1 dX9_copyCourt_49 rfl (lv_at hl 1 rfl) ?_
  refine lv_iload_n hE.1 hE.2.1 dX9_copyCourt_50 rfl (lv_at hl 2 rfl) ?_
  refine x_sv (nn := 4) (As := [.ref (ad 10), .int 18, .int 0, .int 3]) (rest := []) hE hK hN hP hS (k_copyRow l D K ad v ar al 10 90 (by decide) (fun _ => yG_10 rfl) hz_10 (Nat.le_of_ble_eq_true rfl) 18 0 3 (by decide) (by decide)) rfl mw_1635 mw_1636 mw_123 mw_1637 (by decide +kernel) ⟨by decide, by decide⟩ hl.1 rfl (Nat.le_of_ble_eq_true rfl) ⟨Nat.zero_le _, Nat.zero_le _⟩ dX9_copyCourt_51 (fun v_5 ar_5 al_5 H locs hq_5 hP hS => ?_)
  have hv_5 : v_5 = v := hq_5.1
  rw [hv_5] at hP
  rw [show ar_5 = ar from hq_5.2.1, show al_5 = al from hq_5.2.2] at hP
  exact x_wv hE hr hlo hP hS ⟨fun i j h => rfl, rfl, rfl⟩ dX9_copyCourt_54

theorem dX9_empties_0 : decode cX9_empties 0 = .ok (.aload_n 0, 1) := by decide +kernel
theorem dX9_empties_1 : decode cX9_empties 1 = .ok (.iconst 0, 1) := by decide +kernel
theorem dX9_empties_2 : decode cX9_empties 2 = .ok (.putfield 265, 3) := by decide +kernel
theorem dX9_empties_5 : decode cX9_empties 5 = .ok (.aload_n 0, 1) := by decide +kernel
theorem dX9_empties_6 : decode cX9_empties 6 = .ok (.iconst 0, 1) := by decide +kernel
theorem dX9_empties_7 : decode cX9_empties 7 = .ok (.putfield 268, 3) := by decide +kernel
theorem dX9_empties_10 : decode cX9_empties 10 = .ok (.aload_n 0, 1) := by decide +kernel
theorem dX9_empties_11 : decode cX9_empties 11 = .ok (.iconst (-1), 1) := by decide +kernel
theorem dX9_empties_12 : decode cX9_empties 12 = .ok (.putfield 277, 3) := by decide +kernel
theorem dX9_empties_15 : decode cX9_empties 15 = .ok (.aload_n 0, 1) := by decide +kernel
theorem dX9_empties_16 : decode cX9_empties 16 = .ok (.iconst 0, 1) := by decide +kernel
theorem dX9_empties_17 : decode cX9_empties 17 = .ok (.putfield 271, 3) := by decide +kernel
theorem dX9_empties_20 : decode cX9_empties 20 = .ok (.iconst 0, 1) := by decide +kernel
theorem dX9_empties_21 : decode cX9_empties 21 = .ok (.istore_n 1, 1) := by decide +kernel
theorem dX9_empties_22 : decode cX9_empties 22 = .ok (.iload_n 1, 1) := by decide +kernel
theorem dX9_empties_23 : decode cX9_empties 23 = .ok (.iconst 3, 1) := by decide +kernel
theorem dX9_empties_24 : decode cX9_empties 24 = .ok (.if_icmp .ge 16, 3) := by decide +kernel
theorem dX9_empties_27 : decode cX9_empties 27 = .ok (.aload_n 0, 1) := by decide +kernel
theorem dX9_empties_28 : decode cX9_empties 28 = .ok (.getfield 56, 3) := by decide +kernel
theorem dX9_empties_31 : decode cX9_empties 31 = .ok (.iload_n 1, 1) := by decide +kernel
theorem dX9_empties_32 : decode cX9_empties 32 = .ok (.iconst 0, 1) := by decide +kernel
theorem dX9_empties_33 : decode cX9_empties 33 = .ok (.iastore, 1) := by decide +kernel
theorem dX9_empties_34 : decode cX9_empties 34 = .ok (.iinc 1 1, 3) := by decide +kernel
theorem dX9_empties_37 : decode cX9_empties 37 = .ok (.goto (-15), 3) := by decide +kernel
theorem dX9_empties_40 : decode cX9_empties 40 = .ok (.return_, 1) := by decide +kernel
set_option maxHeartbeats 4000000 in
set_option maxRecDepth 100000 in
theorem k_X9_empties (l : Launch) (D : va_G) (K : Nat → ClassId) (ad : Nat → Nat) (v ar : sI) (al : sL) (hz_14 : ar 14 = fun _ => 0) : Met l yX9_empties (wM yX9_empties cX9_empties 2 none) (rmD 0) (va_Pc [.ref (ad 0)] (wPre D K ad (yG ad K) 21 v ar al)) (va_Qv (fun u : sT => (∀ i j : Nat, (i, j) ∉ ([(0, 24), (0, 25), (0, 26), (0, 27)] : List (Nat × Nat)) → u.1 i j = v i j) ∧ u.2.1 = ar ∧ u.2.2 = al) (wB D ad (yG ad K) 21) (inW ad 21)) 0 0 (inW ad 21) := by
  refine x_met (by decide) (Nat.le_of_ble_eq_true rfl) ?_
  intro p e s m below meth c ls hE hr hlo hnm hB hl
  have hE : CallFix p m c cX9_empties 2 s _ tbG "TaleCourtModel" := hE
  obtain ⟨hP, hK, hN⟩ := hB
  have hS : va_S (inW ad 21) s.heap s.heap [] := va_S.rf
  have hl : lv_has ls 2 [(0, .ref (ad 0))] := hl
  refine lv_aload_n hE.1 hE.2.1 dX9_empties_0 rfl (lv_at hl 0 rfl) ?_
  refine lv_iconst (v := 0) hE.1 hE.2.1 dX9_empties_1 (by decide) ?_
  refine x_put hE hK hN hP hS 0 (by decide) (yG_9 rfl) rfl hin9 tyX9 tyX9_ok nmX9 24 (by decide) mw_1358 rfl rfl rfl (Nat.le_of_ble_eq_true rfl) (yG_9 rfl) dX9_empties_2 (fun v_1 H locs hv_1 hP hS => ?_)
  refine lv_aload_n hE.1 hE.2.1 dX9_empties_5 rfl (lv_at hl 0 rfl) ?_
  refine lv_iconst (v := 0) hE.1 hE.2.1 dX9_empties_6 (by decide) ?_
  refine x_put hE hK hN hP hS 0 (by decide) (yG_9 rfl) rfl hin9 tyX9 tyX9_ok nmX9 25 (by decide) mw_1359 rfl rfl rfl (Nat.le_of_ble_eq_true rfl) (yG_9 rfl) dX9_empties_7 (fun v_2 H locs hv_2 hP hS => ?_)
  refine lv_aload_n hE.1 hE.2.1 dX9_empties_10 rfl (lv_at hl 0 rfl) ?_
  refine lv_iconst (v := (-1)) hE.1 hE.2.1 dX9_empties_11 (by decide) ?_
  refine x_put hE hK hN hP hS 0 (by decide) (yG_9 rfl) rfl hin9 tyX9 tyX9_ok nmX9 26 (by decide) mw_1360 rfl rfl rfl (Nat.le_of_ble_eq_true rfl) (yG_9 rfl) dX9_empties_12 (fun v_3 H locs hv_3 hP hS => ?_)
  refine lv_aload_n hE.1 hE.2.1 dX9_empties_15 rfl (lv_at hl 0 rfl) ?_
  refine lv_iconst (v := 0) hE.1 hE.2.1 dX9_empties_16 (by decide) ?_
  refine x_put hE hK hN hP hS 0 (by decide) (yG_9 rfl) rfl hin9 tyX9 tyX9_ok nmX9 27 (by decide) mw_1361 rfl rfl rfl (Nat.le_of_ble_eq_true rfl) (yG_9 rfl) dX9_empties_17 (fun v_4 H locs hv_4 hP hS => ?_)
  refine lv_iconst (v := 0) hE.1 hE.2.1 dX9_empties_20 (by decide) ?_
  refine lv_istore_n (lv' := [(1, .int 0), (0, .ref (ad 0))]) hE.1 hE.2.1 dX9_empties_21 rfl hl (by decide) rfl (fun ls hl => ?_)
  refine lv_iload_n hE.1 hE.2.1 dX9_empties_22 rfl (lv_at hl 0 rfl) ?_
  refine lv_iconst (v := 3) hE.1 hE.2.1 dX9_empties_23 (by decide) ?_
  refine lv_icmp_ge (tgt := 40) hE.1 hE.2.1 dX9_empties_24 (by decide) (fun h => absurd h (by decide)) (fun _ => ?_)
  refine lv_aload_n hE.1 hE.2.1 dX9_empties_27 rfl (lv_at hl 1 rfl) ?_
  refine x_get (x := .ref (ad 14)) hE hK hP 0 (by decide) (yG_9 rfl) rfl hin9 28 (by decide) mw_1362 rfl dX9_empties_28 ?_
  refine lv_iload_n hE.1 hE.2.1 dX9_empties_31 rfl (lv_at hl 0 rfl) ?_
  refine lv_iconst (v := 0) hE.1 hE.2.1 dX9_empties_32 (by decide) ?_
  refine x_iast (j := 0) hE hK hN hP hS 14 (by decide) (fun _ => yG_10 rfl) (by unfold vp_in; decide) dX9_empties_33 (fun ar_5 H locs har_5 hP hS => ?_)
  rw [har_5.trans (up_same (congrFun hz_14 _))] at hP
  refine lv_iinc (v := 1) (lv' := [(1, .int 1), (0, .ref (ad 0))]) hE.1 hE.2.1 dX9_empties_34 hl (k := 0) rfl (by decide) (by decide) rfl (fun ls hl => ?_)
  refine lv_goto (tgt := 22) hE.1 hE.2.1 dX9_empties_37 (by decide) ?_
  refine lv_iload_n hE.1 hE.2.1 dX9_empties_22 rfl (lv_at hl 0 rfl) ?_
  refine lv_iconst (v := 3) hE.1 hE.2.1 dX9_empties_23 (by decide) ?_
  refine lv_icmp_ge (tgt := 40) hE.1 hE.2.1 dX9_empties_24 (by decide) (fun h => absurd h (by decide)) (fun _ => ?_)
  refine lv_aload_n hE.1 hE.2.1 dX9_empties_27 rfl (lv_at hl 1 rfl) ?_
  refine x_get (x := .ref (ad 14)) hE hK hP 0 (by decide) (yG_9 rfl) rfl hin9 28 (by decide) mw_1362 rfl dX9_empties_28 ?_
  refine lv_iload_n hE.1 hE.2.1 dX9_empties_31 rfl (lv_at hl 0 rfl) ?_
  refine lv_iconst (v := 0) hE.1 hE.2.1 dX9_empties_32 (by decide) ?_
  refine x_iast (j := 1) hE hK hN hP hS 14 (by decide) (fun _ => yG_10 rfl) (by unfold vp_in; decide) dX9_empties_33 (fun ar_6 H locs har_6 hP hS => ?_)
  rw [har_6.trans (up_same (congrFun hz_14 _))] at hP
  refine lv_iinc (v := 2) (lv' := [(1, .int 2), (0, .ref (ad 0))]) hE.1 hE.2.1 dX9_empties_34 hl (k := 0) rfl (by decide) (by decide) rfl (fun ls hl => ?_)
  refine lv_goto (tgt := 22) hE.1 hE.2.1 dX9_empties_37 (by decide) ?_
  refine lv_iload_n hE.1 hE.2.1 dX9_empties_22 rfl (lv_at hl 0 rfl) ?_
  refine lv_iconst (v := 3) hE.1 hE.2.1 dX9_empties_23 (by decide) ?_
  refine lv_icmp_ge (tgt := 40) hE.1 hE.2.1 dX9_empties_24 (by decide) (fun h => absurd h (by decide)) (fun _ => ?_)
  refine lv_aload_n hE.1 hE.2.1 dX9_empties_27 rfl (lv_at hl 1 rfl) ?_
  refine x_get (x := .ref (ad 14)) hE hK hP 0 (by decide) (yG_9 rfl) rfl hin9 28 (by decide) mw_1362 rfl dX9_empties_28 ?_
  refine lv_iload_n hE.1 hE.2.1 dX9_empties_31 rfl (lv_at hl 0 rfl) ?_
  refine lv_iconst (v := 0) hE.1 hE.2.1 dX9_empties_32 (by decide) ?_
  refine x_iast (j := 2) hE hK hN hP hS 14 (by decide) (fun _ => yG_10 rfl) (by unfold vp_in; decide) dX9_empties_33 (fun ar_7 H locs har_7 hP hS => ?_)
  rw [har_7.trans (up_same (congrFun hz_14 _))] at hP
  refine lv_iinc (v := 3) (lv' := [(1, .int 3), (0, .ref (ad 0))]) hE.1 hE.2.1 dX9_empties_34 hl (k := 0) rfl (by decide) (by decide) rfl (fun ls hl => ?_)
  refine lv_goto (tgt := 22) hE.1 hE.2.1 dX9_empties_37 (by decide) ?_
  refine lv_iload_n hE.1 hE.2.1 dX9_empties_22 rfl (lv_at hl 0 rfl) ?_
  refine lv_iconst (v := 3) hE.1 hE.2.1 dX9_empties_23 (by decide) ?_
  refine lv_icmp_ge (tgt := 40) hE.1 hE.2.1 dX9_empties_24 (by decide) (fun _ => ?_) (fun h => absurd (by decide) h)
  exact x_wv hE hr hlo hP hS ⟨fun i j h => ((up_oth hv_4 (fun q => h (by rcases q with ⟨rfl, rfl⟩; decide))).trans ((up_oth hv_3 (fun q => h (by rcases q with ⟨rfl, rfl⟩; decide))).trans ((up_oth hv_2 (fun q => h (by rcases q with ⟨rfl, rfl⟩; decide))).trans (up_oth hv_1 (fun q => h (by rcases q with ⟨rfl, rfl⟩; decide)))))), rfl, rfl⟩ dX9_empties_40

theorem dX9_lays_0 : decode cX9_lays 0 = .ok (.aload_n 0, 1) := by decide +kernel
theorem dX9_lays_1 : decode cX9_lays 1 = .ok (.invokevirtual 280, 3) := by decide +kernel
theorem dX9_lays_4 : decode cX9_lays 4 = .ok (.iconst 0, 1) := by decide +kernel
theorem dX9_lays_5 : decode cX9_lays 5 = .ok (.istore_n 1, 1) := by decide +kernel
theorem dX9_lays_6 : decode cX9_lays 6 = .ok (.iload_n 1, 1) := by decide +kernel
theorem dX9_lays_7 : decode cX9_lays 7 = .ok (.aload_n 0, 1) := by decide +kernel
theorem dX9_lays_8 : decode cX9_lays 8 = .ok (.getfield 34, 3) := by decide +kernel
theorem dX9_lays_11 : decode cX9_lays 11 = .ok (.iconst 5, 1) := by decide +kernel
theorem dX9_lays_12 : decode cX9_lays 12 = .ok (.iaload, 1) := by decide +kernel
theorem dX9_lays_13 : decode cX9_lays 13 = .ok (.if_icmp .ge 19, 3) := by decide +kernel
theorem dX9_lays_32 : decode cX9_lays 32 = .ok (.return_, 1) := by decide +kernel
set_option maxHeartbeats 4000000 in
set_option maxRecDepth 100000 in
theorem k_X9_lays_e (l : Launch) (D : va_G) (K : Nat → ClassId) (ad : Nat → Nat) (v ar : sI) (al : sL) (hz_7 : ar 7 = fun _ => 0) (hz_14 : ar 14 = fun _ => 0) : Met l yX9_lays (wM yX9_lays cX9_lays 2 none) (rmD 1) (va_Pc [.ref (ad 0)] (wPre D K ad (yG ad K) 21 v ar al)) (va_Qv (fun u : sT => (∀ i j : Nat, (i, j) ∉ ([(0, 24), (0, 25), (0, 26), (0, 27)] : List (Nat × Nat)) → u.1 i j = v i j) ∧ u.2.1 = ar ∧ u.2.2 = al) (wB D ad (yG ad K) 21) (inW ad 21)) 0 0 (inW ad 21) := by
  refine x_met (by decide) (Nat.le_of_ble_eq_true rfl) ?_
  intro p e s m below meth c ls hE hr hlo hnm hB hl
  have hE : CallFix p m c cX9_lays 2 s _ tbG "TaleCourtModel" := hE
  obtain ⟨hP, hK, hN⟩ := hB
  have hS : va_S (inW ad 21) s.heap s.heap [] := va_S.rf
  have hl : lv_has ls 2 [(0, .ref (ad 0))] := hl
  refine lv_aload_n hE.1 hE.2.1 dX9_lays_0 rfl (lv_at hl 0 rfl) ?_
  refine x_vv (nn := 0) (As := []) (rest := []) hE hK hN hP hS (k_X9_empties l D K ad v ar al hz_14 ) (x_recv hK hP 0 (by decide) (yG_9 rfl) rfl) rfl mw_1642 mw_1644 mw_70 mw_123 mw_1645 (by decide +kernel) ⟨by decide, by decide⟩ hl.1 rfl (Nat.le_of_ble_eq_true rfl) ⟨Nat.zero_le _, Nat.zero_le _⟩ dX9_lays_1 (fun v_1 ar_1 al_1 H locs hq_1 hP hS => ?_)
  rw [show ar_1 = ar from hq_1.2.1, show al_1 = al from hq_1.2.2] at hP
  refine lv_iconst (v := 0) hE.1 hE.2.1 dX9_lays_4 (by decide) ?_
  refine lv_istore_n (lv' := [(1, .int 0), (0, .ref (ad 0))]) hE.1 hE.2.1 dX9_lays_5 rfl hl (by decide) rfl (fun ls hl => ?_)
  refine lv_iload_n hE.1 hE.2.1 dX9_lays_6 rfl (lv_at hl 0 rfl) ?_
  refine lv_aload_n hE.1 hE.2.1 dX9_lays_7 rfl (lv_at hl 1 rfl) ?_
  refine x_get (x := .ref (ad 7)) hE hK hP 0 (by decide) (yG_9 rfl) rfl hin9 17 (by decide) mw_1351 rfl dX9_lays_8 ?_
  refine lv_iconst (v := 5) hE.1 hE.2.1 dX9_lays_11 (by decide) ?_
  refine x_iald (j := 5) hE hK hP 7 (by decide) (yG_10 rfl) (by unfold vp_in; decide) dX9_lays_12 ?_
  refine x_top (y := 0) (congrFun hz_7 _) ?_
  refine lv_icmp_ge (tgt := 32) hE.1 hE.2.1 dX9_lays_13 (by decide) (fun _ => ?_) (fun h => absurd (by decide) h)
  exact x_wv hE hr hlo hP hS ⟨fun i j h => (hq_1.1 i j (fun q => h (mem_sub (by decide) q))), rfl, rfl⟩ dX9_lays_32

theorem dX9_court_0 : decode cX9_court 0 = .ok (.aload_n 0, 1) := by decide +kernel
theorem dX9_court_1 : decode cX9_court 1 = .ok (.iconst 0, 1) := by decide +kernel
theorem dX9_court_2 : decode cX9_court 2 = .ok (.putfield 81, 3) := by decide +kernel
theorem dX9_court_5 : decode cX9_court 5 = .ok (.aload_n 0, 1) := by decide +kernel
theorem dX9_court_6 : decode cX9_court 6 = .ok (.invokevirtual 221, 3) := by decide +kernel
theorem dX9_court_9 : decode cX9_court 9 = .ok (.aload_n 0, 1) := by decide +kernel
theorem dX9_court_10 : decode cX9_court 10 = .ok (.invokevirtual 224, 3) := by decide +kernel
theorem dX9_court_13 : decode cX9_court 13 = .ok (.aload_n 0, 1) := by decide +kernel
theorem dX9_court_14 : decode cX9_court 14 = .ok (.invokevirtual 175, 3) := by decide +kernel
theorem dX9_court_17 : decode cX9_court 17 = .ok (.ifCond .eq 89, 3) := by decide +kernel
theorem dX9_court_20 : decode cX9_court 20 = .ok (.aload_n 0, 1) := by decide +kernel
theorem dX9_court_21 : decode cX9_court 21 = .ok (.getfield 122, 3) := by decide +kernel
theorem dX9_court_24 : decode cX9_court 24 = .ok (.ifCond .eq 82, 3) := by decide +kernel
theorem dX9_court_106 : decode cX9_court 106 = .ok (.aload_n 0, 1) := by decide +kernel
theorem dX9_court_107 : decode cX9_court 107 = .ok (.invokevirtual 239, 3) := by decide +kernel
theorem dX9_court_110 : decode cX9_court 110 = .ok (.aload_n 0, 1) := by decide +kernel
theorem dX9_court_111 : decode cX9_court 111 = .ok (.getfield 133, 3) := by decide +kernel
theorem dX9_court_114 : decode cX9_court 114 = .ok (.ifCond .eq 6, 3) := by decide +kernel
theorem dX9_court_120 : decode cX9_court 120 = .ok (.aload_n 0, 1) := by decide +kernel
theorem dX9_court_121 : decode cX9_court 121 = .ok (.iconst 4, 1) := by decide +kernel
theorem dX9_court_122 : decode cX9_court 122 = .ok (.iconst 0, 1) := by decide +kernel
theorem dX9_court_123 : decode cX9_court 123 = .ok (.invokevirtual 242, 3) := by decide +kernel
theorem dX9_court_126 : decode cX9_court 126 = .ok (.aload_n 0, 1) := by decide +kernel
theorem dX9_court_127 : decode cX9_court 127 = .ok (.invokevirtual 246, 3) := by decide +kernel
theorem dX9_court_130 : decode cX9_court 130 = .ok (.aload_n 0, 1) := by decide +kernel
theorem dX9_court_131 : decode cX9_court 131 = .ok (.getfield 31, 3) := by decide +kernel
theorem dX9_court_134 : decode cX9_court 134 = .ok (.iconst 0, 1) := by decide +kernel
theorem dX9_court_135 : decode cX9_court 135 = .ok (.iaload, 1) := by decide +kernel
theorem dX9_court_136 : decode cX9_court 136 = .ok (.ireturn, 1) := by decide +kernel
set_option maxHeartbeats 4000000 in
set_option maxRecDepth 100000 in
theorem k_X9_court (l : Launch) (D : va_G) (K : Nat → ClassId) (ad : Nat → Nat) : Met l yX9_court (wM yX9_court cX9_court 1 (some .int)) (rmD 3) (va_Pc [.ref (ad 0)] (wPre D K ad (yG ad K) 21 yv0 ya0 yl0)) (va_Qi (fun (r : Int32) (_ : sT) => r = 0) (wB D ad (yG ad K) 21) (inW ad 21)) 0 0 (inW ad 21) := by
  refine x_met (by decide) (Nat.le_of_ble_eq_true rfl) ?_
  intro p e s m below meth c ls hE hr hlo hnm hB hl
  have hE : CallFix p m c cX9_court 1 s _ tbG "TaleCourtModel" := hE
  obtain ⟨hP, hK, hN⟩ := hB
  have hS : va_S (inW ad 21) s.heap s.heap [] := va_S.rf
  have hl : lv_has ls 1 [(0, .ref (ad 0))] := hl
  refine lv_aload_n hE.1 hE.2.1 dX9_court_0 rfl (lv_at hl 0 rfl) ?_
  refine lv_iconst (v := 0) hE.1 hE.2.1 dX9_court_1 (by decide) ?_
  refine x_put hE hK hN hP hS 0 (by decide) (yG_9 rfl) rfl hin9 tyX9 tyX9_ok nmX9 0 (by decide) mw_1334 rfl rfl rfl (Nat.le_of_ble_eq_true rfl) (yG_9 rfl) dX9_court_2 (fun v_1 H locs hv_1 hP hS => ?_)
  rw [hv_1.trans (up_same rfl)] at hP
  refine lv_aload_n hE.1 hE.2.1 dX9_court_5 rfl (lv_at hl 0 rfl) ?_
  refine x_vv (nn := 0) (As := []) (rest := []) hE hK hN hP hS (k_X9_clears l D K ad yv0 ya0 yl0 rfl rfl ) (x_recv hK hP 0 (by decide) (yG_9 rfl) rfl) rfl mw_1528 mw_1530 mw_48 mw_123 mw_1531 (by decide +kernel) ⟨by decide, by decide⟩ hl.1 rfl (Nat.le_of_ble_eq_true rfl) ⟨Nat.zero_le _, Nat.zero_le _⟩ dX9_court_6 (fun v_2 ar_2 al_2 H locs hq_2 hP hS => ?_)
  rw [show ar_2 = ya0 from hq_2.2.1, show al_2 = yl0 from hq_2.2.2] at hP
  refine lv_aload_n hE.1 hE.2.1 dX9_court_9 rfl (lv_at hl 0 rfl) ?_
  refine x_vv (nn := 0) (As := []) (rest := []) hE hK hN hP hS (k_X9_begins_e l D K ad v_2 ya0 yl0 ((hq_2.1 0 6 (by decide)).trans rfl) rfl ) (x_recv hK hP 0 (by decide) (yG_9 rfl) rfl) rfl mw_1532 mw_1534 mw_49 mw_123 mw_1535 (by decide +kernel) ⟨by decide, by decide⟩ hl.1 rfl (Nat.le_of_ble_eq_true rfl) ⟨Nat.zero_le _, Nat.zero_le _⟩ dX9_court_10 (fun v_3 ar_3 al_3 H locs hq_3 hP hS => ?_)
  rw [show ar_3 = ya0 from hq_3.2.2.2.1, show al_3 = yl0 from hq_3.2.2.2.2] at hP
  refine lv_aload_n hE.1 hE.2.1 dX9_court_13 rfl (lv_at hl 0 rfl) ?_
  refine x_vp (nn := 0) (As := []) (rest := []) hE (k_X9_isGood_1 l D K ad v_3 ya0 yl0 hq_3.2.2.1) wPre_blind (wPre_now hK hN hP) (x_recv hK hP 0 (by decide) (yG_9 rfl) rfl) rfl mw_1549 mw_1551 mw_52 mw_123 mw_1552 (by decide +kernel) ⟨by decide, by decide⟩ hl.1 rfl (Nat.le_of_ble_eq_true rfl) ⟨Nat.zero_le _, Nat.zero_le _⟩ dX9_court_14 (fun r_4 hr_4 => ?_)
  subst hr_4
  refine lv_if_eq (tgt := 106) hE.1 hE.2.1 dX9_court_17 (by decide) (fun h => absurd h (by decide)) (fun _ => ?_)
  refine lv_aload_n hE.1 hE.2.1 dX9_court_20 rfl (lv_at hl 0 rfl) ?_
  refine x_get (x := .int (v_3 0 8)) hE hK hP 0 (by decide) (yG_9 rfl) rfl hin9 8 (by decide) mw_1342 rfl dX9_court_21 ?_
  refine x_top (y := 0) hq_3.2.1 ?_
  refine lv_if_eq (tgt := 106) hE.1 hE.2.1 dX9_court_24 (by decide) (fun _ => ?_) (fun h => absurd (by decide) h)
  refine lv_aload_n hE.1 hE.2.1 dX9_court_106 rfl (lv_at hl 0 rfl) ?_
  refine x_vv (nn := 0) (As := []) (rest := []) hE hK hN hP hS (k_X9_isOver_e l D K ad v_3 ya0 yl0 hq_3.2.2.1 ) (x_recv hK hP 0 (by decide) (yG_9 rfl) rfl) rfl mw_1627 mw_1629 mw_67 mw_123 mw_1630 (by decide +kernel) ⟨by decide, by decide⟩ hl.1 rfl (Nat.le_of_ble_eq_true rfl) ⟨Nat.zero_le _, Nat.zero_le _⟩ dX9_court_107 (fun v_5 ar_5 al_5 H locs hq_5 hP hS => ?_)
  rw [show ar_5 = ya0 from hq_5.2.1, show al_5 = yl0 from hq_5.2.2] at hP
  refine lv_aload_n hE.1 hE.2.1 dX9_court_110 rfl (lv_at hl 0 rfl) ?_
  refine x_get (x := .int (v_5 0 12)) hE hK hP 0 (by decide) (yG_9 rfl) rfl hin9 12 (by decide) mw_1346 rfl dX9_court_111 ?_
  refine x_top (y := 0) ((hq_5.1 0 12 (by decide)).trans hq_3.2.2.1) ?_
  refine lv_if_eq (tgt := 120) hE.1 hE.2.1 dX9_court_114 (by decide) (fun _ => ?_) (fun h => absurd (by decide) h)
  refine lv_aload_n hE.1 hE.2.1 dX9_court_120 rfl (lv_at hl 0 rfl) ?_
  refine lv_iconst (v := 4) hE.1 hE.2.1 dX9_court_121 (by decide) ?_
  refine lv_iconst (v := 0) hE.1 hE.2.1 dX9_court_122 (by decide) ?_
  refine x_vv (nn := 2) (As := [.int 4, .int 0]) (rest := []) hE hK hN hP hS (k_X9_copyCourt_4_0 l D K ad v_5 ya0 yl0 rfl rfl rfl rfl rfl) (x_recv hK hP 0 (by decide) (yG_9 rfl) rfl) rfl mw_1631 mw_1633 mw_68 mw_123 mw_1634 (by decide +kernel) ⟨by decide, by decide⟩ hl.1 rfl (Nat.le_of_ble_eq_true rfl) ⟨Nat.zero_le _, Nat.zero_le _⟩ dX9_court_123 (fun v_6 ar_6 al_6 H locs hq_6 hP hS => ?_)
  rw [show ar_6 = ya0 from hq_6.2.1, show al_6 = yl0 from hq_6.2.2] at hP
  refine lv_aload_n hE.1 hE.2.1 dX9_court_126 rfl (lv_at hl 0 rfl) ?_
  refine x_vv (nn := 0) (As := []) (rest := []) hE hK hN hP hS (k_X9_lays_e l D K ad v_6 ya0 yl0 rfl rfl ) (x_recv hK hP 0 (by decide) (yG_9 rfl) rfl) rfl mw_1638 mw_1640 mw_69 mw_123 mw_1641 (by decide +kernel) ⟨by decide, by decide⟩ hl.1 rfl (Nat.le_of_ble_eq_true rfl) ⟨Nat.zero_le _, Nat.zero_le _⟩ dX9_court_127 (fun v_7 ar_7 al_7 H locs hq_7 hP hS => ?_)
  rw [show ar_7 = ya0 from hq_7.2.1, show al_7 = yl0 from hq_7.2.2] at hP
  refine lv_aload_n hE.1 hE.2.1 dX9_court_130 rfl (lv_at hl 0 rfl) ?_
  refine x_get (x := .ref (ad 6)) hE hK hP 0 (by decide) (yG_9 rfl) rfl hin9 16 (by decide) mw_1350 rfl dX9_court_131 ?_
  refine lv_iconst (v := 0) hE.1 hE.2.1 dX9_court_134 (by decide) ?_
  refine x_iald (j := 0) hE hK hP 6 (by decide) (yG_10 rfl) (by unfold vp_in; decide) dX9_court_135 ?_
  refine x_top (y := 0) (by decide) ?_
  exact x_wi (post := fun r _ => r = 0) hE hr hlo hP hS rfl (show (0 : Int32) = 0 from rfl) dX9_court_136

theorem dX9_keep_0 : decode cX9_keep 0 = .ok (.aload_n 0, 1) := by decide +kernel
theorem dX9_keep_1 : decode cX9_keep 1 = .ok (.iconst 0, 1) := by decide +kernel
theorem dX9_keep_2 : decode cX9_keep 2 = .ok (.putfield 81, 3) := by decide +kernel
theorem dX9_keep_5 : decode cX9_keep 5 = .ok (.iload_n 1, 1) := by decide +kernel
theorem dX9_keep_6 : decode cX9_keep 6 = .ok (.i2l, 1) := by decide +kernel
theorem dX9_keep_7 : decode cX9_keep 7 = .ok (.lconst 0, 1) := by decide +kernel
theorem dX9_keep_8 : decode cX9_keep 8 = .ok (.ldc2_w 461, 3) := by decide +kernel
theorem dX9_keep_11 : decode cX9_keep 11 = .ok (.invokestatic 86, 3) := by decide +kernel
theorem dX9_keep_14 : decode cX9_keep 14 = .ok (.ifCond .ne 6, 3) := by decide +kernel
theorem dX9_keep_17 : decode cX9_keep 17 = .ok (.bipush (-2), 2) := by decide +kernel
theorem dX9_keep_19 : decode cX9_keep 19 = .ok (.ireturn, 1) := by decide +kernel
theorem dX9_keep_20 : decode cX9_keep 20 = .ok (.aload_n 0, 1) := by decide +kernel
theorem dX9_keep_21 : decode cX9_keep 21 = .ok (.iconst 0, 1) := by decide +kernel
theorem dX9_keep_22 : decode cX9_keep 22 = .ok (.iconst 1, 1) := by decide +kernel
theorem dX9_keep_23 : decode cX9_keep 23 = .ok (.iload_n 1, 1) := by decide +kernel
theorem dX9_keep_24 : decode cX9_keep 24 = .ok (.iadd, 1) := by decide +kernel
theorem dX9_keep_25 : decode cX9_keep 25 = .ok (.invokevirtual 242, 3) := by decide +kernel
theorem dX9_keep_28 : decode cX9_keep 28 = .ok (.aload_n 0, 1) := by decide +kernel
theorem dX9_keep_29 : decode cX9_keep 29 = .ok (.getfield 46, 3) := by decide +kernel
theorem dX9_keep_32 : decode cX9_keep 32 = .ok (.iload_n 1, 1) := by decide +kernel
theorem dX9_keep_33 : decode cX9_keep 33 = .ok (.iconst 1, 1) := by decide +kernel
theorem dX9_keep_34 : decode cX9_keep 34 = .ok (.bastore, 1) := by decide +kernel
theorem dX9_keep_35 : decode cX9_keep 35 = .ok (.iconst 0, 1) := by decide +kernel
theorem dX9_keep_36 : decode cX9_keep 36 = .ok (.ireturn, 1) := by decide +kernel
set_option maxHeartbeats 4000000 in
set_option maxRecDepth 100000 in
theorem k_X9_keep (l : Launch) (D : va_G) (K : Nat → ClassId) (ad : Nat → Nat) (p1 : Int32) : Met l yX9_keep (wM yX9_keep cX9_keep 2 (some .int)) (rmD 2) (va_Pc [.ref (ad 0), .int p1] (wPre D K ad (yG ad K) 21 yv0 ya0 yl0)) (va_Qi (fun (r : Int32) (_ : sT) => r = fKeep p1) (wB D ad (yG ad K) 21) (inW ad 21)) 0 0 (inW ad 21) := by
  refine x_met (by decide) (Nat.le_of_ble_eq_true rfl) ?_
  intro p e s m below meth c ls hE hr hlo hnm hB hl
  have hE : CallFix p m c cX9_keep 2 s _ tbG "TaleCourtModel" := hE
  obtain ⟨hP, hK, hN⟩ := hB
  have hS : va_S (inW ad 21) s.heap s.heap [] := va_S.rf
  have hl : lv_has ls 2 [(0, .ref (ad 0)), (1, .int p1)] := hl
  refine lv_aload_n hE.1 hE.2.1 dX9_keep_0 rfl (lv_at hl 0 rfl) ?_
  refine lv_iconst (v := 0) hE.1 hE.2.1 dX9_keep_1 (by decide) ?_
  refine x_put hE hK hN hP hS 0 (by decide) (yG_9 rfl) rfl hin9 tyX9 tyX9_ok nmX9 0 (by decide) mw_1334 rfl rfl rfl (Nat.le_of_ble_eq_true rfl) (yG_9 rfl) dX9_keep_2 (fun v_1 H locs hv_1 hP hS => ?_)
  rw [hv_1.trans (up_same rfl)] at hP
  refine lv_iload_n hE.1 hE.2.1 dX9_keep_5 rfl (lv_at hl 1 rfl) ?_
  refine lv_i2l (v := (p1.toInt64)) hE.1 hE.2.1 dX9_keep_6 rfl ?_
  refine lv_lconst (v := 0) hE.1 hE.2.1 dX9_keep_7 (by decide) ?_
  refine lv_ldc2 (v := 2) hE.1 hE.2.1 hE.2.2.2.1 (hE.2.2.2.2 _ mw_2046) dX9_keep_8 ?_
  refine x_sp (nn := 3) (As := [.long (p1.toInt64), .long 0, .long 2]) (rest := []) hE (k_X9_in l (p1.toInt64) 0 2) tt_blind (fun _ _ _ => trivial) rfl mw_1494 mw_1495 mw_123 mw_1496 (by decide +kernel) ⟨by decide, by decide⟩ hl.1 rfl (Nat.le_of_ble_eq_true rfl) ⟨Nat.zero_le _, Nat.zero_le _⟩ dX9_keep_11 (fun r_2 hr_2 => ?_)
  subst hr_2
  refine x_top (y := imB p1) (inL_img p1) ?_
  refine lv_if_ne (tgt := 20) hE.1 hE.2.1 dX9_keep_14 (by decide) (fun c_3 => ?_) (fun c_3 => ?_)
  · skip
    rcases imB_cases c_3 with rfl | rfl | rfl
    · skip
      refine lv_aload_n hE.1 hE.2.1 dX9_keep_20 rfl (lv_at hl 0 rfl) ?_
      refine lv_iconst (v := 0) hE.1 hE.2.1 dX9_keep_21 (by decide) ?_
      refine lv_iconst (v := 1) hE.1 hE.2.1 dX9_keep_22 (by decide) ?_
      refine lv_iload_n hE.1 hE.2.1 dX9_keep_23 rfl (lv_at hl 1 rfl) ?_
      refine lv_iadd hE.1 hE.2.1 dX9_keep_24 ?_
      refine x_top (y := 1) (by decide) ?_
      refine x_vv (nn := 2) (As := [.int 0, .int 1]) (rest := []) hE hK hN hP hS (k_X9_copyCourt_0_1 l D K ad yv0 ya0 yl0 rfl rfl rfl rfl rfl) (x_recv hK hP 0 (by decide) (yG_9 rfl) rfl) rfl mw_1631 mw_1633 mw_68 mw_123 mw_1634 (by decide +kernel) ⟨by decide, by decide⟩ hl.1 rfl (Nat.le_of_ble_eq_true rfl) ⟨Nat.zero_le _, Nat.zero_le _⟩ dX9_keep_25 (fun v_4 ar_4 al_4 H locs hq_4 hP hS => ?_)
      rw [show ar_4 = ya0 from hq_4.2.1, show al_4 = yl0 from hq_4.2.2] at hP
      refine lv_aload_n hE.1 hE.2.1 dX9_keep_28 rfl (lv_at hl 0 rfl) ?_
      refine x_get (x := .ref (ad 11)) hE hK hP 0 (by decide) (yG_9 rfl) rfl hin9 21 (by decide) mw_1355 rfl dX9_keep_29 ?_
      refine lv_iload_n hE.1 hE.2.1 dX9_keep_32 rfl (lv_at hl 1 rfl) ?_
      refine lv_iconst (v := 1) hE.1 hE.2.1 dX9_keep_33 (by decide) ?_
      refine x_zast (j := 0) hE hK hN hP hS 11 (by decide) (fun _ => yG_15 rfl) (by unfold vp_in; decide) dX9_keep_34 (fun ar_5 H locs har_5 hP hS => ?_)
      refine lv_iconst (v := 0) hE.1 hE.2.1 dX9_keep_35 (by decide) ?_
      exact x_wi (post := fun r _ => r = fKeep 0) hE hr hlo hP hS rfl (show (0 : Int32) = fKeep 0 from by decide) dX9_keep_36
    · skip
      refine lv_aload_n hE.1 hE.2.1 dX9_keep_20 rfl (lv_at hl 0 rfl) ?_
      refine lv_iconst (v := 0) hE.1 hE.2.1 dX9_keep_21 (by decide) ?_
      refine lv_iconst (v := 1) hE.1 hE.2.1 dX9_keep_22 (by decide) ?_
      refine lv_iload_n hE.1 hE.2.1 dX9_keep_23 rfl (lv_at hl 1 rfl) ?_
      refine lv_iadd hE.1 hE.2.1 dX9_keep_24 ?_
      refine x_top (y := 2) (by decide) ?_
      refine x_vv (nn := 2) (As := [.int 0, .int 2]) (rest := []) hE hK hN hP hS (k_X9_copyCourt_0_2 l D K ad yv0 ya0 yl0 rfl rfl rfl rfl rfl) (x_recv hK hP 0 (by decide) (yG_9 rfl) rfl) rfl mw_1631 mw_1633 mw_68 mw_123 mw_1634 (by decide +kernel) ⟨by decide, by decide⟩ hl.1 rfl (Nat.le_of_ble_eq_true rfl) ⟨Nat.zero_le _, Nat.zero_le _⟩ dX9_keep_25 (fun v_4 ar_4 al_4 H locs hq_4 hP hS => ?_)
      rw [show ar_4 = ya0 from hq_4.2.1, show al_4 = yl0 from hq_4.2.2] at hP
      refine lv_aload_n hE.1 hE.2.1 dX9_keep_28 rfl (lv_at hl 0 rfl) ?_
      refine x_get (x := .ref (ad 11)) hE hK hP 0 (by decide) (yG_9 rfl) rfl hin9 21 (by decide) mw_1355 rfl dX9_keep_29 ?_
      refine lv_iload_n hE.1 hE.2.1 dX9_keep_32 rfl (lv_at hl 1 rfl) ?_
      refine lv_iconst (v := 1) hE.1 hE.2.1 dX9_keep_33 (by decide) ?_
      refine x_zast (j := 1) hE hK hN hP hS 11 (by decide) (fun _ => yG_15 rfl) (by unfold vp_in; decide) dX9_keep_34 (fun ar_5 H locs har_5 hP hS => ?_)
      refine lv_iconst (v := 0) hE.1 hE.2.1 dX9_keep_35 (by decide) ?_
      exact x_wi (post := fun r _ => r = fKeep 1) hE hr hlo hP hS rfl (show (0 : Int32) = fKeep 1 from by decide) dX9_keep_36
    · skip
      refine lv_aload_n hE.1 hE.2.1 dX9_keep_20 rfl (lv_at hl 0 rfl) ?_
      refine lv_iconst (v := 0) hE.1 hE.2.1 dX9_keep_21 (by decide) ?_
      refine lv_iconst (v := 1) hE.1 hE.2.1 dX9_keep_22 (by decide) ?_
      refine lv_iload_n hE.1 hE.2.1 dX9_keep_23 rfl (lv_at hl 1 rfl) ?_
      refine lv_iadd hE.1 hE.2.1 dX9_keep_24 ?_
      refine x_top (y := 3) (by decide) ?_
      refine x_vv (nn := 2) (As := [.int 0, .int 3]) (rest := []) hE hK hN hP hS (k_X9_copyCourt_0_3 l D K ad yv0 ya0 yl0 rfl rfl rfl rfl rfl) (x_recv hK hP 0 (by decide) (yG_9 rfl) rfl) rfl mw_1631 mw_1633 mw_68 mw_123 mw_1634 (by decide +kernel) ⟨by decide, by decide⟩ hl.1 rfl (Nat.le_of_ble_eq_true rfl) ⟨Nat.zero_le _, Nat.zero_le _⟩ dX9_keep_25 (fun v_4 ar_4 al_4 H locs hq_4 hP hS => ?_)
      rw [show ar_4 = ya0 from hq_4.2.1, show al_4 = yl0 from hq_4.2.2] at hP
      refine lv_aload_n hE.1 hE.2.1 dX9_keep_28 rfl (lv_at hl 0 rfl) ?_
      refine x_get (x := .ref (ad 11)) hE hK hP 0 (by decide) (yG_9 rfl) rfl hin9 21 (by decide) mw_1355 rfl dX9_keep_29 ?_
      refine lv_iload_n hE.1 hE.2.1 dX9_keep_32 rfl (lv_at hl 1 rfl) ?_
      refine lv_iconst (v := 1) hE.1 hE.2.1 dX9_keep_33 (by decide) ?_
      refine x_zast (j := 2) hE hK hN hP hS 11 (by decide) (fun _ => yG_15 rfl) (by unfold vp_in; decide) dX9_keep_34 (fun ar_5 H locs har_5 hP hS => ?_)
      refine lv_iconst (v := 0) hE.1 hE.2.1 dX9_keep_35 (by decide) ?_
      exact x_wi (post := fun r _ => r = fKeep 2) hE hr hlo hP hS rfl (show (0 : Int32) = fKeep 2 from by decide) dX9_keep_36
  · skip
    refine lv_bipush (v := (-2)) hE.1 hE.2.1 dX9_keep_17 (by decide) ?_
    exact x_wi (post := fun r _ => r = fKeep p1) hE hr hlo hP hS rfl (show ((-2) : Int32) = fKeep p1 from (by unfold fKeep; rw [if_pos c_3])) dX9_keep_19
