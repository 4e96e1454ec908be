theorem dX4_append_0 : decode cX4_append 0 = .ok (.aload_n 0, 1) := by decide +kernel
theorem dX4_append_1 : decode cX4_append 1 = .ok (.getfield 19, 3) := by decide +kernel
theorem dX4_append_4 : decode cX4_append 4 = .ok (.iconst 4, 1) := by decide +kernel
theorem dX4_append_5 : decode cX4_append 5 = .ok (.iadd, 1) := by decide +kernel
theorem dX4_append_6 : decode cX4_append 6 = .ok (.sipush 1600, 3) := by decide +kernel
theorem dX4_append_9 : decode cX4_append 9 = .ok (.if_icmp .gt 10, 3) := by decide +kernel
theorem dX4_append_12 : decode cX4_append 12 = .ok (.aload_n 0, 1) := by decide +kernel
theorem dX4_append_13 : decode cX4_append 13 = .ok (.getfield 19, 3) := by decide +kernel
theorem dX4_append_16 : decode cX4_append 16 = .ok (.ifCond .ge 4, 3) := by decide +kernel
theorem dX4_append_20 : decode cX4_append 20 = .ok (.bipush 24, 2) := by decide +kernel
theorem dX4_append_22 : decode cX4_append 22 = .ok (.istore_n 2, 1) := by decide +kernel
theorem dX4_append_23 : decode cX4_append 23 = .ok (.iload_n 2, 1) := by decide +kernel
theorem dX4_append_24 : decode cX4_append 24 = .ok (.ifCond .lt 32, 3) := by decide +kernel
theorem dX4_append_27 : decode cX4_append 27 = .ok (.aload_n 0, 1) := by decide +kernel
theorem dX4_append_28 : decode cX4_append 28 = .ok (.getfield 15, 3) := by decide +kernel
theorem dX4_append_31 : decode cX4_append 31 = .ok (.aload_n 0, 1) := by decide +kernel
theorem dX4_append_32 : decode cX4_append 32 = .ok (.getfield 19, 3) := by decide +kernel
theorem dX4_append_35 : decode cX4_append 35 = .ok (.iload_n 1, 1) := by decide +kernel
theorem dX4_append_36 : decode cX4_append 36 = .ok (.iload_n 2, 1) := by decide +kernel
theorem dX4_append_37 : decode cX4_append 37 = .ok (.ishr, 1) := by decide +kernel
theorem dX4_append_38 : decode cX4_append 38 = .ok (.i2b, 1) := by decide +kernel
theorem dX4_append_39 : decode cX4_append 39 = .ok (.bastore, 1) := by decide +kernel
theorem dX4_append_40 : decode cX4_append 40 = .ok (.aload_n 0, 1) := by decide +kernel
theorem dX4_append_41 : decode cX4_append 41 = .ok (.dup, 1) := by decide +kernel
theorem dX4_append_42 : decode cX4_append 42 = .ok (.getfield 19, 3) := by decide +kernel
theorem dX4_append_45 : decode cX4_append 45 = .ok (.iconst 1, 1) := by decide +kernel
theorem dX4_append_46 : decode cX4_append 46 = .ok (.iadd, 1) := by decide +kernel
theorem dX4_append_47 : decode cX4_append 47 = .ok (.putfield 19, 3) := by decide +kernel
theorem dX4_append_50 : decode cX4_append 50 = .ok (.iinc 2 (-8), 3) := by decide +kernel
theorem dX4_append_53 : decode cX4_append 53 = .ok (.goto (-30), 3) := by decide +kernel
theorem dX4_append_56 : decode cX4_append 56 = .ok (.return_, 1) := by decide +kernel
set_option maxHeartbeats 4000000 in
set_option maxRecDepth 100000 in
theorem k_X4_append_0 (l : Launch) (D : va_G) (K : Nat → ClassId) (ad : Nat → Nat) (mm : Option Nat) (v ar : sI) (al : sL) (h_1_0 : v 1 0 = 0) (p1 : Int32) : Met l yX4_append (wM yX4_append cX4_append 3 none) (rmD 0) (va_Pc [.ref (ad 1), .int p1] (wPre D K ad (xG ad K mm) 132 v ar al)) (va_Qv (fun u : sT => (∀ i j : Nat, (i, j) ∉ ([(1, 0)] : List (Nat × Nat)) → u.1 i j = v i j) ∧ u.1 1 0 = 4) (wB D ad (xG ad K mm) 132) (inW ad 132)) 0 0 (inW ad 132) := by
  refine x_met (by decide) (Nat.le_of_ble_eq_true rfl) ?_
  intro p e s m below meth c ls hE hr hlo hnm hB hl
  have hE : CallFix p m c cX4_append 3 s _ tbG "TaleCourt$Reader" := hE
  obtain ⟨hP, hK, hN⟩ := hB
  have hS : va_S (inW ad 132) s.heap s.heap [] := va_S.rf
  have hl : lv_has ls 3 [(0, .ref (ad 1)), (1, .int p1)] := hl
  refine lv_aload_n hE.1 hE.2.1 dX4_append_0 rfl (lv_at hl 0 rfl) ?_
  refine x_get (x := .int (v 1 0)) hE hK hP 1 (by decide) (xG_4 rfl) rfl hin4 0 (by decide) mw_146 rfl dX4_append_1 ?_
  refine x_top (y := 0) h_1_0 ?_
  refine lv_iconst (v := 4) hE.1 hE.2.1 dX4_append_4 (by decide) ?_
  refine lv_iadd hE.1 hE.2.1 dX4_append_5 ?_
  refine x_top (y := 4) (by decide) ?_
  refine lv_sipush (v := 1600) hE.1 hE.2.1 dX4_append_6 (by decide) ?_
  refine lv_icmp_gt (tgt := 19) hE.1 hE.2.1 dX4_append_9 (by decide) (fun h => absurd h (by decide)) (fun _ => ?_)
  refine lv_aload_n hE.1 hE.2.1 dX4_append_12 rfl (lv_at hl 0 rfl) ?_
  refine x_get (x := .int (v 1 0)) hE hK hP 1 (by decide) (xG_4 rfl) rfl hin4 0 (by decide) mw_146 rfl dX4_append_13 ?_
  refine x_top (y := 0) h_1_0 ?_
  refine lv_if_ge (tgt := 20) hE.1 hE.2.1 dX4_append_16 (by decide) (fun _ => ?_) (fun h => absurd (by decide) h)
  refine lv_bipush (v := 24) hE.1 hE.2.1 dX4_append_20 (by decide) ?_
  refine lv_istore_n (lv' := [(2, .int 24), (0, .ref (ad 1)), (1, .int p1)]) hE.1 hE.2.1 dX4_append_22 rfl hl (by decide) rfl (fun ls hl => ?_)
  refine lv_iload_n hE.1 hE.2.1 dX4_append_23 rfl (lv_at hl 0 rfl) ?_
  refine lv_if_lt (tgt := 56) hE.1 hE.2.1 dX4_append_24 (by decide) (fun h => absurd h (by decide)) (fun _ => ?_)
  refine lv_aload_n hE.1 hE.2.1 dX4_append_27 rfl (lv_at hl 1 rfl) ?_
  refine x_get (x := .ref (ad 2)) hE hK hP 1 (by decide) (xG_4 rfl) rfl hin4 3 (by decide) mw_152 rfl dX4_append_28 ?_
  refine lv_aload_n hE.1 hE.2.1 dX4_append_31 rfl (lv_at hl 1 rfl) ?_
  refine x_get (x := .int (v 1 0)) hE hK hP 1 (by decide) (xG_4 rfl) rfl hin4 0 (by decide) mw_146 rfl dX4_append_32 ?_
  refine x_top (y := 0) h_1_0 ?_
  refine lv_iload_n hE.1 hE.2.1 dX4_append_35 rfl (lv_at hl 2 rfl) ?_
  refine lv_iload_n hE.1 hE.2.1 dX4_append_36 rfl (lv_at hl 0 rfl) ?_
  refine lv_ishr hE.1 hE.2.1 dX4_append_37 ?_
  refine lv_i2b (v := ((p1 >>> (24 &&& 31)).toInt8.toInt32)) hE.1 hE.2.1 dX4_append_38 rfl ?_
  refine x_bast (j := 0) hE hK hN hP hS 2 (by decide) (fun _ => xG_12 rfl) (by unfold vp_in; decide) dX4_append_39 (fun ar_1 H locs har_1 hP hS => ?_)
  refine lv_aload_n hE.1 hE.2.1 dX4_append_40 rfl (lv_at hl 1 rfl) ?_
  refine lv_dup hE.1 hE.2.1 dX4_append_41 rfl ?_
  refine x_get (x := .int (v 1 0)) hE hK hP 1 (by decide) (xG_4 rfl) rfl hin4 0 (by decide) mw_146 rfl dX4_append_42 ?_
  refine x_top (y := 0) h_1_0 ?_
  refine lv_iconst (v := 1) hE.1 hE.2.1 dX4_append_45 (by decide) ?_
  refine lv_iadd hE.1 hE.2.1 dX4_append_46 ?_
  refine x_top (y := 1) (by decide) ?_
  refine x_put hE hK hN hP hS 1 (by decide) (xG_4 rfl) rfl hin4 tyX4 tyX4_ok nmX4 0 (by decide) mw_146 rfl rfl rfl (Nat.le_of_ble_eq_true rfl) (xG_4 rfl) dX4_append_47 (fun v_2 H locs hv_2 hP hS => ?_)
  refine lv_iinc (v := 16) (lv' := [(2, .int 16), (0, .ref (ad 1)), (1, .int p1)]) hE.1 hE.2.1 dX4_append_50 hl (k := 0) rfl (by decide) (by decide) rfl (fun ls hl => ?_)
  refine lv_goto (tgt := 23) hE.1 hE.2.1 dX4_append_53 (by decide) ?_
  refine lv_iload_n hE.1 hE.2.1 dX4_append_23 rfl (lv_at hl 0 rfl) ?_
  refine lv_if_lt (tgt := 56) hE.1 hE.2.1 dX4_append_24 (by decide) (fun h => absurd h (by decide)) (fun _ => ?_)
  refine lv_aload_n hE.1 hE.2.1 dX4_append_27 rfl (lv_at hl 1 rfl) ?_
  refine x_get (x := .ref (ad 2)) hE hK hP 1 (by decide) (xG_4 rfl) rfl hin4 3 (by decide) mw_152 rfl dX4_append_28 ?_
  refine lv_aload_n hE.1 hE.2.1 dX4_append_31 rfl (lv_at hl 1 rfl) ?_
  refine x_get (x := .int (v_2 1 0)) hE hK hP 1 (by decide) (xG_4 rfl) rfl hin4 0 (by decide) mw_146 rfl dX4_append_32 ?_
  refine x_top (y := 1) (up_eq hv_2) ?_
  refine lv_iload_n hE.1 hE.2.1 dX4_append_35 rfl (lv_at hl 2 rfl) ?_
  refine lv_iload_n hE.1 hE.2.1 dX4_append_36 rfl (lv_at hl 0 rfl) ?_
  refine lv_ishr hE.1 hE.2.1 dX4_append_37 ?_
  refine lv_i2b (v := ((p1 >>> (16 &&& 31)).toInt8.toInt32)) hE.1 hE.2.1 dX4_append_38 rfl ?_
  refine x_bast (j := 1) hE hK hN hP hS 2 (by decide) (fun _ => xG_12 rfl) (by unfold vp_in; decide) dX4_append_39 (fun ar_3 H locs har_3 hP hS => ?_)
  refine lv_aload_n hE.1 hE.2.1 dX4_append_40 rfl (lv_at hl 1 rfl) ?_
  refine lv_dup hE.1 hE.2.1 dX4_append_41 rfl ?_
  refine x_get (x := .int (v_2 1 0)) hE hK hP 1 (by decide) (xG_4 rfl) rfl hin4 0 (by decide) mw_146 rfl dX4_append_42 ?_
  refine x_top (y := 1) (up_eq hv_2) ?_
  refine lv_iconst (v := 1) hE.1 hE.2.1 dX4_append_45 (by decide) ?_
  refine lv_iadd hE.1 hE.2.1 dX4_append_46 ?_
  refine x_top (y := 2) (by decide) ?_
  refine x_put hE hK hN hP hS 1 (by decide) (xG_4 rfl) rfl hin4 tyX4 tyX4_ok nmX4 0 (by decide) mw_146 rfl rfl rfl (Nat.le_of_ble_eq_true rfl) (xG_4 rfl) dX4_append_47 (fun v_4 H locs hv_4 hP hS => ?_)
  refine lv_iinc (v := 8) (lv' := [(2, .int 8), (0, .ref (ad 1)), (1, .int p1)]) hE.1 hE.2.1 dX4_append_50 hl (k := 0) rfl (by decide) (by decide) rfl (fun ls hl => ?_)
  refine lv_goto (tgt := 23) hE.1 hE.2.1 dX4_append_53 (by decide) ?_
  refine lv_iload_n hE.1 hE.2.1 dX4_append_23 rfl (lv_at hl 0 rfl) ?_
  refine lv_if_lt (tgt := 56) hE.1 hE.2.1 dX4_append_24 (by decide) (fun h => absurd h (by decide)) (fun _ => ?_)
  refine lv_aload_n hE.1 hE.2.1 dX4_append_27 rfl (lv_at hl 1 rfl) ?_
  refine x_get (x := .ref (ad 2)) hE hK hP 1 (by decide) (xG_4 rfl) rfl hin4 3 (by decide) mw_152 rfl dX4_append_28 ?_
  refine lv_aload_n hE.1 hE.2.1 dX4_append_31 rfl (lv_at hl 1 rfl) ?_
  refine x_get (x := .int (v_4 1 0)) hE hK hP 1 (by decide) (xG_4 rfl) rfl hin4 0 (by decide) mw_146 rfl dX4_append_32 ?_
  refine x_top (y := 2) (up_eq hv_4) ?_
  refine lv_iload_n hE.1 hE.2.1 dX4_append_35 rfl (lv_at hl 2 rfl) ?_
  refine lv_iload_n hE.1 hE.2.1 dX4_append_36 rfl (lv_at hl 0 rfl) ?_
  refine lv_ishr hE.1 hE.2.1 dX4_append_37 ?_
  refine lv_i2b (v := ((p1 >>> (8 &&& 31)).toInt8.toInt32)) hE.1 hE.2.1 dX4_append_38 rfl ?_
  refine x_bast (j := 2) hE hK hN hP hS 2 (by decide) (fun _ => xG_12 rfl) (by unfold vp_in; decide) dX4_append_39 (fun ar_5 H locs har_5 hP hS => ?_)
  refine lv_aload_n hE.1 hE.2.1 dX4_append_40 rfl (lv_at hl 1 rfl) ?_
  refine lv_dup hE.1 hE.2.1 dX4_append_41 rfl ?_
  refine x_get (x := .int (v_4 1 0)) hE hK hP 1 (by decide) (xG_4 rfl) rfl hin4 0 (by decide) mw_146 rfl dX4_append_42 ?_
  refine x_top (y := 2) (up_eq hv_4) ?_
  refine lv_iconst (v := 1) hE.1 hE.2.1 dX4_append_45 (by decide) ?_
  refine lv_iadd hE.1 hE.2.1 dX4_append_46 ?_
  refine x_top (y := 3) (by decide) ?_
  refine x_put hE hK hN hP hS 1 (by decide) (xG_4 rfl) rfl hin4 tyX4 tyX4_ok nmX4 0 (by decide) mw_146 rfl rfl rfl (Nat.le_of_ble_eq_true rfl) (xG_4 rfl) dX4_append_47 (fun v_6 H locs hv_6 hP hS => ?_)
  refine lv_iinc (v := 0) (lv' := [(2, .int 0), (0, .ref (ad 1)), (1, .int p1)]) hE.1 hE.2.1 dX4_append_50 hl (k := 0) rfl (by decide) (by decide) rfl (fun ls hl => ?_)
  refine lv_goto (tgt := 23) hE.1 hE.2.1 dX4_append_53 (by decide) ?_
  refine lv_iload_n hE.1 hE.2.1 dX4_append_23 rfl (lv_at hl 0 rfl) ?_
  refine lv_if_lt (tgt := 56) hE.1 hE.2.1 dX4_append_24 (by decide) (fun h => absurd h (by decide)) (fun _ => ?_)
  refine lv_aload_n hE.1 hE.2.1 dX4_append_27 rfl (lv_at hl 1 rfl) ?_
  refine x_get (x := .ref (ad 2)) hE hK hP 1 (by decide) (xG_4 rfl) rfl hin4 3 (by decide) mw_152 rfl dX4_append_28 ?_
  refine lv_aload_n hE.1 hE.2.1 dX4_append_31 rfl (lv_at hl 1 rfl) ?_
  refine x_get (x := .int (v_6 1 0)) hE hK hP 1 (by decide) (xG_4 rfl) rfl hin4 0 (by decide) mw_146 rfl dX4_append_32 ?_
  refine x_top (y := 3) (up_eq hv_6) ?_
  refine lv_iload_n hE.1 hE.2.1 dX4_append_35 rfl (lv_at hl 2 rfl) ?_
  refine lv_iload_n hE.1 hE.2.1 dX4_append_36 rfl (lv_at hl 0 rfl) ?_
  refine lv_ishr hE.1 hE.2.1 dX4_append_37 ?_
  refine lv_i2b (v := ((p1 >>> (0 &&& 31)).toInt8.toInt32)) hE.1 hE.2.1 dX4_append_38 rfl ?_
  refine x_bast (j := 3) hE hK hN hP hS 2 (by decide) (fun _ => xG_12 rfl) (by unfold vp_in; decide) dX4_append_39 (fun ar_7 H locs har_7 hP hS => ?_)
  refine lv_aload_n hE.1 hE.2.1 dX4_append_40 rfl (lv_at hl 1 rfl) ?_
  refine lv_dup hE.1 hE.2.1 dX4_append_41 rfl ?_
  refine x_get (x := .int (v_6 1 0)) hE hK hP 1 (by decide) (xG_4 rfl) rfl hin4 0 (by decide) mw_146 rfl dX4_append_42 ?_
  refine x_top (y := 3) (up_eq hv_6) ?_
  refine lv_iconst (v := 1) hE.1 hE.2.1 dX4_append_45 (by decide) ?_
  refine lv_iadd hE.1 hE.2.1 dX4_append_46 ?_
  refine x_top (y := 4) (by decide) ?_
  refine x_put hE hK hN hP hS 1 (by decide) (xG_4 rfl) rfl hin4 tyX4 tyX4_ok nmX4 0 (by decide) mw_146 rfl rfl rfl (Nat.le_of_ble_eq_true rfl) (xG_4 rfl) dX4_append_47 (fun v_8 H locs hv_8 hP hS => ?_)
  refine lv_iinc (v := (-8)) (lv' := [(2, .int (-8)), (0, .ref (ad 1)), (1, .int p1)]) hE.1 hE.2.1 dX4_append_50 hl (k := 0) rfl (by decide) (by decide) rfl (fun ls hl => ?_)
  refine lv_goto (tgt := 23) hE.1 hE.2.1 dX4_append_53 (by decide) ?_
  refine lv_iload_n hE.1 hE.2.1 dX4_append_23 rfl (lv_at hl 0 rfl) ?_
  refine lv_if_lt (tgt := 56) hE.1 hE.2.1 dX4_append_24 (by decide) (fun _ => ?_) (fun h => absurd (by decide) h)
  exact x_wv hE hr hlo hP hS ⟨fun i j h => ((up_oth hv_8 (fun q => h (by rcases q with ⟨rfl, rfl⟩; decide))).trans ((up_oth hv_6 (fun q => h (by rcases q with ⟨rfl, rfl⟩; decide))).trans ((up_oth hv_4 (fun q => h (by rcases q with ⟨rfl, rfl⟩; decide))).trans (up_oth hv_2 (fun q => h (by rcases q with ⟨rfl, rfl⟩; decide)))))), (up_eq hv_8)⟩ dX4_append_56

set_option maxHeartbeats 4000000 in
set_option maxRecDepth 100000 in
theorem k_X4_append_4 (l : Launch) (D : va_G) (K : Nat → ClassId) (ad : Nat → Nat) (mm : Option Nat) (v ar : sI) (al : sL) (h_1_0 : v 1 0 = 4) (p1 : Int32) : Met l yX4_append (wM yX4_append cX4_append 3 none) (rmD 0) (va_Pc [.ref (ad 1), .int p1] (wPre D K ad (xG ad K mm) 132 v ar al)) (va_Qv (fun u : sT => (∀ i j : Nat, (i, j) ∉ ([(1, 0)] : List (Nat × Nat)) → u.1 i j = v i j) ∧ u.1 1 0 = 8) (wB D ad (xG ad K mm) 132) (inW ad 132)) 0 0 (inW ad 132) := by
  refine x_met (by decide) (Nat.le_of_ble_eq_true rfl) ?_
  intro p e s m below meth c ls hE hr hlo hnm hB hl
  have hE : CallFix p m c cX4_append 3 s _ tbG "TaleCourt$Reader" := hE
  obtain ⟨hP, hK, hN⟩ := hB
  have hS : va_S (inW ad 132) s.heap s.heap [] := va_S.rf
  have hl : lv_has ls 3 [(0, .ref (ad 1)), (1, .int p1)] := hl
  refine lv_aload_n hE.1 hE.2.1 dX4_append_0 rfl (lv_at hl 0 rfl) ?_
  refine x_get (x := .int (v 1 0)) hE hK hP 1 (by decide) (xG_4 rfl) rfl hin4 0 (by decide) mw_146 rfl dX4_append_1 ?_
  refine x_top (y := 4) h_1_0 ?_
  refine lv_iconst (v := 4) hE.1 hE.2.1 dX4_append_4 (by decide) ?_
  refine lv_iadd hE.1 hE.2.1 dX4_append_5 ?_
  refine x_top (y := 8) (by decide) ?_
  refine lv_sipush (v := 1600) hE.1 hE.2.1 dX4_append_6 (by decide) ?_
  refine lv_icmp_gt (tgt := 19) hE.1 hE.2.1 dX4_append_9 (by decide) (fun h => absurd h (by decide)) (fun _ => ?_)
  refine lv_aload_n hE.1 hE.2.1 dX4_append_12 rfl (lv_at hl 0 rfl) ?_
  refine x_get (x := .int (v 1 0)) hE hK hP 1 (by decide) (xG_4 rfl) rfl hin4 0 (by decide) mw_146 rfl dX4_append_13 ?_
  refine x_top (y := 4) h_1_0 ?_
  refine lv_if_ge (tgt := 20) hE.1 hE.2.1 dX4_append_16 (by decide) (fun _ => ?_) (fun h => absurd (by decide) h)
  refine lv_bipush (v := 24) hE.1 hE.2.1 dX4_append_20 (by decide) ?_
  refine lv_istore_n (lv' := [(2, .int 24), (0, .ref (ad 1)), (1, .int p1)]) hE.1 hE.2.1 dX4_append_22 rfl hl (by decide) rfl (fun ls hl => ?_)
  refine lv_iload_n hE.1 hE.2.1 dX4_append_23 rfl (lv_at hl 0 rfl) ?_
  refine lv_if_lt (tgt := 56) hE.1 hE.2.1 dX4_append_24 (by decide) (fun h => absurd h (by decide)) (fun _ => ?_)
  refine lv_aload_n hE.1 hE.2.1 dX4_append_27 rfl (lv_at hl 1 rfl) ?_
  refine x_get (x := .ref (ad 2)) hE hK hP 1 (by decide) (xG_4 rfl) rfl hin4 3 (by decide) mw_152 rfl dX4_append_28 ?_
  refine lv_aload_n hE.1 hE.2.1 dX4_append_31 rfl (lv_at hl 1 rfl) ?_
  refine x_get (x := .int (v 1 0)) hE hK hP 1 (by decide) (xG_4 rfl) rfl hin4 0 (by decide) mw_146 rfl dX4_append_32 ?_
  refine x_top (y := 4) h_1_0 ?_
  refine lv_iload_n hE.1 hE.2.1 dX4_append_35 rfl (lv_at hl 2 rfl) ?_
  refine lv_iload_n hE.1 hE.2.1 dX4_append_36 rfl (lv_at hl 0 rfl) ?_
  refine lv_ishr hE.1 hE.2.1 dX4_append_37 ?_
  refine lv_i2b (v := ((p1 >>> (24 &&& 31)).toInt8.toInt32)) hE.1 hE.2.1 dX4_append_38 rfl ?_
  refine x_bast (j := 4) hE hK hN hP hS 2 (by decide) (fun _ => xG_12 rfl) (by unfold vp_in; decide) dX4_append_39 (fun ar_1 H locs har_1 hP hS => ?_)
  refine lv_aload_n hE.1 hE.2.1 dX4_append_40 rfl (lv_at hl 1 rfl) ?_
  refine lv_dup hE.1 hE.2.1 dX4_append_41 rfl ?_
  refine x_get (x := .int (v 1 0)) hE hK hP 1 (by decide) (xG_4 rfl) rfl hin4 0 (by decide) mw_146 rfl dX4_append_42 ?_
  refine x_top (y := 4) h_1_0 ?_
  refine lv_iconst (v := 1) hE.1 hE.2.1 dX4_append_45 (by decide) ?_
  refine lv_iadd hE.1 hE.2.1 dX4_append_46 ?_
  refine x_top (y := 5) (by decide) ?_
  refine x_put hE hK hN hP hS 1 (by decide) (xG_4 rfl) rfl hin4 tyX4 tyX4_ok nmX4 0 (by decide) mw_146 rfl rfl rfl (Nat.le_of_ble_eq_true rfl) (xG_4 rfl) dX4_append_47 (fun v_2 H locs hv_2 hP hS => ?_)
  refine lv_iinc (v := 16) (lv' := [(2, .int 16), (0, .ref (ad 1)), (1, .int p1)]) hE.1 hE.2.1 dX4_append_50 hl (k := 0) rfl (by decide) (by decide) rfl (fun ls hl => ?_)
  refine lv_goto (tgt := 23) hE.1 hE.2.1 dX4_append_53 (by decide) ?_
  refine lv_iload_n hE.1 hE.2.1 dX4_append_23 rfl (lv_at hl 0 rfl) ?_
  refine lv_if_lt (tgt := 56) hE.1 hE.2.1 dX4_append_24 (by decide) (fun h => absurd h (by decide)) (fun _ => ?_)
  refine lv_aload_n hE.1 hE.2.1 dX4_append_27 rfl (lv_at hl 1 rfl) ?_
  refine x_get (x := .ref (ad 2)) hE hK hP 1 (by decide) (xG_4 rfl) rfl hin4 3 (by decide) mw_152 rfl dX4_append_28 ?_
  refine lv_aload_n hE.1 hE.2.1 dX4_append_31 rfl (lv_at hl 1 rfl) ?_
  refine x_get (x := .int (v_2 1 0)) hE hK hP 1 (by decide) (xG_4 rfl) rfl hin4 0 (by decide) mw_146 rfl dX4_append_32 ?_
  refine x_top (y := 5) (up_eq hv_2) ?_
  refine lv_iload_n hE.1 hE.2.1 dX4_append_35 rfl (lv_at hl 2 rfl) ?_
  refine lv_iload_n hE.1 hE.2.1 dX4_append_36 rfl (lv_at hl 0 rfl) ?_
  refine lv_ishr hE.1 hE.2.1 dX4_append_37 ?_
  refine lv_i2b (v := ((p1 >>> (16 &&& 31)).toInt8.toInt32)) hE.1 hE.2.1 dX4_append_38 rfl ?_
  refine x_bast (j := 5) hE hK hN hP hS 2 (by decide) (fun _ => xG_12 rfl) (by unfold vp_in; decide) dX4_append_39 (fun ar_3 H locs har_3 hP hS => ?_)
  refine lv_aload_n hE.1 hE.2.1 dX4_append_40 rfl (lv_at hl 1 rfl) ?_
  refine lv_dup hE.1 hE.2.1 dX4_append_41 rfl ?_
  refine x_get (x := .int (v_2 1 0)) hE hK hP 1 (by decide) (xG_4 rfl) rfl hin4 0 (by decide) mw_146 rfl dX4_append_42 ?_
  refine x_top (y := 5) (up_eq hv_2) ?_
  refine lv_iconst (v := 1) hE.1 hE.2.1 dX4_append_45 (by decide) ?_
  refine lv_iadd hE.1 hE.2.1 dX4_append_46 ?_
  refine x_top (y := 6) (by decide) ?_
  refine x_put hE hK hN hP hS 1 (by decide) (xG_4 rfl) rfl hin4 tyX4 tyX4_ok nmX4 0 (by decide) mw_146 rfl rfl rfl (Nat.le_of_ble_eq_true rfl) (xG_4 rfl) dX4_append_47 (fun v_4 H locs hv_4 hP hS => ?_)
  refine lv_iinc (v := 8) (lv' := [(2, .int 8), (0, .ref (ad 1)), (1, .int p1)]) hE.1 hE.2.1 dX4_append_50 hl (k := 0) rfl (by decide) (by decide) rfl (fun ls hl => ?_)
  refine lv_goto (tgt := 23) hE.1 hE.2.1 dX4_append_53 (by decide) ?_
  refine lv_iload_n hE.1 hE.2.1 dX4_append_23 rfl (lv_at hl 0 rfl) ?_
  refine lv_if_lt (tgt := 56) hE.1 hE.2.1 dX4_append_24 (by decide) (fun h => absurd h (by decide)) (fun _ => ?_)
  refine lv_aload_n hE.1 hE.2.1 dX4_append_27 rfl (lv_at hl 1 rfl) ?_
  refine x_get (x := .ref (ad 2)) hE hK hP 1 (by decide) (xG_4 rfl) rfl hin4 3 (by decide) mw_152 rfl dX4_append_28 ?_
  refine lv_aload_n hE.1 hE.2.1 dX4_append_31 rfl (lv_at hl 1 rfl) ?_
  refine x_get (x := .int (v_4 1 0)) hE hK hP 1 (by decide) (xG_4 rfl) rfl hin4 0 (by decide) mw_146 rfl dX4_append_32 ?_
  refine x_top (y := 6) (up_eq hv_4) ?_
  refine lv_iload_n hE.1 hE.2.1 dX4_append_35 rfl (lv_at hl 2 rfl) ?_
  refine lv_iload_n hE.1 hE.2.1 dX4_append_36 rfl (lv_at hl 0 rfl) ?_
  refine lv_ishr hE.1 hE.2.1 dX4_append_37 ?_
  refine lv_i2b (v := ((p1 >>> (8 &&& 31)).toInt8.toInt32)) hE.1 hE.2.1 dX4_append_38 rfl ?_
  refine x_bast (j := 6) hE hK hN hP hS 2 (by decide) (fun _ => xG_12 rfl) (by unfold vp_in; decide) dX4_append_39 (fun ar_5 H locs har_5 hP hS => ?_)
  refine lv_aload_n hE.1 hE.2.1 dX4_append_40 rfl (lv_at hl 1 rfl) ?_
  refine lv_dup hE.1 hE.2.1 dX4_append_41 rfl ?_
  refine x_get (x := .int (v_4 1 0)) hE hK hP 1 (by decide) (xG_4 rfl) rfl hin4 0 (by decide) mw_146 rfl dX4_append_42 ?_
  refine x_top (y := 6) (up_eq hv_4) ?_
  refine lv_iconst (v := 1) hE.1 hE.2.1 dX4_append_45 (by decide) ?_
  refine lv_iadd hE.1 hE.2.1 dX4_append_46 ?_
  refine x_top (y := 7) (by decide) ?_
  refine x_put hE hK hN hP hS 1 (by decide) (xG_4 rfl) rfl hin4 tyX4 tyX4_ok nmX4 0 (by decide) mw_146 rfl rfl rfl (Nat.le_of_ble_eq_true rfl) (xG_4 rfl) dX4_append_47 (fun v_6 H locs hv_6 hP hS => ?_)
  refine lv_iinc (v := 0) (lv' := [(2, .int 0), (0, .ref (ad 1)), (1, .int p1)]) hE.1 hE.2.1 dX4_append_50 hl (k := 0) rfl (by decide) (by decide) rfl (fun ls hl => ?_)
  refine lv_goto (tgt := 23) hE.1 hE.2.1 dX4_append_53 (by decide) ?_
  refine lv_iload_n hE.1 hE.2.1 dX4_append_23 rfl (lv_at hl 0 rfl) ?_
  refine lv_if_lt (tgt := 56) hE.1 hE.2.1 dX4_append_24 (by decide) (fun h => absurd h (by decide)) (fun _ => ?_)
  refine lv_aload_n hE.1 hE.2.1 dX4_append_27 rfl (lv_at hl 1 rfl) ?_
  refine x_get (x := .ref (ad 2)) hE hK hP 1 (by decide) (xG_4 rfl) rfl hin4 3 (by decide) mw_152 rfl dX4_append_28 ?_
  refine lv_aload_n hE.1 hE.2.1 dX4_append_31 rfl (lv_at hl 1 rfl) ?_
  refine x_get (x := .int (v_6 1 0)) hE hK hP 1 (by decide) (xG_4 rfl) rfl hin4 0 (by decide) mw_146 rfl dX4_append_32 ?_
  refine x_top (y := 7) (up_eq hv_6) ?_
  refine lv_iload_n hE.1 hE.2.1 dX4_append_35 rfl (lv_at hl 2 rfl) ?_
  refine lv_iload_n hE.1 hE.2.1 dX4_append_36 rfl (lv_at hl 0 rfl) ?_
  refine lv_ishr hE.1 hE.2.1 dX4_append_37 ?_
  refine lv_i2b (v := ((p1 >>> (0 &&& 31)).toInt8.toInt32)) hE.1 hE.2.1 dX4_append_38 rfl ?_
  refine x_bast (j := 7) hE hK hN hP hS 2 (by decide) (fun _ => xG_12 rfl) (by unfold vp_in; decide) dX4_append_39 (fun ar_7 H locs har_7 hP hS => ?_)
  refine lv_aload_n hE.1 hE.2.1 dX4_append_40 rfl (lv_at hl 1 rfl) ?_
  refine lv_dup hE.1 hE.2.1 dX4_append_41 rfl ?_
  refine x_get (x := .int (v_6 1 0)) hE hK hP 1 (by decide) (xG_4 rfl) rfl hin4 0 (by decide) mw_146 rfl dX4_append_42 ?_
  refine x_top (y := 7) (up_eq hv_6) ?_
  refine lv_iconst (v := 1) hE.1 hE.2.1 dX4_append_45 (by decide) ?_
  refine lv_iadd hE.1 hE.2.1 dX4_append_46 ?_
  refine x_top (y := 8) (by decide) ?_
  refine x_put hE hK hN hP hS 1 (by decide) (xG_4 rfl) rfl hin4 tyX4 tyX4_ok nmX4 0 (by decide) mw_146 rfl rfl rfl (Nat.le_of_ble_eq_true rfl) (xG_4 rfl) dX4_append_47 (fun v_8 H locs hv_8 hP hS => ?_)
  refine lv_iinc (v := (-8)) (lv' := [(2, .int (-8)), (0, .ref (ad 1)), (1, .int p1)]) hE.1 hE.2.1 dX4_append_50 hl (k := 0) rfl (by decide) (by decide) rfl (fun ls hl => ?_)
  refine lv_goto (tgt := 23) hE.1 hE.2.1 dX4_append_53 (by decide) ?_
  refine lv_iload_n hE.1 hE.2.1 dX4_append_23 rfl (lv_at hl 0 rfl) ?_
  refine lv_if_lt (tgt := 56) hE.1 hE.2.1 dX4_append_24 (by decide) (fun _ => ?_) (fun h => absurd (by decide) h)
  exact x_wv hE hr hlo hP hS ⟨fun i j h => ((up_oth hv_8 (fun q => h (by rcases q with ⟨rfl, rfl⟩; decide))).trans ((up_oth hv_6 (fun q => h (by rcases q with ⟨rfl, rfl⟩; decide))).trans ((up_oth hv_4 (fun q => h (by rcases q with ⟨rfl, rfl⟩; decide))).trans (up_oth hv_2 (fun q => h (by rcases q with ⟨rfl, rfl⟩; decide)))))), (up_eq hv_8)⟩ dX4_append_56

set_option maxHeartbeats 4000000 in
set_option maxRecDepth 100000 in
theorem k_X4_append_8 (l : Launch) (D : va_G) (K : Nat → ClassId) (ad : Nat → Nat) (mm : Option Nat) (v ar : sI) (al : sL) (h_1_0 : v 1 0 = 8) (p1 : Int32) : Met l yX4_append (wM yX4_append cX4_append 3 none) (rmD 0) (va_Pc [.ref (ad 1), .int p1] (wPre D K ad (xG ad K mm) 132 v ar al)) (va_Qv (fun u : sT => (∀ i j : Nat, (i, j) ∉ ([(1, 0)] : List (Nat × Nat)) → u.1 i j = v i j) ∧ u.1 1 0 = 12) (wB D ad (xG ad K mm) 132) (inW ad 132)) 0 0 (inW ad 132) := by
  refine x_met (by decide) (Nat.le_of_ble_eq_true rfl) ?_
  intro p e s m below meth c ls hE hr hlo hnm hB hl
  have hE : CallFix p m c cX4_append 3 s _ tbG "TaleCourt$Reader" := hE
  obtain ⟨hP, hK, hN⟩ := hB
  have hS : va_S (inW ad 132) s.heap s.heap [] := va_S.rf
  have hl : lv_has ls 3 [(0, .ref (ad 1)), (1, .int p1)] := hl
  refine lv_aload_n hE.1 hE.2.1 dX4_append_0 rfl (lv_at hl 0 rfl) ?_
  refine x_get (x := .int (v 1 0)) hE hK hP 1 (by decide) (xG_4 rfl) rfl hin4 0 (by decide) mw_146 rfl dX4_append_1 ?_
  refine x_top (y := 8) h_1_0 ?_
  refine lv_iconst (v := 4) hE.1 hE.2.1 dX4_append_4 (by decide) ?_
  refine lv_iadd hE.1 hE.2.1 dX4_append_5 ?_
  refine x_top (y := 12) (by decide) ?_
  refine lv_sipush (v := 1600) hE.1 hE.2.1 dX4_append_6 (by decide) ?_
  refine lv_icmp_gt (tgt := 19) hE.1 hE.2.1 dX4_append_9 (by decide) (fun h => absurd h (by decide)) (fun _ => ?_)
  refine lv_aload_n hE.1 hE.2.1 dX4_append_12 rfl (lv_at hl 0 rfl) ?_
  refine x_get (x := .int (v 1 0)) hE hK hP 1 (by decide) (xG_4 rfl) rfl hin4 0 (by decide) mw_146 rfl dX4_append_13 ?_
  refine x_top (y := 8) h_1_0 ?_
  refine lv_if_ge (tgt := 20) hE.1 hE.2.1 dX4_append_16 (by decide) (fun _ => ?_) (fun h => absurd (by decide) h)
  refine lv_bipush (v := 24) hE.1 hE.2.1 dX4_append_20 (by decide) ?_
  refine lv_istore_n (lv' := [(2, .int 24), (0, .ref (ad 1)), (1, .int p1)]) hE.1 hE.2.1 dX4_append_22 rfl hl (by decide) rfl (fun ls hl => ?_)
  refine lv_iload_n hE.1 hE.2.1 dX4_append_23 rfl (lv_at hl 0 rfl) ?_
  refine lv_if_lt (tgt := 56) hE.1 hE.2.1 dX4_append_24 (by decide) (fun h => absurd h (by decide)) (fun _ => ?_)
  refine lv_aload_n hE.1 hE.2.1 dX4_append_27 rfl (lv_at hl 1 rfl) ?_
  refine x_get (x := .ref (ad 2)) hE hK hP 1 (by decide) (xG_4 rfl) rfl hin4 3 (by decide) mw_152 rfl dX4_append_28 ?_
  refine lv_aload_n hE.1 hE.2.1 dX4_append_31 rfl (lv_at hl 1 rfl) ?_
  refine x_get (x := .int (v 1 0)) hE hK hP 1 (by decide) (xG_4 rfl) rfl hin4 0 (by decide) mw_146 rfl dX4_append_32 ?_
  refine x_top (y := 8) h_1_0 ?_
  refine lv_iload_n hE.1 hE.2.1 dX4_append_35 rfl (lv_at hl 2 rfl) ?_
  refine lv_iload_n hE.1 hE.2.1 dX4_append_36 rfl (lv_at hl 0 rfl) ?_
  refine lv_ishr hE.1 hE.2.1 dX4_append_37 ?_
  refine lv_i2b (v := ((p1 >>> (24 &&& 31)).toInt8.toInt32)) hE.1 hE.2.1 dX4_append_38 rfl ?_
  refine x_bast (j := 8) hE hK hN hP hS 2 (by decide) (fun _ => xG_12 rfl) (by unfold vp_in; decide) dX4_append_39 (fun ar_1 H locs har_1 hP hS => ?_)
  refine lv_aload_n hE.1 hE.2.1 dX4_append_40 rfl (lv_at hl 1 rfl) ?_
  refine lv_dup hE.1 hE.2.1 dX4_append_41 rfl ?_
  refine x_get (x := .int (v 1 0)) hE hK hP 1 (by decide) (xG_4 rfl) rfl hin4 0 (by decide) mw_146 rfl dX4_append_42 ?_
  refine x_top (y := 8) h_1_0 ?_
  refine lv_iconst (v := 1) hE.1 hE.2.1 dX4_append_45 (by decide) ?_
  refine lv_iadd hE.1 hE.2.1 dX4_append_46 ?_
  refine x_top (y := 9) (by decide) ?_
  refine x_put hE hK hN hP hS 1 (by decide) (xG_4 rfl) rfl hin4 tyX4 tyX4_ok nmX4 0 (by decide) mw_146 rfl rfl rfl (Nat.le_of_ble_eq_true rfl) (xG_4 rfl) dX4_append_47 (fun v_2 H locs hv_2 hP hS => ?_)
  refine lv_iinc (v := 16) (lv' := [(2, .int 16), (0, .ref (ad 1)), (1, .int p1)]) hE.1 hE.2.1 dX4_append_50 hl (k := 0) rfl (by decide) (by decide) rfl (fun ls hl => ?_)
  refine lv_goto (tgt := 23) hE.1 hE.2.1 dX4_append_53 (by decide) ?_
  refine lv_iload_n hE.1 hE.2.1 dX4_append_23 rfl (lv_at hl 0 rfl) ?_
  refine lv_if_lt (tgt := 56) hE.1 hE.2.1 dX4_append_24 (by decide) (fun h => absurd h (by decide)) (fun _ => ?_)
  refine lv_aload_n hE.1 hE.2.1 dX4_append_27 rfl (lv_at hl 1 rfl) ?_
  refine x_get (x := .ref (ad 2)) hE hK hP 1 (by decide) (xG_4 rfl) rfl hin4 3 (by decide) mw_152 rfl dX4_append_28 ?_
  refine lv_aload_n hE.1 hE.2.1 dX4_append_31 rfl (lv_at hl 1 rfl) ?_
  refine x_get (x := .int (v_2 1 0)) hE hK hP 1 (by decide) (xG_4 rfl) rfl hin4 0 (by decide) mw_146 rfl dX4_append_32 ?_
  refine x_top (y := 9) (up_eq hv_2) ?_
  refine lv_iload_n hE.1 hE.2.1 dX4_append_35 rfl (lv_at hl 2 rfl) ?_
  refine lv_iload_n hE.1 hE.2.1 dX4_append_36 rfl (lv_at hl 0 rfl) ?_
  refine lv_ishr hE.1 hE.2.1 dX4_append_37 ?_
  refine lv_i2b (v := ((p1 >>> (16 &&& 31)).toInt8.toInt32)) hE.1 hE.2.1 dX4_append_38 rfl ?_
  refine x_bast (j := 9) hE hK hN hP hS 2 (by decide) (fun _ => xG_12 rfl) (by unfold vp_in; decide) dX4_append_39 (fun ar_3 H locs har_3 hP hS => ?_)
  refine lv_aload_n hE.1 hE.2.1 dX4_append_40 rfl (lv_at hl 1 rfl) ?_
  refine lv_dup hE.1 hE.2.1 dX4_append_41 rfl ?_
  refine x_get (x := .int (v_2 1 0)) hE hK hP 1 (by decide) (xG_4 rfl) rfl hin4 0 (by decide) mw_146 rfl dX4_append_42 ?_
  refine x_top (y := 9) (up_eq hv_2) ?_
  refine lv_iconst (v := 1) hE.1 hE.2.1 dX4_append_45 (by decide) ?_
  refine lv_iadd hE.1 hE.2.1 dX4_append_46 ?_
  refine x_top (y := 10) (by decide) ?_
  refine x_put hE hK hN hP hS 1 (by decide) (xG_4 rfl) rfl hin4 tyX4 tyX4_ok nmX4 0 (by decide) mw_146 rfl rfl rfl (Nat.le_of_ble_eq_true rfl) (xG_4 rfl) dX4_append_47 (fun v_4 H locs hv_4 hP hS => ?_)
  refine lv_iinc (v := 8) (lv' := [(2, .int 8), (0, .ref (ad 1)), (1, .int p1)]) hE.1 hE.2.1 dX4_append_50 hl (k := 0) rfl (by decide) (by decide) rfl (fun ls hl => ?_)
  refine lv_goto (tgt := 23) hE.1 hE.2.1 dX4_append_53 (by decide) ?_
  refine lv_iload_n hE.1 hE.2.1 dX4_append_23 rfl (lv_at hl 0 rfl) ?_
  refine lv_if_lt (tgt := 56) hE.1 hE.2.1 dX4_append_24 (by decide) (fun h => absurd h (by decide)) (fun _ => ?_)
  refine lv_aload_n hE.1 hE.2.1 dX4_append_27 rfl (lv_at hl 1 rfl) ?_
  refine x_get (x := .ref (ad 2)) hE hK hP 1 (by decide) (xG_4 rfl) rfl hin4 3 (by decide) mw_152 rfl dX4_append_28 ?_
  refine lv_aload_n hE.1 hE.2.1 dX4_append_31 rfl (lv_at hl 1 rfl) ?_
  refine x_get (x := .int (v_4 1 0)) hE hK hP 1 (by decide) (xG_4 rfl) rfl hin4 0 (by decide) mw_146 rfl dX4_append_32 ?_
  refine x_top (y := 10) (up_eq hv_4) ?_
  refine lv_iload_n hE.1 hE.2.1 dX4_append_35 rfl (lv_at hl 2 rfl) ?_
  refine lv_iload_n hE.1 hE.2.1 dX4_append_36 rfl (lv_at hl 0 rfl) ?_
  refine lv_ishr hE.1 hE.2.1 dX4_append_37 ?_
  refine lv_i2b (v := ((p1 >>> (8 &&& 31)).toInt8.toInt32)) hE.1 hE.2.1 dX4_append_38 rfl ?_
  refine x_bast (j := 10) hE hK hN hP hS 2 (by decide) (fun _ => xG_12 rfl) (by unfold vp_in; decide) dX4_append_39 (fun ar_5 H locs har_5 hP hS => ?_)
  refine lv_aload_n hE.1 hE.2.1 dX4_append_40 rfl (lv_at hl 1 rfl) ?_
  refine lv_dup hE.1 hE.2.1 dX4_append_41 rfl ?_
  refine x_get (x := .int (v_4 1 0)) hE hK hP 1 (by decide) (xG_4 rfl) rfl hin4 0 (by decide) mw_146 rfl dX4_append_42 ?_
  refine x_top (y := 10) (up_eq hv_4) ?_
  refine lv_iconst (v := 1) hE.1 hE.2.1 dX4_append_45 (by decide) ?_
  refine lv_iadd hE.1 hE.2.1 dX4_append_46 ?_
  refine x_top (y := 11) (by decide) ?_
  refine x_put hE hK hN hP hS 1 (by decide) (xG_4 rfl) rfl hin4 tyX4 tyX4_ok nmX4 0 (by decide) mw_146 rfl rfl rfl (Nat.le_of_ble_eq_true rfl) (xG_4 rfl) dX4_append_47 (fun v_6 H locs hv_6 hP hS => ?_)
  refine lv_iinc (v := 0) (lv' := [(2, .int 0), (0, .ref (ad 1)), (1, .int p1)]) hE.1 hE.2.1 dX4_append_50 hl (k := 0) rfl (by decide) (by decide) rfl (fun ls hl => ?_)
  refine lv_goto (tgt := 23) hE.1 hE.2.1 dX4_append_53 (by decide) ?_
  refine lv_iload_n hE.1 hE.2.1 dX4_append_23 rfl (lv_at hl 0 rfl) ?_
  refine lv_if_lt (tgt := 56) hE.1 hE.2.1 dX4_append_24 (by decide) (fun h => absurd h (by decide)) (fun _ => ?_)
  refine lv_aload_n hE.1 hE.2.1 dX4_append_27 rfl (lv_at hl 1 rfl) ?_
  refine x_get (x := .ref (ad 2)) hE hK hP 1 (by decide) (xG_4 rfl) rfl hin4 3 (by decide) mw_152 rfl dX4_append_28 ?_
  refine lv_aload_n hE.1 hE.2.1 dX4_append_31 rfl (lv_at hl 1 rfl) ?_
  refine x_get (x := .int (v_6 1 0)) hE hK hP 1 (by decide) (xG_4 rfl) rfl hin4 0 (by decide) mw_146 rfl dX4_append_32 ?_
  refine x_top (y := 11) (up_eq hv_6) ?_
  refine lv_iload_n hE.1 hE.2.1 dX4_append_35 rfl (lv_at hl 2 rfl) ?_
  refine lv_iload_n hE.1 hE.2.1 dX4_append_36 rfl (lv_at hl 0 rfl) ?_
  refine lv_ishr hE.1 hE.2.1 dX4_append_37 ?_
  refine lv_i2b (v := ((p1 >>> (0 &&& 31)).toInt8.toInt32)) hE.1 hE.2.1 dX4_append_38 rfl ?_
  refine x_bast (j := 11) hE hK hN hP hS 2 (by decide) (fun _ => xG_12 rfl) (by unfold vp_in; decide) dX4_append_39 (fun ar_7 H locs har_7 hP hS => ?_)
  refine lv_aload_n hE.1 hE.2.1 dX4_append_40 rfl (lv_at hl 1 rfl) ?_
  refine lv_dup hE.1 hE.2.1 dX4_append_41 rfl ?_
  refine x_get (x := .int (v_6 1 0)) hE hK hP 1 (by decide) (xG_4 rfl) rfl hin4 0 (by decide) mw_146 rfl dX4_append_42 ?_
  refine x_top (y := 11) (up_eq hv_6) ?_
  refine lv_iconst (v := 1) hE.1 hE.2.1 dX4_append_45 (by decide) ?_
  refine lv_iadd hE.1 hE.2.1 dX4_append_46 ?_
  refine x_top (y := 12) (by decide) ?_
  refine x_put hE hK hN hP hS 1 (by decide) (xG_4 rfl) rfl hin4 tyX4 tyX4_ok nmX4 0 (by decide) mw_146 rfl rfl rfl (Nat.le_of_ble_eq_true rfl) (xG_4 rfl) dX4_append_47 (fun v_8 H locs hv_8 hP hS => ?_)
  refine lv_iinc (v := (-8)) (lv' := [(2, .int (-8)), (0, .ref (ad 1)), (1, .int p1)]) hE.1 hE.2.1 dX4_append_50 hl (k := 0) rfl (by decide) (by decide) rfl (fun ls hl => ?_)
  refine lv_goto (tgt := 23) hE.1 hE.2.1 dX4_append_53 (by decide) ?_
  refine lv_iload_n hE.1 hE.2.1 dX4_append_23 rfl (lv_at hl 0 rfl) ?_
  refine lv_if_lt (tgt := 56) hE.1 hE.2.1 dX4_append_24 (by decide) (fun _ => ?_) (fun h => absurd (by decide) h)
  exact x_wv hE hr hlo hP hS ⟨fun i j h => ((up_oth hv_8 (fun q => h (by rcases q with ⟨rfl, rfl⟩; decide))).trans ((up_oth hv_6 (fun q => h (by rcases q with ⟨rfl, rfl⟩; decide))).trans ((up_oth hv_4 (fun q => h (by rcases q with ⟨rfl, rfl⟩; decide))).trans (up_oth hv_2 (fun q => h (by rcases q with ⟨rfl, rfl⟩; decide)))))), (up_eq hv_8)⟩ dX4_append_56

set_option maxHeartbeats 4000000 in
set_option maxRecDepth 100000 in
theorem k_X4_append_12 (l : Launch) (D : va_G) (K : Nat → ClassId) (ad : Nat → Nat) (mm : Option Nat) (v ar : sI) (al : sL) (h_1_0 : v 1 0 = 12) (p1 : Int32) : Met l yX4_append (wM yX4_append cX4_append 3 none) (rmD 0) (va_Pc [.ref (ad 1), .int p1] (wPre D K ad (xG ad K mm) 132 v ar al)) (va_Qv (fun u : sT => (∀ i j : Nat, (i, j) ∉ ([(1, 0)] : List (Nat × Nat)) → u.1 i j = v i j) ∧ u.1 1 0 = 16) (wB D ad (xG ad K mm) 132) (inW ad 132)) 0 0 (inW ad 132) := by
  refine x_met (by decide) (Nat.le_of_ble_eq_true rfl) ?_
  intro p e s m below meth c ls hE hr hlo hnm hB hl
  have hE : CallFix p m c cX4_append 3 s _ tbG "TaleCourt$Reader" := hE
  obtain ⟨hP, hK, hN⟩ := hB
  have hS : va_S (inW ad 132) s.heap s.heap [] := va_S.rf
  have hl : lv_has ls 3 [(0, .ref (ad 1)), (1, .int p1)] := hl
  refine lv_aload_n hE.1 hE.2.1 dX4_append_0 rfl (lv_at hl 0 rfl) ?_
  refine x_get (x := .int (v 1 0)) hE hK hP 1 (by decide) (xG_4 rfl) rfl hin4 0 (by decide) mw_146 rfl dX4_append_1 ?_
  refine x_top (y := 12) h_1_0 ?_
  refine lv_iconst (v := 4) hE.1 hE.2.1 dX4_append_4 (by decide) ?_
  refine lv_iadd hE.1 hE.2.1 dX4_append_5 ?_
  refine x_top (y := 16) (by decide) ?_
  refine lv_sipush (v := 1600) hE.1 hE.2.1 dX4_append_6 (by decide) ?_
  refine lv_icmp_gt (tgt := 19) hE.1 hE.2.1 dX4_append_9 (by decide) (fun h => absurd h (by decide)) (fun _ => ?_)
  refine lv_aload_n hE.1 hE.2.1 dX4_append_12 rfl (lv_at hl 0 rfl) ?_
  refine x_get (x := .int (v 1 0)) hE hK hP 1 (by decide) (xG_4 rfl) rfl hin4 0 (by decide) mw_146 rfl dX4_append_13 ?_
  refine x_top (y := 12) h_1_0 ?_
  refine lv_if_ge (tgt := 20) hE.1 hE.2.1 dX4_append_16 (by decide) (fun _ => ?_) (fun h => absurd (by decide) h)
  refine lv_bipush (v := 24) hE.1 hE.2.1 dX4_append_20 (by decide) ?_
  refine lv_istore_n (lv' := [(2, .int 24), (0, .ref (ad 1)), (1, .int p1)]) hE.1 hE.2.1 dX4_append_22 rfl hl (by decide) rfl (fun ls hl => ?_)
  refine lv_iload_n hE.1 hE.2.1 dX4_append_23 rfl (lv_at hl 0 rfl) ?_
  refine lv_if_lt (tgt := 56) hE.1 hE.2.1 dX4_append_24 (by decide) (fun h => absurd h (by decide)) (fun _ => ?_)
  refine lv_aload_n hE.1 hE.2.1 dX4_append_27 rfl (lv_at hl 1 rfl) ?_
  refine x_get (x := .ref (ad 2)) hE hK hP 1 (by decide) (xG_4 rfl) rfl hin4 3 (by decide) mw_152 rfl dX4_append_28 ?_
  refine lv_aload_n hE.1 hE.2.1 dX4_append_31 rfl (lv_at hl 1 rfl) ?_
  refine x_get (x := .int (v 1 0)) hE hK hP 1 (by decide) (xG_4 rfl) rfl hin4 0 (by decide) mw_146 rfl dX4_append_32 ?_
  refine x_top (y := 12) h_1_0 ?_
  refine lv_iload_n hE.1 hE.2.1 dX4_append_35 rfl (lv_at hl 2 rfl) ?_
  refine lv_iload_n hE.1 hE.2.1 dX4_append_36 rfl (lv_at hl 0 rfl) ?_
  refine lv_ishr hE.1 hE.2.1 dX4_append_37 ?_
  refine lv_i2b (v := ((p1 >>> (24 &&& 31)).toInt8.toInt32)) hE.1 hE.2.1 dX4_append_38 rfl ?_
  refine x_bast (j := 12) hE hK hN hP hS 2 (by decide) (fun _ => xG_12 rfl) (by unfold vp_in; decide) dX4_append_39 (fun ar_1 H locs har_1 hP hS => ?_)
  refine lv_aload_n hE.1 hE.2.1 dX4_append_40 rfl (lv_at hl 1 rfl) ?_
  refine lv_dup hE.1 hE.2.1 dX4_append_41 rfl ?_
  refine x_get (x := .int (v 1 0)) hE hK hP 1 (by decide) (xG_4 rfl) rfl hin4 0 (by decide) mw_146 rfl dX4_append_42 ?_
  refine x_top (y := 12) h_1_0 ?_
  refine lv_iconst (v := 1) hE.1 hE.2.1 dX4_append_45 (by decide) ?_
  refine lv_iadd hE.1 hE.2.1 dX4_append_46 ?_
  refine x_top (y := 13) (by decide) ?_
  refine x_put hE hK hN hP hS 1 (by decide) (xG_4 rfl) rfl hin4 tyX4 tyX4_ok nmX4 0 (by decide) mw_146 rfl rfl rfl (Nat.le_of_ble_eq_true rfl) (xG_4 rfl) dX4_append_47 (fun v_2 H locs hv_2 hP hS => ?_)
  refine lv_iinc (v := 16) (lv' := [(2, .int 16), (0, .ref (ad 1)), (1, .int p1)]) hE.1 hE.2.1 dX4_append_50 hl (k := 0) rfl (by decide) (by decide) rfl (fun ls hl => ?_)
  refine lv_goto (tgt := 23) hE.1 hE.2.1 dX4_append_53 (by decide) ?_
  refine lv_iload_n hE.1 hE.2.1 dX4_append_23 rfl (lv_at hl 0 rfl) ?_
  refine lv_if_lt (tgt := 56) hE.1 hE.2.1 dX4_append_24 (by decide) (fun h => absurd h (by decide)) (fun _ => ?_)
  refine lv_aload_n hE.1 hE.2.1 dX4_append_27 rfl (lv_at hl 1 rfl) ?_
  refine x_get (x := .ref (ad 2)) hE hK hP 1 (by decide) (xG_4 rfl) rfl hin4 3 (by decide) mw_152 rfl dX4_append_28 ?_
  refine lv_aload_n hE.1 hE.2.1 dX4_append_31 rfl (lv_at hl 1 rfl) ?_
  refine x_get (x := .int (v_2 1 0)) hE hK hP 1 (by decide) (xG_4 rfl) rfl hin4 0 (by decide) mw_146 rfl dX4_append_32 ?_
  refine x_top (y := 13) (up_eq hv_2) ?_
  refine lv_iload_n hE.1 hE.2.1 dX4_append_35 rfl (lv_at hl 2 rfl) ?_
  refine lv_iload_n hE.1 hE.2.1 dX4_append_36 rfl (lv_at hl 0 rfl) ?_
  refine lv_ishr hE.1 hE.2.1 dX4_append_37 ?_
  refine lv_i2b (v := ((p1 >>> (16 &&& 31)).toInt8.toInt32)) hE.1 hE.2.1 dX4_append_38 rfl ?_
  refine x_bast (j := 13) hE hK hN hP hS 2 (by decide) (fun _ => xG_12 rfl) (by unfold vp_in; decide) dX4_append_39 (fun ar_3 H locs har_3 hP hS => ?_)
  refine lv_aload_n hE.1 hE.2.1 dX4_append_40 rfl (lv_at hl 1 rfl) ?_
  refine lv_dup hE.1 hE.2.1 dX4_append_41 rfl ?_
  refine x_get (x := .int (v_2 1 0)) hE hK hP 1 (by decide) (xG_4 rfl) rfl hin4 0 (by decide) mw_146 rfl dX4_append_42 ?_
  refine x_top (y := 13) (up_eq hv_2) ?_
  refine lv_iconst (v := 1) hE.1 hE.2.1 dX4_append_45 (by decide) ?_
  refine lv_iadd hE.1 hE.2.1 dX4_append_46 ?_
  refine x_top (y := 14) (by decide) ?_
  refine x_put hE hK hN hP hS 1 (by decide) (xG_4 rfl) rfl hin4 tyX4 tyX4_ok nmX4 0 (by decide) mw_146 rfl rfl rfl (Nat.le_of_ble_eq_true rfl) (xG_4 rfl) dX4_append_47 (fun v_4 H locs hv_4 hP hS => ?_)
  refine lv_iinc (v := 8) (lv' := [(2, .int 8), (0, .ref (ad 1)), (1, .int p1)]) hE.1 hE.2.1 dX4_append_50 hl (k := 0) rfl (by decide) (by decide) rfl (fun ls hl => ?_)
  refine lv_goto (tgt := 23) hE.1 hE.2.1 dX4_append_53 (by decide) ?_
  refine lv_iload_n hE.1 hE.2.1 dX4_append_23 rfl (lv_at hl 0 rfl) ?_
  refine lv_if_lt (tgt := 56) hE.1 hE.2.1 dX4_append_24 (by decide) (fun h => absurd h (by decide)) (fun _ => ?_)
  refine lv_aload_n hE.1 hE.2.1 dX4_append_27 rfl (lv_at hl 1 rfl) ?_
  refine x_get (x := .ref (ad 2)) hE hK hP 1 (by decide) (xG_4 rfl) rfl hin4 3 (by decide) mw_152 rfl dX4_append_28 ?_
  refine lv_aload_n hE.1 hE.2.1 dX4_append_31 rfl (lv_at hl 1 rfl) ?_
  refine x_get (x := .int (v_4 1 0)) hE hK hP 1 (by decide) (xG_4 rfl) rfl hin4 0 (by decide) mw_146 rfl dX4_append_32 ?_
  refine x_top (y := 14) (up_eq hv_4) ?_
  refine lv_iload_n hE.1 hE.2.1 dX4_append_35 rfl (lv_at hl 2 rfl) ?_
  refine lv_iload_n hE.1 hE.2.1 dX4_append_36 rfl (lv_at hl 0 rfl) ?_
  refine lv_ishr hE.1 hE.2.1 dX4_append_37 ?_
  refine lv_i2b (v := ((p1 >>> (8 &&& 31)).toInt8.toInt32)) hE.1 hE.2.1 dX4_append_38 rfl ?_
  refine x_bast (j := 14) hE hK hN hP hS 2 (by decide) (fun _ => xG_12 rfl) (by unfold vp_in; decide) dX4_append_39 (fun ar_5 H locs har_5 hP hS => ?_)
  refine lv_aload_n hE.1 hE.2.1 dX4_append_40 rfl (lv_at hl 1 rfl) ?_
  refine lv_dup hE.1 hE.2.1 dX4_append_41 rfl ?_
  refine x_get (x := .int (v_4 1 0)) hE hK hP 1 (by decide) (xG_4 rfl) rfl hin4 0 (by decide) mw_146 rfl dX4_append_42 ?_
  refine x_top (y := 14) (up_eq hv_4) ?_
  refine lv_iconst (v := 1) hE.1 hE.2.1 dX4_append_45 (by decide) ?_
  refine lv_iadd hE.1 hE.2.1 dX4_append_46 ?_
  refine x_top (y := 15) (by decide) ?_
  refine x_put hE hK hN hP hS 1 (by decide) (xG_4 rfl) rfl hin4 tyX4 tyX4_ok nmX4 0 (by decide) mw_146 rfl rfl rfl (Nat.le_of_ble_eq_true rfl) (xG_4 rfl) dX4_append_47 (fun v_6 H locs hv_6 hP hS => ?_)
  refine lv_iinc (v := 0) (lv' := [(2, .int 0), (0, .ref (ad 1)), (1, .int p1)]) hE.1 hE.2.1 dX4_append_50 hl (k := 0) rfl (by decide) (by decide) rfl (fun ls hl => ?_)
  refine lv_goto (tgt := 23) hE.1 hE.2.1 dX4_append_53 (by decide) ?_
  refine lv_iload_n hE.1 hE.2.1 dX4_append_23 rfl (lv_at hl 0 rfl) ?_
  refine lv_if_lt (tgt := 56) hE.1 hE.2.1 dX4_append_24 (by decide) (fun h => absurd h (by decide)) (fun _ => ?_)
  refine lv_aload_n hE.1 hE.2.1 dX4_append_27 rfl (lv_at hl 1 rfl) ?_
  refine x_get (x := .ref (ad 2)) hE hK hP 1 (by decide) (xG_4 rfl) rfl hin4 3 (by decide) mw_152 rfl dX4_append_28 ?_
  refine lv_aload_n hE.1 hE.2.1 dX4_append_31 rfl (lv_at hl 1 rfl) ?_
  refine x_get (x := .int (v_6 1 0)) hE hK hP 1 (by decide) (xG_4 rfl) rfl hin4 0 (by decide) mw_146 rfl dX4_append_32 ?_
  refine x_top (y := 15) (up_eq hv_6) ?_
  refine lv_iload_n hE.1 hE.2.1 dX4_append_35 rfl (lv_at hl 2 rfl) ?_
  refine lv_iload_n hE.1 hE.2.1 dX4_append_36 rfl (lv_at hl 0 rfl) ?_
  refine lv_ishr hE.1 hE.2.1 dX4_append_37 ?_
  refine lv_i2b (v := ((p1 >>> (0 &&& 31)).toInt8.toInt32)) hE.1 hE.2.1 dX4_append_38 rfl ?_
  refine x_bast (j := 15) hE hK hN hP hS 2 (by decide) (fun _ => xG_12 rfl) (by unfold vp_in; decide) dX4_append_39 (fun ar_7 H locs har_7 hP hS => ?_)
  refine lv_aload_n hE.1 hE.2.1 dX4_append_40 rfl (lv_at hl 1 rfl) ?_
  refine lv_dup hE.1 hE.2.1 dX4_append_41 rfl ?_
  refine x_get (x := .int (v_6 1 0)) hE hK hP 1 (by decide) (xG_4 rfl) rfl hin4 0 (by decide) mw_146 rfl dX4_append_42 ?_
  refine x_top (y := 15) (up_eq hv_6) ?_
  refine lv_iconst (v := 1) hE.1 hE.2.1 dX4_append_45 (by decide) ?_
  refine lv_iadd hE.1 hE.2.1 dX4_append_46 ?_
  refine x_top (y := 16) (by decide) ?_
  refine x_put hE hK hN hP hS 1 (by decide) (xG_4 rfl) rfl hin4 tyX4 tyX4_ok nmX4 0 (by decide) mw_146 rfl rfl rfl (Nat.le_of_ble_eq_true rfl) (xG_4 rfl) dX4_append_47 (fun v_8 H locs hv_8 hP hS => ?_)
  refine lv_iinc (v := (-8)) (lv' := [(2, .int (-8)), (0, .ref (ad 1)), (1, .int p1)]) hE.1 hE.2.1 dX4_append_50 hl (k := 0) rfl (by decide) (by decide) rfl (fun ls hl => ?_)
  refine lv_goto (tgt := 23) hE.1 hE.2.1 dX4_append_53 (by decide) ?_
  refine lv_iload_n hE.1 hE.2.1 dX4_append_23 rfl (lv_at hl 0 rfl) ?_
  refine lv_if_lt (tgt := 56) hE.1 hE.2.1 dX4_append_24 (by decide) (fun _ => ?_) (fun h => absurd (by decide) h)
  exact x_wv hE hr hlo hP hS ⟨fun i j h => ((up_oth hv_8 (fun q => h (by rcases q with ⟨rfl, rfl⟩; decide))).trans ((up_oth hv_6 (fun q => h (by rcases q with ⟨rfl, rfl⟩; decide))).trans ((up_oth hv_4 (fun q => h (by rcases q with ⟨rfl, rfl⟩; decide))).trans (up_oth hv_2 (fun q => h (by rcases q with ⟨rfl, rfl⟩; decide)))))), (up_eq hv_8)⟩ dX4_append_56

set_option maxHeartbeats 4000000 in
set_option maxRecDepth 100000 in
theorem k_X4_append_16 (l : Launch) (D : va_G) (K : Nat → ClassId) (ad : Nat → Nat) (mm : Option Nat) (v ar : sI) (al : sL) (h_1_0 : v 1 0 = 16) (p1 : Int32) : Met l yX4_append (wM yX4_append cX4_append 3 none) (rmD 0) (va_Pc [.ref (ad 1), .int p1] (wPre D K ad (xG ad K mm) 132 v ar al)) (va_Qv (fun u : sT => (∀ i j : Nat, (i, j) ∉ ([(1, 0)] : List (Nat × Nat)) → u.1 i j = v i j) ∧ u.1 1 0 = 20) (wB D ad (xG ad K mm) 132) (inW ad 132)) 0 0 (inW ad 132) := by
  refine x_met (by decide) (Nat.le_of_ble_eq_true rfl) ?_
  intro p e s m below meth c ls hE hr hlo hnm hB hl
  have hE : CallFix p m c cX4_append 3 s _ tbG "TaleCourt$Reader" := hE
  obtain ⟨hP, hK, hN⟩ := hB
  have hS : va_S (inW ad 132) s.heap s.heap [] := va_S.rf
  have hl : lv_has ls 3 [(0, .ref (ad 1)), (1, .int p1)] := hl
  refine lv_aload_n hE.1 hE.2.1 dX4_append_0 rfl (lv_at hl 0 rfl) ?_
  refine x_get (x := .int (v 1 0)) hE hK hP 1 (by decide) (xG_4 rfl) rfl hin4 0 (by decide) mw_146 rfl dX4_append_1 ?_
  refine x_top (y := 16) h_1_0 ?_
  refine lv_iconst (v := 4) hE.1 hE.2.1 dX4_append_4 (by decide) ?_
  refine lv_iadd hE.1 hE.2.1 dX4_append_5 ?_
  refine x_top (y := 20) (by decide) ?_
  refine lv_sipush (v := 1600) hE.1 hE.2.1 dX4_append_6 (by decide) ?_
  refine lv_icmp_gt (tgt := 19) hE.1 hE.2.1 dX4_append_9 (by decide) (fun h => absurd h (by decide)) (fun _ => ?_)
  refine lv_aload_n hE.1 hE.2.1 dX4_append_12 rfl (lv_at hl 0 rfl) ?_
  refine x_get (x := .int (v 1 0)) hE hK hP 1 (by decide) (xG_4 rfl) rfl hin4 0 (by decide) mw_146 rfl dX4_append_13 ?_
  refine x_top (y := 16) h_1_0 ?_
  refine lv_if_ge (tgt := 20) hE.1 hE.2.1 dX4_append_16 (by decide) (fun _ => ?_) (fun h => absurd (by decide) h)
  refine lv_bipush (v := 24) hE.1 hE.2.1 dX4_append_20 (by decide) ?_
  refine lv_istore_n (lv' := [(2, .int 24), (0, .ref (ad 1)), (1, .int p1)]) hE.1 hE.2.1 dX4_append_22 rfl hl (by decide) rfl (fun ls hl => ?_)
  refine lv_iload_n hE.1 hE.2.1 dX4_append_23 rfl (lv_at hl 0 rfl) ?_
  refine lv_if_lt (tgt := 56) hE.1 hE.2.1 dX4_append_24 (by decide) (fun h => absurd h (by decide)) (fun _ => ?_)
  refine lv_aload_n hE.1 hE.2.1 dX4_append_27 rfl (lv_at hl 1 rfl) ?_
  refine x_get (x := .ref (ad 2)) hE hK hP 1 (by decide) (xG_4 rfl) rfl hin4 3 (by decide) mw_152 rfl dX4_append_28 ?_
  refine lv_aload_n hE.1 hE.2.1 dX4_append_31 rfl (lv_at hl 1 rfl) ?_
  refine x_get (x := .int (v 1 0)) hE hK hP 1 (by decide) (xG_4 rfl) rfl hin4 0 (by decide) mw_146 rfl dX4_append_32 ?_
  refine x_top (y := 16) h_1_0 ?_
  refine lv_iload_n hE.1 hE.2.1 dX4_append_35 rfl (lv_at hl 2 rfl) ?_
  refine lv_iload_n hE.1 hE.2.1 dX4_append_36 rfl (lv_at hl 0 rfl) ?_
  refine lv_ishr hE.1 hE.2.1 dX4_append_37 ?_
  refine lv_i2b (v := ((p1 >>> (24 &&& 31)).toInt8.toInt32)) hE.1 hE.2.1 dX4_append_38 rfl ?_
  refine x_bast (j := 16) hE hK hN hP hS 2 (by decide) (fun _ => xG_12 rfl) (by unfold vp_in; decide) dX4_append_39 (fun ar_1 H locs har_1 hP hS => ?_)
  refine lv_aload_n hE.1 hE.2.1 dX4_append_40 rfl (lv_at hl 1 rfl) ?_
  refine lv_dup hE.1 hE.2.1 dX4_append_41 rfl ?_
  refine x_get (x := .int (v 1 0)) hE hK hP 1 (by decide) (xG_4 rfl) rfl hin4 0 (by decide) mw_146 rfl dX4_append_42 ?_
  refine x_top (y := 16) h_1_0 ?_
  refine lv_iconst (v := 1) hE.1 hE.2.1 dX4_append_45 (by decide) ?_
  refine lv_iadd hE.1 hE.2.1 dX4_append_46 ?_
  refine x_top (y := 17) (by decide) ?_
  refine x_put hE hK hN hP hS 1 (by decide) (xG_4 rfl) rfl hin4 tyX4 tyX4_ok nmX4 0 (by decide) mw_146 rfl rfl rfl (Nat.le_of_ble_eq_true rfl) (xG_4 rfl) dX4_append_47 (fun v_2 H locs hv_2 hP hS => ?_)
  refine lv_iinc (v := 16) (lv' := [(2, .int 16), (0, .ref (ad 1)), (1, .int p1)]) hE.1 hE.2.1 dX4_append_50 hl (k := 0) rfl (by decide) (by decide) rfl (fun ls hl => ?_)
  refine lv_goto (tgt := 23) hE.1 hE.2.1 dX4_append_53 (by decide) ?_
  refine lv_iload_n hE.1 hE.2.1 dX4_append_23 rfl (lv_at hl 0 rfl) ?_
  refine lv_if_lt (tgt := 56) hE.1 hE.2.1 dX4_append_24 (by decide) (fun h => absurd h (by decide)) (fun _ => ?_)
  refine lv_aload_n hE.1 hE.2.1 dX4_append_27 rfl (lv_at hl 1 rfl) ?_
  refine x_get (x := .ref (ad 2)) hE hK hP 1 (by decide) (xG_4 rfl) rfl hin4 3 (by decide) mw_152 rfl dX4_append_28 ?_
  refine lv_aload_n hE.1 hE.2.1 dX4_append_31 rfl (lv_at hl 1 rfl) ?_
  refine x_get (x := .int (v_2 1 0)) hE hK hP 1 (by decide) (xG_4 rfl) rfl hin4 0 (by decide) mw_146 rfl dX4_append_32 ?_
  refine x_top (y := 17) (up_eq hv_2) ?_
  refine lv_iload_n hE.1 hE.2.1 dX4_append_35 rfl (lv_at hl 2 rfl) ?_
  refine lv_iload_n hE.1 hE.2.1 dX4_append_36 rfl (lv_at hl 0 rfl) ?_
  refine lv_ishr hE.1 hE.2.1 dX4_append_37 ?_
  refine lv_i2b (v := ((p1 >>> (16 &&& 31)).toInt8.toInt32)) hE.1 hE.2.1 dX4_append_38 rfl ?_
  refine x_bast (j := 17) hE hK hN hP hS 2 (by decide) (fun _ => xG_12 rfl) (by unfold vp_in; decide) dX4_append_39 (fun ar_3 H locs har_3 hP hS => ?_)
  refine lv_aload_n hE.1 hE.2.1 dX4_append_40 rfl (lv_at hl 1 rfl) ?_
  refine lv_dup hE.1 hE.2.1 dX4_append_41 rfl ?_
  refine x_get (x := .int (v_2 1 0)) hE hK hP 1 (by decide) (xG_4 rfl) rfl hin4 0 (by decide) mw_146 rfl dX4_append_42 ?_
  refine x_top (y := 17) (up_eq hv_2) ?_
  refine lv_iconst (v := 1) hE.1 hE.2.1 dX4_append_45 (by decide) ?_
  refine lv_iadd hE.1 hE.2.1 dX4_append_46 ?_
  refine x_top (y := 18) (by decide) ?_
  refine x_put hE hK hN hP hS 1 (by decide) (xG_4 rfl) rfl hin4 tyX4 tyX4_ok nmX4 0 (by decide) mw_146 rfl rfl rfl (Nat.le_of_ble_eq_true rfl) (xG_4 rfl) dX4_append_47 (fun v_4 H locs hv_4 hP hS => ?_)
  refine lv_iinc (v := 8) (lv' := [(2, .int 8), (0, .ref (ad 1)), (1, .int p1)]) hE.1 hE.2.1 dX4_append_50 hl (k := 0) rfl (by decide) (by decide) rfl (fun ls hl => ?_)
  refine lv_goto (tgt := 23) hE.1 hE.2.1 dX4_append_53 (by decide) ?_
  refine lv_iload_n hE.1 hE.2.1 dX4_append_23 rfl (lv_at hl 0 rfl) ?_
  refine lv_if_lt (tgt := 56) hE.1 hE.2.1 dX4_append_24 (by decide) (fun h => absurd h (by decide)) (fun _ => ?_)
  refine lv_aload_n hE.1 hE.2.1 dX4_append_27 rfl (lv_at hl 1 rfl) ?_
  refine x_get (x := .ref (ad 2)) hE hK hP 1 (by decide) (xG_4 rfl) rfl hin4 3 (by decide) mw_152 rfl dX4_append_28 ?_
  refine lv_aload_n hE.1 hE.2.1 dX4_append_31 rfl (lv_at hl 1 rfl) ?_
  refine x_get (x := .int (v_4 1 0)) hE hK hP 1 (by decide) (xG_4 rfl) rfl hin4 0 (by decide) mw_146 rfl dX4_append_32 ?_
  refine x_top (y := 18) (up_eq hv_4) ?_
  refine lv_iload_n hE.1 hE.2.1 dX4_append_35 rfl (lv_at hl 2 rfl) ?_
  refine lv_iload_n hE.1 hE.2.1 dX4_append_36 rfl (lv_at hl 0 rfl) ?_
  refine lv_ishr hE.1 hE.2.1 dX4_append_37 ?_
  refine lv_i2b (v := ((p1 >>> (8 &&& 31)).toInt8.toInt32)) hE.1 hE.2.1 dX4_append_38 rfl ?_
  refine x_bast (j := 18) hE hK hN hP hS 2 (by decide) (fun _ => xG_12 rfl) (by unfold vp_in; decide) dX4_append_39 (fun ar_5 H locs har_5 hP hS => ?_)
  refine lv_aload_n hE.1 hE.2.1 dX4_append_40 rfl (lv_at hl 1 rfl) ?_
  refine lv_dup hE.1 hE.2.1 dX4_append_41 rfl ?_
  refine x_get (x := .int (v_4 1 0)) hE hK hP 1 (by decide) (xG_4 rfl) rfl hin4 0 (by decide) mw_146 rfl dX4_append_42 ?_
  refine x_top (y := 18) (up_eq hv_4) ?_
  refine lv_iconst (v := 1) hE.1 hE.2.1 dX4_append_45 (by decide) ?_
  refine lv_iadd hE.1 hE.2.1 dX4_append_46 ?_
  refine x_top (y := 19) (by decide) ?_
  refine x_put hE hK hN hP hS 1 (by decide) (xG_4 rfl) rfl hin4 tyX4 tyX4_ok nmX4 0 (by decide) mw_146 rfl rfl rfl (Nat.le_of_ble_eq_true rfl) (xG_4 rfl) dX4_append_47 (fun v_6 H locs hv_6 hP hS => ?_)
  refine lv_iinc (v := 0) (lv' := [(2, .int 0), (0, .ref (ad 1)), (1, .int p1)]) hE.1 hE.2.1 dX4_append_50 hl (k := 0) rfl (by decide) (by decide) rfl (fun ls hl => ?_)
  refine lv_goto (tgt := 23) hE.1 hE.2.1 dX4_append_53 (by decide) ?_
  refine lv_iload_n hE.1 hE.2.1 dX4_append_23 rfl (lv_at hl 0 rfl) ?_
  refine lv_if_lt (tgt := 56) hE.1 hE.2.1 dX4_append_24 (by decide) (fun h => absurd h (by decide)) (fun _ => ?_)
  refine lv_aload_n hE.1 hE.2.1 dX4_append_27 rfl (lv_at hl 1 rfl) ?_
  refine x_get (x := .ref (ad 2)) hE hK hP 1 (by decide) (xG_4 rfl) rfl hin4 3 (by decide) mw_152 rfl dX4_append_28 ?_
  refine lv_aload_n hE.1 hE.2.1 dX4_append_31 rfl (lv_at hl 1 rfl) ?_
  refine x_get (x := .int (v_6 1 0)) hE hK hP 1 (by decide) (xG_4 rfl) rfl hin4 0 (by decide) mw_146 rfl dX4_append_32 ?_
  refine x_top (y := 19) (up_eq hv_6) ?_
  refine lv_iload_n hE.1 hE.2.1 dX4_append_35 rfl (lv_at hl 2 rfl) ?_
  refine lv_iload_n hE.1 hE.2.1 dX4_append_36 rfl (lv_at hl 0 rfl) ?_
  refine lv_ishr hE.1 hE.2.1 dX4_append_37 ?_
  refine lv_i2b (v := ((p1 >>> (0 &&& 31)).toInt8.toInt32)) hE.1 hE.2.1 dX4_append_38 rfl ?_
  refine x_bast (j := 19) hE hK hN hP hS 2 (by decide) (fun _ => xG_12 rfl) (by unfold vp_in; decide) dX4_append_39 (fun ar_7 H locs har_7 hP hS => ?_)
  refine lv_aload_n hE.1 hE.2.1 dX4_append_40 rfl (lv_at hl 1 rfl) ?_
  refine lv_dup hE.1 hE.2.1 dX4_append_41 rfl ?_
  refine x_get (x := .int (v_6 1 0)) hE hK hP 1 (by decide) (xG_4 rfl) rfl hin4 0 (by decide) mw_146 rfl dX4_append_42 ?_
  refine x_top (y := 19) (up_eq hv_6) ?_
  refine lv_iconst (v := 1) hE.1 hE.2.1 dX4_append_45 (by decide) ?_
  refine lv_iadd hE.1 hE.2.1 dX4_append_46 ?_
  refine x_top (y := 20) (by decide) ?_
  refine x_put hE hK hN hP hS 1 (by decide) (xG_4 rfl) rfl hin4 tyX4 tyX4_ok nmX4 0 (by decide) mw_146 rfl rfl rfl (Nat.le_of_ble_eq_true rfl) (xG_4 rfl) dX4_append_47 (fun v_8 H locs hv_8 hP hS => ?_)
  refine lv_iinc (v := (-8)) (lv' := [(2, .int (-8)), (0, .ref (ad 1)), (1, .int p1)]) hE.1 hE.2.1 dX4_append_50 hl (k := 0) rfl (by decide) (by decide) rfl (fun ls hl => ?_)
  refine lv_goto (tgt := 23) hE.1 hE.2.1 dX4_append_53 (by decide) ?_
  refine lv_iload_n hE.1 hE.2.1 dX4_append_23 rfl (lv_at hl 0 rfl) ?_
  refine lv_if_lt (tgt := 56) hE.1 hE.2.1 dX4_append_24 (by decide) (fun _ => ?_) (fun h => absurd (by decide) h)
  exact x_wv hE hr hlo hP hS ⟨fun i j h => ((up_oth hv_8 (fun q => h (by rcases q with ⟨rfl, rfl⟩; decide))).trans ((up_oth hv_6 (fun q => h (by rcases q with ⟨rfl, rfl⟩; decide))).trans ((up_oth hv_4 (fun q => h (by rcases q with ⟨rfl, rfl⟩; decide))).trans (up_oth hv_2 (fun q => h (by rcases q with ⟨rfl, rfl⟩; decide)))))), (up_eq hv_8)⟩ dX4_append_56

theorem dX8_feed_0 : decode cX8_feed 0 = .ok (.aload_n 0, 1) := by decide +kernel
theorem dX8_feed_1 : decode cX8_feed 1 = .ok (.getfield 12, 3) := by decide +kernel
theorem dX8_feed_4 : decode cX8_feed 4 = .ok (.getfield 75, 3) := by decide +kernel
theorem dX8_feed_7 : decode cX8_feed 7 = .ok (.bipush 20, 2) := by decide +kernel
theorem dX8_feed_9 : decode cX8_feed 9 = .ok (.iadd, 1) := by decide +kernel
theorem dX8_feed_10 : decode cX8_feed 10 = .ok (.sipush 1600, 3) := by decide +kernel
theorem dX8_feed_13 : decode cX8_feed 13 = .ok (.if_icmp .le 5, 3) := by decide +kernel
theorem dX8_feed_18 : decode cX8_feed 18 = .ok (.aload_n 0, 1) := by decide +kernel
theorem dX8_feed_19 : decode cX8_feed 19 = .ok (.getfield 12, 3) := by decide +kernel
theorem dX8_feed_22 : decode cX8_feed 22 = .ok (.iload_n 1, 1) := by decide +kernel
theorem dX8_feed_23 : decode cX8_feed 23 = .ok (.invokevirtual 79, 3) := by decide +kernel
theorem dX8_feed_26 : decode cX8_feed 26 = .ok (.aload_n 0, 1) := by decide +kernel
theorem dX8_feed_27 : decode cX8_feed 27 = .ok (.getfield 12, 3) := by decide +kernel
theorem dX8_feed_30 : decode cX8_feed 30 = .ok (.iload_n 2, 1) := by decide +kernel
theorem dX8_feed_31 : decode cX8_feed 31 = .ok (.invokevirtual 79, 3) := by decide +kernel
theorem dX8_feed_34 : decode cX8_feed 34 = .ok (.aload_n 0, 1) := by decide +kernel
theorem dX8_feed_35 : decode cX8_feed 35 = .ok (.getfield 12, 3) := by decide +kernel
theorem dX8_feed_38 : decode cX8_feed 38 = .ok (.iload_n 3, 1) := by decide +kernel
theorem dX8_feed_39 : decode cX8_feed 39 = .ok (.invokevirtual 79, 3) := by decide +kernel
theorem dX8_feed_42 : decode cX8_feed 42 = .ok (.aload_n 0, 1) := by decide +kernel
theorem dX8_feed_43 : decode cX8_feed 43 = .ok (.getfield 12, 3) := by decide +kernel
theorem dX8_feed_46 : decode cX8_feed 46 = .ok (.iload 4, 2) := by decide +kernel
theorem dX8_feed_48 : decode cX8_feed 48 = .ok (.invokevirtual 79, 3) := by decide +kernel
theorem dX8_feed_51 : decode cX8_feed 51 = .ok (.aload_n 0, 1) := by decide +kernel
theorem dX8_feed_52 : decode cX8_feed 52 = .ok (.getfield 12, 3) := by decide +kernel
theorem dX8_feed_55 : decode cX8_feed 55 = .ok (.iload 5, 2) := by decide +kernel
theorem dX8_feed_57 : decode cX8_feed 57 = .ok (.invokevirtual 79, 3) := by decide +kernel
theorem dX8_feed_60 : decode cX8_feed 60 = .ok (.aload_n 0, 1) := by decide +kernel
theorem dX8_feed_61 : decode cX8_feed 61 = .ok (.getfield 12, 3) := by decide +kernel
theorem dX8_feed_64 : decode cX8_feed 64 = .ok (.getfield 75, 3) := by decide +kernel
theorem dX8_feed_67 : decode cX8_feed 67 = .ok (.ireturn, 1) := by decide +kernel
set_option maxHeartbeats 4000000 in
set_option maxRecDepth 100000 in
theorem k_X8_feed (l : Launch) (D : va_G) (K : Nat → ClassId) (ad : Nat → Nat) (mm : Option Nat) (p1 : Int32) (p2 : Int32) (p3 : Int32) (p4 : Int32) (p5 : Int32) : Met l yX8_feed (wM yX8_feed cX8_feed 6 (some .int)) (rmD 1) (va_Pc [.ref (ad 0), .int p1, .int p2, .int p3, .int p4, .int p5] (wPre D K ad (xG ad K mm) 132 xv0 xa0 xl0)) (va_Qi (fun (r : Int32) (_ : sT) => r = 20) (wB D ad (xG ad K mm) 132) (inW ad 132)) 0 0 (inW ad 132) := by
  refine x_met (by decide) (Nat.le_of_ble_eq_true rfl) ?_
  intro p e s m below meth c ls hE hr hlo hnm hB hl
  have hE : CallFix p m c cX8_feed 6 s _ tbG "TaleCourt" := hE
  obtain ⟨hP, hK, hN⟩ := hB
  have hS : va_S (inW ad 132) s.heap s.heap [] := va_S.rf
  have hl : lv_has ls 6 [(0, .ref (ad 0)), (1, .int p1), (2, .int p2), (3, .int p3), (4, .int p4), (5, .int p5)] := hl
  refine lv_aload_n hE.1 hE.2.1 dX8_feed_0 rfl (lv_at hl 0 rfl) ?_
  refine x_get (x := .ref (ad 1)) hE hK hP 0 (by decide) (xG_8 rfl) rfl hin8 0 (by decide) mw_480 rfl dX8_feed_1 ?_
  refine x_get (x := .int 0) hE hK hP 1 (by decide) (xG_4 rfl) rfl hin4 0 (by decide) mw_147 rfl dX8_feed_4 ?_
  refine lv_bipush (v := 20) hE.1 hE.2.1 dX8_feed_7 (by decide) ?_
  refine lv_iadd hE.1 hE.2.1 dX8_feed_9 ?_
  refine x_top (y := 20) (by decide) ?_
  refine lv_sipush (v := 1600) hE.1 hE.2.1 dX8_feed_10 (by decide) ?_
  refine lv_icmp_le (tgt := 18) hE.1 hE.2.1 dX8_feed_13 (by decide) (fun _ => ?_) (fun h => absurd (by decide) h)
  refine lv_aload_n hE.1 hE.2.1 dX8_feed_18 rfl (lv_at hl 0 rfl) ?_
  refine x_get (x := .ref (ad 1)) hE hK hP 0 (by decide) (xG_8 rfl) rfl hin8 0 (by decide) mw_480 rfl dX8_feed_19 ?_
  refine lv_iload_n hE.1 hE.2.1 dX8_feed_22 rfl (lv_at hl 1 rfl) ?_
  refine x_vv (nn := 1) (As := [.int p1]) (rest := []) hE hK hN hP hS (k_X4_append_0 l D K ad mm xv0 xa0 xl0 rfl p1) (x_recv hK hP 1 (by decide) (xG_4 rfl) rfl) rfl mw_515 mw_516 mw_517 mw_115 mw_518 (by decide +kernel) ⟨by decide, by decide⟩ hl.1 rfl (Nat.le_of_ble_eq_true rfl) ⟨Nat.zero_le _, Nat.zero_le _⟩ dX8_feed_23 (fun v_1 ar_1 al_1 H locs hq_1 hP hS => ?_)
  refine lv_aload_n hE.1 hE.2.1 dX8_feed_26 rfl (lv_at hl 0 rfl) ?_
  refine x_get (x := .ref (ad 1)) hE hK hP 0 (by decide) (xG_8 rfl) rfl hin8 0 (by decide) mw_480 rfl dX8_feed_27 ?_
  refine lv_iload_n hE.1 hE.2.1 dX8_feed_30 rfl (lv_at hl 2 rfl) ?_
  refine x_vv (nn := 1) (As := [.int p2]) (rest := []) hE hK hN hP hS (k_X4_append_4 l D K ad mm v_1 ar_1 al_1 hq_1.2 p2) (x_recv hK hP 1 (by decide) (xG_4 rfl) rfl) rfl mw_515 mw_516 mw_517 mw_115 mw_518 (by decide +kernel) ⟨by decide, by decide⟩ hl.1 rfl (Nat.le_of_ble_eq_true rfl) ⟨Nat.zero_le _, Nat.zero_le _⟩ dX8_feed_31 (fun v_2 ar_2 al_2 H locs hq_2 hP hS => ?_)
  refine lv_aload_n hE.1 hE.2.1 dX8_feed_34 rfl (lv_at hl 0 rfl) ?_
  refine x_get (x := .ref (ad 1)) hE hK hP 0 (by decide) (xG_8 rfl) rfl hin8 0 (by decide) mw_480 rfl dX8_feed_35 ?_
  refine lv_iload_n hE.1 hE.2.1 dX8_feed_38 rfl (lv_at hl 3 rfl) ?_
  refine x_vv (nn := 1) (As := [.int p3]) (rest := []) hE hK hN hP hS (k_X4_append_8 l D K ad mm v_2 ar_2 al_2 hq_2.2 p3) (x_recv hK hP 1 (by decide) (xG_4 rfl) rfl) rfl mw_515 mw_516 mw_517 mw_115 mw_518 (by decide +kernel) ⟨by decide, by decide⟩ hl.1 rfl (Nat.le_of_ble_eq_true rfl) ⟨Nat.zero_le _, Nat.zero_le _⟩ dX8_feed_39 (fun v_3 ar_3 al_3 H locs hq_3 hP hS => ?_)
  refine lv_aload_n hE.1 hE.2.1 dX8_feed_42 rfl (lv_at hl 0 rfl) ?_
  refine x_get (x := .ref (ad 1)) hE hK hP 0 (by decide) (xG_8 rfl) rfl hin8 0 (by decide) mw_480 rfl dX8_feed_43 ?_
  refine lv_iload hE.1 hE.2.1 dX8_feed_46 (lv_at hl 4 rfl) ?_
  refine x_vv (nn := 1) (As := [.int p4]) (rest := []) hE hK hN hP hS (k_X4_append_12 l D K ad mm v_3 ar_3 al_3 hq_3.2 p4) (x_recv hK hP 1 (by decide) (xG_4 rfl) rfl) rfl mw_515 mw_516 mw_517 mw_115 mw_518 (by decide +kernel) ⟨by decide, by decide⟩ hl.1 rfl (Nat.le_of_ble_eq_true rfl) ⟨Nat.zero_le _, Nat.zero_le _⟩ dX8_feed_48 (fun v_4 ar_4 al_4 H locs hq_4 hP hS => ?_)
  refine lv_aload_n hE.1 hE.2.1 dX8_feed_51 rfl (lv_at hl 0 rfl) ?_
  refine x_get (x := .ref (ad 1)) hE hK hP 0 (by decide) (xG_8 rfl) rfl hin8 0 (by decide) mw_480 rfl dX8_feed_52 ?_
  refine lv_iload hE.1 hE.2.1 dX8_feed_55 (lv_at hl 5 rfl) ?_
  refine x_vv (nn := 1) (As := [.int p5]) (rest := []) hE hK hN hP hS (k_X4_append_16 l D K ad mm v_4 ar_4 al_4 hq_4.2 p5) (x_recv hK hP 1 (by decide) (xG_4 rfl) rfl) rfl mw_515 mw_516 mw_517 mw_115 mw_518 (by decide +kernel) ⟨by decide, by decide⟩ hl.1 rfl (Nat.le_of_ble_eq_true rfl) ⟨Nat.zero_le _, Nat.zero_le _⟩ dX8_feed_57 (fun v_5 ar_5 al_5 H locs hq_5 hP hS => ?_)
  refine lv_aload_n hE.1 hE.2.1 dX8_feed_60 rfl (lv_at hl 0 rfl) ?_
  refine x_get (x := .ref (ad 1)) hE hK hP 0 (by decide) (xG_8 rfl) rfl hin8 0 (by decide) mw_480 rfl dX8_feed_61 ?_
  refine x_get (x := .int (v_5 1 0)) hE hK hP 1 (by decide) (xG_4 rfl) rfl hin4 0 (by decide) mw_147 rfl dX8_feed_64 ?_
  refine x_top (y := 20) hq_5.2 ?_
  exact x_wi (post := fun r _ => r = 20) hE hr hlo hP hS rfl (show (20 : Int32) = 20 from rfl) dX8_feed_67

theorem dX8_end_0 : decode cX8_end 0 = .ok (.iload_n 1, 1) := by decide +kernel
theorem dX8_end_1 : decode cX8_end 1 = .ok (.ifCond .lt 14, 3) := by decide +kernel
theorem dX8_end_4 : decode cX8_end 4 = .ok (.iload_n 1, 1) := by decide +kernel
theorem dX8_end_5 : decode cX8_end 5 = .ok (.aload_n 0, 1) := by decide +kernel
theorem dX8_end_6 : decode cX8_end 6 = .ok (.getfield 12, 3) := by decide +kernel
theorem dX8_end_9 : decode cX8_end 9 = .ok (.getfield 75, 3) := by decide +kernel
theorem dX8_end_12 : decode cX8_end 12 = .ok (.if_icmp .le 5, 3) := by decide +kernel
theorem dX8_end_15 : decode cX8_end 15 = .ok (.iconst (-1), 1) := by decide +kernel
theorem dX8_end_16 : decode cX8_end 16 = .ok (.ireturn, 1) := by decide +kernel
theorem dX8_end_17 : decode cX8_end 17 = .ok (.aload_n 0, 1) := by decide +kernel
theorem dX8_end_18 : decode cX8_end 18 = .ok (.getfield 12, 3) := by decide +kernel
theorem dX8_end_21 : decode cX8_end 21 = .ok (.iload_n 1, 1) := by decide +kernel
theorem dX8_end_22 : decode cX8_end 22 = .ok (.putfield 75, 3) := by decide +kernel
theorem dX8_end_25 : decode cX8_end 25 = .ok (.iload_n 1, 1) := by decide +kernel
theorem dX8_end_26 : decode cX8_end 26 = .ok (.ireturn, 1) := by decide +kernel
set_option maxHeartbeats 4000000 in
set_option maxRecDepth 100000 in
theorem k_X8_end (l : Launch) (D : va_G) (K : Nat → ClassId) (ad : Nat → Nat) (mm : Option Nat) (p1 : Int32) : Met l yX8_end (wM yX8_end cX8_end 2 (some .int)) (rmD 0) (va_Pc [.ref (ad 0), .int p1] (wPre D K ad (xG ad K mm) 132 xv0 xa0 xl0)) (va_Qi (fun (r : Int32) (_ : sT) => r = fEnd p1) (wB D ad (xG ad K mm) 132) (inW ad 132)) 0 0 (inW ad 132) := by
  refine x_met (by decide) (Nat.le_of_ble_eq_true rfl) ?_
  intro p e s m below meth c ls hE hr hlo hnm hB hl
  have hE : CallFix p m c cX8_end 2 s _ tbG "TaleCourt" := hE
  obtain ⟨hP, hK, hN⟩ := hB
  have hS : va_S (inW ad 132) s.heap s.heap [] := va_S.rf
  have hl : lv_has ls 2 [(0, .ref (ad 0)), (1, .int p1)] := hl
  refine lv_iload_n hE.1 hE.2.1 dX8_end_0 rfl (lv_at hl 1 rfl) ?_
  refine lv_if_lt (tgt := 15) hE.1 hE.2.1 dX8_end_1 (by decide) (fun c_1 => ?_) (fun c_1 => ?_)
  · skip
    refine lv_iconst (v := (-1)) hE.1 hE.2.1 dX8_end_15 (by decide) ?_
    exact x_wi (post := fun r _ => r = fEnd p1) hE hr hlo hP hS rfl (show ((-1) : Int32) = fEnd p1 from fEnd_neg c_1) dX8_end_16
  · skip
    refine lv_iload_n hE.1 hE.2.1 dX8_end_4 rfl (lv_at hl 1 rfl) ?_
    refine lv_aload_n hE.1 hE.2.1 dX8_end_5 rfl (lv_at hl 0 rfl) ?_
    refine x_get (x := .ref (ad 1)) hE hK hP 0 (by decide) (xG_8 rfl) rfl hin8 0 (by decide) mw_480 rfl dX8_end_6 ?_
    refine x_get (x := .int 0) hE hK hP 1 (by decide) (xG_4 rfl) rfl hin4 0 (by decide) mw_147 rfl dX8_end_9 ?_
    refine lv_icmp_le (tgt := 17) hE.1 hE.2.1 dX8_end_12 (by decide) (fun c_2 => ?_) (fun c_2 => ?_)
    · skip
      refine lv_aload_n hE.1 hE.2.1 dX8_end_17 rfl (lv_at hl 0 rfl) ?_
      refine x_get (x := .ref (ad 1)) hE hK hP 0 (by decide) (xG_8 rfl) rfl hin8 0 (by decide) mw_480 rfl dX8_end_18 ?_
      refine lv_iload_n hE.1 hE.2.1 dX8_end_21 rfl (lv_at hl 1 rfl) ?_
      refine x_put hE hK hN hP hS 1 (by decide) (xG_4 rfl) rfl hin4 tyX4 tyX4_ok nmX4 0 (by decide) mw_147 rfl rfl rfl (Nat.le_of_ble_eq_true rfl) (xG_4 rfl) dX8_end_22 (fun v_3 H locs hv_3 hP hS => ?_)
      refine lv_iload_n hE.1 hE.2.1 dX8_end_25 rfl (lv_at hl 1 rfl) ?_
      exact x_wi (post := fun r _ => r = fEnd p1) hE hr hlo hP hS rfl (show (p1 : Int32) = fEnd p1 from (by rw [fEnd_zero c_1 c_2]; rfl)) dX8_end_26
    · skip
      refine lv_iconst (v := (-1)) hE.1 hE.2.1 dX8_end_15 (by decide) ?_
      exact x_wi (post := fun r _ => r = fEnd p1) hE hr hlo hP hS rfl (show ((-1) : Int32) = fEnd p1 from fEnd_pos c_2) dX8_end_16

theorem dX8_fault_0 : decode cX8_fault 0 = .ok (.iload_n 1, 1) := by decide +kernel
theorem dX8_fault_1 : decode cX8_fault 1 = .ok (.ifCond .ne 11, 3) := by decide +kernel
theorem dX8_fault_4 : decode cX8_fault 4 = .ok (.aload_n 0, 1) := by decide +kernel
theorem dX8_fault_5 : decode cX8_fault 5 = .ok (.getfield 12, 3) := by decide +kernel
theorem dX8_fault_8 : decode cX8_fault 8 = .ok (.getfield 96, 3) := by decide +kernel
theorem dX8_fault_11 : decode cX8_fault 11 = .ok (.ireturn, 1) := by decide +kernel
theorem dX8_fault_12 : decode cX8_fault 12 = .ok (.iload_n 1, 1) := by decide +kernel
theorem dX8_fault_13 : decode cX8_fault 13 = .ok (.iconst 1, 1) := by decide +kernel
theorem dX8_fault_14 : decode cX8_fault 14 = .ok (.if_icmp .ne 13, 3) := by decide +kernel
theorem dX8_fault_17 : decode cX8_fault 17 = .ok (.aload_n 0, 1) := by decide +kernel
theorem dX8_fault_18 : decode cX8_fault 18 = .ok (.getfield 12, 3) := by decide +kernel
theorem dX8_fault_21 : decode cX8_fault 21 = .ok (.getfield 99, 3) := by decide +kernel
theorem dX8_fault_24 : decode cX8_fault 24 = .ok (.goto 4, 3) := by decide +kernel
theorem dX8_fault_27 : decode cX8_fault 27 = .ok (.iconst (-1), 1) := by decide +kernel
theorem dX8_fault_28 : decode cX8_fault 28 = .ok (.ireturn, 1) := by decide +kernel
set_option maxHeartbeats 4000000 in
set_option maxRecDepth 100000 in
theorem k_X8_fault (l : Launch) (D : va_G) (K : Nat → ClassId) (ad : Nat → Nat) (mm : Option Nat) (p1 : Int32) : Met l yX8_fault (wM yX8_fault cX8_fault 2 (some .int)) (rmD 0) (va_Pc [.ref (ad 0), .int p1] (wPre D K ad (xG ad K mm) 132 xv0 xa0 xl0)) (vp_Si (fun r => r = fFault p1)) 0 0 (fun _ => False) := by
  refine x_met (by decide) (Nat.le_of_ble_eq_true rfl) ?_
  intro p e s m below meth c ls hE hr hlo hnm hB hl
  have hE : CallFix p m c cX8_fault 2 s _ tbG "TaleCourt" := hE
  obtain ⟨hP, hK, hN⟩ := hB
  have hS : va_S (inW ad 132) s.heap s.heap [] := va_S.rf
  have hl : lv_has ls 2 [(0, .ref (ad 0)), (1, .int p1)] := hl
  refine lv_iload_n hE.1 hE.2.1 dX8_fault_0 rfl (lv_at hl 1 rfl) ?_
  refine lv_if_ne (tgt := 12) hE.1 hE.2.1 dX8_fault_1 (by decide) (fun c_1 => ?_) (fun c_1 => ?_)
  · skip
    refine lv_iload_n hE.1 hE.2.1 dX8_fault_12 rfl (lv_at hl 1 rfl) ?_
    refine lv_iconst (v := 1) hE.1 hE.2.1 dX8_fault_13 (by decide) ?_
    refine lv_icmp_ne (tgt := 27) hE.1 hE.2.1 dX8_fault_14 (by decide) (fun c_2 => ?_) (fun c_2 => ?_)
    · skip
      refine lv_iconst (v := (-1)) hE.1 hE.2.1 dX8_fault_27 (by decide) ?_
      exact x_ri (post := fun r => r = fFault p1) hE hr hlo rfl (show ((-1) : Int32) = fFault p1 from (if_neg c_1).symm) dX8_fault_28
    · skip
      refine lv_aload_n hE.1 hE.2.1 dX8_fault_17 rfl (lv_at hl 0 rfl) ?_
      refine x_get (x := .ref (ad 1)) hE hK hP 0 (by decide) (xG_8 rfl) rfl hin8 0 (by decide) mw_480 rfl dX8_fault_18 ?_
      refine x_get (x := .int (-1)) hE hK hP 1 (by decide) (xG_4 rfl) rfl hin4 2 (by decide) mw_151 rfl dX8_fault_21 ?_
      refine lv_goto (tgt := 28) hE.1 hE.2.1 dX8_fault_24 (by decide) ?_
      exact x_ri (post := fun r => r = fFault p1) hE hr hlo rfl (show ((-1) : Int32) = fFault p1 from (if_neg c_1).symm) dX8_fault_28
  · skip
    refine lv_aload_n hE.1 hE.2.1 dX8_fault_4 rfl (lv_at hl 0 rfl) ?_
    refine x_get (x := .ref (ad 1)) hE hK hP 0 (by decide) (xG_8 rfl) rfl hin8 0 (by decide) mw_480 rfl dX8_fault_5 ?_
    refine x_get (x := .int 0) hE hK hP 1 (by decide) (xG_4 rfl) rfl hin4 1 (by decide) mw_149 rfl dX8_fault_8 ?_
    exact x_ri (post := fun r => r = fFault p1) hE hr hlo rfl (show (0 : Int32) = fFault p1 from (if_pos c_1).symm) dX8_fault_11

theorem dX8_slotsInUse_0 : decode cX8_slotsInUse 0 = .ok (.iconst 0, 1) := by decide +kernel
theorem dX8_slotsInUse_1 : decode cX8_slotsInUse 1 = .ok (.istore_n 1, 1) := by decide +kernel
theorem dX8_slotsInUse_2 : decode cX8_slotsInUse 2 = .ok (.iconst 0, 1) := by decide +kernel
theorem dX8_slotsInUse_3 : decode cX8_slotsInUse 3 = .ok (.istore_n 2, 1) := by decide +kernel
theorem dX8_slotsInUse_4 : decode cX8_slotsInUse 4 = .ok (.iload_n 2, 1) := by decide +kernel
theorem dX8_slotsInUse_5 : decode cX8_slotsInUse 5 = .ok (.iconst 4, 1) := by decide +kernel
theorem dX8_slotsInUse_6 : decode cX8_slotsInUse 6 = .ok (.if_icmp .ge 24, 3) := by decide +kernel
theorem dX8_slotsInUse_9 : decode cX8_slotsInUse 9 = .ok (.aload_n 0, 1) := by decide +kernel
theorem dX8_slotsInUse_10 : decode cX8_slotsInUse 10 = .ok (.getfield 63, 3) := by decide +kernel
theorem dX8_slotsInUse_13 : decode cX8_slotsInUse 13 = .ok (.iload_n 2, 1) := by decide +kernel
theorem dX8_slotsInUse_14 : decode cX8_slotsInUse 14 = .ok (.aaload, 1) := by decide +kernel
theorem dX8_slotsInUse_15 : decode cX8_slotsInUse 15 = .ok (.getfield 263, 3) := by decide +kernel
theorem dX8_slotsInUse_18 : decode cX8_slotsInUse 18 = .ok (.ifCond .lt 6, 3) := by decide +kernel
theorem dX8_slotsInUse_24 : decode cX8_slotsInUse 24 = .ok (.iinc 2 1, 3) := by decide +kernel
theorem dX8_slotsInUse_27 : decode cX8_slotsInUse 27 = .ok (.goto (-23), 3) := by decide +kernel
theorem dX8_slotsInUse_30 : decode cX8_slotsInUse 30 = .ok (.iload_n 1, 1) := by decide +kernel
theorem dX8_slotsInUse_31 : decode cX8_slotsInUse 31 = .ok (.ireturn, 1) := by decide +kernel
set_option maxHeartbeats 4000000 in
set_option maxRecDepth 100000 in
theorem k_X8_slotsInUse (l : Launch) (D : va_G) (K : Nat → ClassId) (ad : Nat → Nat) (mm : Option Nat) : Met l yX8_slotsInUse (wM yX8_slotsInUse cX8_slotsInUse 3 (some .int)) (rmD 0) (va_Pc [.ref (ad 0)] (wPre D K ad (xG ad K mm) 132 xv0 xa0 xl0)) (vp_Si (fun r => r = 0)) 0 0 (fun _ => False) := by
  refine x_met (by decide) (Nat.le_of_ble_eq_true rfl) ?_
  intro p e s m below meth c ls hE hr hlo hnm hB hl
  have hE : CallFix p m c cX8_slotsInUse 3 s _ tbG "TaleCourt" := hE
  obtain ⟨hP, hK, hN⟩ := hB
  have hS : va_S (inW ad 132) s.heap s.heap [] := va_S.rf
  have hl : lv_has ls 3 [(0, .ref (ad 0))] := hl
  refine lv_iconst (v := 0) hE.1 hE.2.1 dX8_slotsInUse_0 (by decide) ?_
  refine lv_istore_n (lv' := [(1, .int 0), (0, .ref (ad 0))]) hE.1 hE.2.1 dX8_slotsInUse_1 rfl hl (by decide) rfl (fun ls hl => ?_)
  refine lv_iconst (v := 0) hE.1 hE.2.1 dX8_slotsInUse_2 (by decide) ?_
  refine lv_istore_n (lv' := [(2, .int 0), (1, .int 0), (0, .ref (ad 0))]) hE.1 hE.2.1 dX8_slotsInUse_3 rfl hl (by decide) rfl (fun ls hl => ?_)
  refine lv_iload_n hE.1 hE.2.1 dX8_slotsInUse_4 rfl (lv_at hl 0 rfl) ?_
  refine lv_iconst (v := 4) hE.1 hE.2.1 dX8_slotsInUse_5 (by decide) ?_
  refine lv_icmp_ge (tgt := 30) hE.1 hE.2.1 dX8_slotsInUse_6 (by decide) (fun h => absurd h (by decide)) (fun _ => ?_)
  refine lv_aload_n hE.1 hE.2.1 dX8_slotsInUse_9 rfl (lv_at hl 2 rfl) ?_
  refine x_get (x := .ref (ad 65)) hE hK hP 0 (by decide) (xG_8 rfl) rfl hin8 8 (by decide) mw_488 rfl dX8_slotsInUse_10 ?_
  refine lv_iload_n hE.1 hE.2.1 dX8_slotsInUse_13 rfl (lv_at hl 0 rfl) ?_
  refine x_aald (r := .ref (ad 67)) hE hK hP 65 4 (by decide) (xG_13 rfl) rfl (by unfold vp_in; decide) rfl dX8_slotsInUse_14 ?_
  refine x_get (x := .int (-1)) hE hK hP 67 (by decide) (xG_5 rfl) rfl hin5 2 (by decide) mw_451 rfl dX8_slotsInUse_15 ?_
  refine lv_if_lt (tgt := 24) hE.1 hE.2.1 dX8_slotsInUse_18 (by decide) (fun _ => ?_) (fun h => absurd (by decide) h)
  refine lv_iinc (v := 1) (lv' := [(2, .int 1), (1, .int 0), (0, .ref (ad 0))]) hE.1 hE.2.1 dX8_slotsInUse_24 hl (k := 0) rfl (by decide) (by decide) rfl (fun ls hl => ?_)
  refine lv_goto (tgt := 4) hE.1 hE.2.1 dX8_slotsInUse_27 (by decide) ?_
  refine lv_iload_n hE.1 hE.2.1 dX8_slotsInUse_4 rfl (lv_at hl 0 rfl) ?_
  refine lv_iconst (v := 4) hE.1 hE.2.1 dX8_slotsInUse_5 (by decide) ?_
  refine lv_icmp_ge (tgt := 30) hE.1 hE.2.1 dX8_slotsInUse_6 (by decide) (fun h => absurd h (by decide)) (fun _ => ?_)
  refine lv_aload_n hE.1 hE.2.1 dX8_slotsInUse_9 rfl (lv_at hl 2 rfl) ?_
  refine x_get (x := .ref (ad 65)) hE hK hP 0 (by decide) (xG_8 rfl) rfl hin8 8 (by decide) mw_488 rfl dX8_slotsInUse_10 ?_
  refine lv_iload_n hE.1 hE.2.1 dX8_slotsInUse_13 rfl (lv_at hl 0 rfl) ?_
  refine x_aald (r := .ref (ad 69)) hE hK hP 65 4 (by decide) (xG_13 rfl) rfl (by unfold vp_in; decide) rfl dX8_slotsInUse_14 ?_
  refine x_get (x := .int (-1)) hE hK hP 69 (by decide) (xG_5 rfl) rfl hin5 2 (by decide) mw_451 rfl dX8_slotsInUse_15 ?_
  refine lv_if_lt (tgt := 24) hE.1 hE.2.1 dX8_slotsInUse_18 (by decide) (fun _ => ?_) (fun h => absurd (by decide) h)
  refine lv_iinc (v := 2) (lv' := [(2, .int 2), (1, .int 0), (0, .ref (ad 0))]) hE.1 hE.2.1 dX8_slotsInUse_24 hl (k := 0) rfl (by decide) (by decide) rfl (fun ls hl => ?_)
  refine lv_goto (tgt := 4) hE.1 hE.2.1 dX8_slotsInUse_27 (by decide) ?_
  refine lv_iload_n hE.1 hE.2.1 dX8_slotsInUse_4 rfl (lv_at hl 0 rfl) ?_
  refine lv_iconst (v := 4) hE.1 hE.2.1 dX8_slotsInUse_5 (by decide) ?_
  refine lv_icmp_ge (tgt := 30) hE.1 hE.2.1 dX8_slotsInUse_6 (by decide) (fun h => absurd h (by decide)) (fun _ => ?_)
  refine lv_aload_n hE.1 hE.2.1 dX8_slotsInUse_9 rfl (lv_at hl 2 rfl) ?_
  refine x_get (x := .ref (ad 65)) hE hK hP 0 (by decide) (xG_8 rfl) rfl hin8 8 (by decide) mw_488 rfl dX8_slotsInUse_10 ?_
  refine lv_iload_n hE.1 hE.2.1 dX8_slotsInUse_13 rfl (lv_at hl 0 rfl) ?_
  refine x_aald (r := .ref (ad 71)) hE hK hP 65 4 (by decide) (xG_13 rfl) rfl (by unfold vp_in; decide) rfl dX8_slotsInUse_14 ?_
  refine x_get (x := .int (-1)) hE hK hP 71 (by decide) (xG_5 rfl) rfl hin5 2 (by decide) mw_451 rfl dX8_slotsInUse_15 ?_
  refine lv_if_lt (tgt := 24) hE.1 hE.2.1 dX8_slotsInUse_18 (by decide) (fun _ => ?_) (fun h => absurd (by decide) h)
  refine lv_iinc (v := 3) (lv' := [(2, .int 3), (1, .int 0), (0, .ref (ad 0))]) hE.1 hE.2.1 dX8_slotsInUse_24 hl (k := 0) rfl (by decide) (by decide) rfl (fun ls hl => ?_)
  refine lv_goto (tgt := 4) hE.1 hE.2.1 dX8_slotsInUse_27 (by decide) ?_
  refine lv_iload_n hE.1 hE.2.1 dX8_slotsInUse_4 rfl (lv_at hl 0 rfl) ?_
  refine lv_iconst (v := 4) hE.1 hE.2.1 dX8_slotsInUse_5 (by decide) ?_
  refine lv_icmp_ge (tgt := 30) hE.1 hE.2.1 dX8_slotsInUse_6 (by decide) (fun h => absurd h (by decide)) (fun _ => ?_)
  refine lv_aload_n hE.1 hE.2.1 dX8_slotsInUse_9 rfl (lv_at hl 2 rfl) ?_
  refine x_get (x := .ref (ad 65)) hE hK hP 0 (by decide) (xG_8 rfl) rfl hin8 8 (by decide) mw_488 rfl dX8_slotsInUse_10 ?_
  refine lv_iload_n hE.1 hE.2.1 dX8_slotsInUse_13 rfl (lv_at hl 0 rfl) ?_
  refine x_aald (r := .ref (ad 73)) hE hK hP 65 4 (by decide) (xG_13 rfl) rfl (by unfold vp_in; decide) rfl dX8_slotsInUse_14 ?_
  refine x_get (x := .int (-1)) hE hK hP 73 (by decide) (xG_5 rfl) rfl hin5 2 (by decide) mw_451 rfl dX8_slotsInUse_15 ?_
  refine lv_if_lt (tgt := 24) hE.1 hE.2.1 dX8_slotsInUse_18 (by decide) (fun _ => ?_) (fun h => absurd (by decide) h)
  refine lv_iinc (v := 4) (lv' := [(2, .int 4), (1, .int 0), (0, .ref (ad 0))]) hE.1 hE.2.1 dX8_slotsInUse_24 hl (k := 0) rfl (by decide) (by decide) rfl (fun ls hl => ?_)
  refine lv_goto (tgt := 4) hE.1 hE.2.1 dX8_slotsInUse_27 (by decide) ?_
  refine lv_iload_n hE.1 hE.2.1 dX8_slotsInUse_4 rfl (lv_at hl 0 rfl) ?_
  refine lv_iconst (v := 4) hE.1 hE.2.1 dX8_slotsInUse_5 (by decide) ?_
  refine lv_icmp_ge (tgt := 30) hE.1 hE.2.1 dX8_slotsInUse_6 (by decide) (fun _ => ?_) (fun h => absurd (by decide) h)
  refine lv_iload_n hE.1 hE.2.1 dX8_slotsInUse_30 rfl (lv_at hl 1 rfl) ?_
  exact x_ri (post := fun r => r = 0) hE hr hlo rfl (show (0 : Int32) = 0 from rfl) dX8_slotsInUse_31

theorem dX8_count_0 : decode cX8_count 0 = .ok (.iload_n 1, 1) := by decide +kernel
theorem dX8_count_1 : decode cX8_count 1 = .ok (.tableswitch 132 0 9 #[55, 63, 71, 79, 87, 95, 103, 111, 119, 127], 55) := by decide +kernel
theorem dX8_count_56 : decode cX8_count 56 = .ok (.aload_n 0, 1) := by decide +kernel
theorem dX8_count_57 : decode cX8_count 57 = .ok (.getfield 19, 3) := by decide +kernel
theorem dX8_count_60 : decode cX8_count 60 = .ok (.getfield 217, 3) := by decide +kernel
theorem dX8_count_63 : decode cX8_count 63 = .ok (.ireturn, 1) := by decide +kernel
theorem dX8_count_64 : decode cX8_count 64 = .ok (.aload_n 0, 1) := by decide +kernel
theorem dX8_count_65 : decode cX8_count 65 = .ok (.getfield 19, 3) := by decide +kernel
theorem dX8_count_68 : decode cX8_count 68 = .ok (.getfield 223, 3) := by decide +kernel
theorem dX8_count_71 : decode cX8_count 71 = .ok (.ireturn, 1) := by decide +kernel
theorem dX8_count_72 : decode cX8_count 72 = .ok (.aload_n 0, 1) := by decide +kernel
theorem dX8_count_73 : decode cX8_count 73 = .ok (.getfield 19, 3) := by decide +kernel
theorem dX8_count_76 : decode cX8_count 76 = .ok (.getfield 347, 3) := by decide +kernel
theorem dX8_count_79 : decode cX8_count 79 = .ok (.ireturn, 1) := by decide +kernel
theorem dX8_count_80 : decode cX8_count 80 = .ok (.aload_n 0, 1) := by decide +kernel
theorem dX8_count_81 : decode cX8_count 81 = .ok (.getfield 19, 3) := by decide +kernel
theorem dX8_count_84 : decode cX8_count 84 = .ok (.getfield 350, 3) := by decide +kernel
theorem dX8_count_87 : decode cX8_count 87 = .ok (.ireturn, 1) := by decide +kernel
theorem dX8_count_88 : decode cX8_count 88 = .ok (.aload_n 0, 1) := by decide +kernel
theorem dX8_count_89 : decode cX8_count 89 = .ok (.getfield 19, 3) := by decide +kernel
theorem dX8_count_92 : decode cX8_count 92 = .ok (.getfield 353, 3) := by decide +kernel
theorem dX8_count_95 : decode cX8_count 95 = .ok (.ireturn, 1) := by decide +kernel
theorem dX8_count_96 : decode cX8_count 96 = .ok (.aload_n 0, 1) := by decide +kernel
theorem dX8_count_97 : decode cX8_count 97 = .ok (.getfield 19, 3) := by decide +kernel
theorem dX8_count_100 : decode cX8_count 100 = .ok (.getfield 305, 3) := by decide +kernel
theorem dX8_count_103 : decode cX8_count 103 = .ok (.ireturn, 1) := by decide +kernel
theorem dX8_count_104 : decode cX8_count 104 = .ok (.aload_n 0, 1) := by decide +kernel
theorem dX8_count_105 : decode cX8_count 105 = .ok (.getfield 19, 3) := by decide +kernel
theorem dX8_count_108 : decode cX8_count 108 = .ok (.getfield 93, 3) := by decide +kernel
theorem dX8_count_111 : decode cX8_count 111 = .ok (.ireturn, 1) := by decide +kernel
theorem dX8_count_112 : decode cX8_count 112 = .ok (.aload_n 0, 1) := by decide +kernel
theorem dX8_count_113 : decode cX8_count 113 = .ok (.getfield 12, 3) := by decide +kernel
theorem dX8_count_116 : decode cX8_count 116 = .ok (.getfield 75, 3) := by decide +kernel
theorem dX8_count_119 : decode cX8_count 119 = .ok (.ireturn, 1) := by decide +kernel
theorem dX8_count_120 : decode cX8_count 120 = .ok (.aload_n 0, 1) := by decide +kernel
theorem dX8_count_121 : decode cX8_count 121 = .ok (.getfield 31, 3) := by decide +kernel
theorem dX8_count_124 : decode cX8_count 124 = .ok (.getfield 167, 3) := by decide +kernel
theorem dX8_count_127 : decode cX8_count 127 = .ok (.ireturn, 1) := by decide +kernel
theorem dX8_count_128 : decode cX8_count 128 = .ok (.aload_n 0, 1) := by decide +kernel
theorem dX8_count_129 : decode cX8_count 129 = .ok (.invokevirtual 356, 3) := by decide +kernel
theorem dX8_count_132 : decode cX8_count 132 = .ok (.ireturn, 1) := by decide +kernel
theorem dX8_count_133 : decode cX8_count 133 = .ok (.iconst (-1), 1) := by decide +kernel
theorem dX8_count_134 : decode cX8_count 134 = .ok (.ireturn, 1) := by decide +kernel
set_option maxHeartbeats 4000000 in
set_option maxRecDepth 100000 in
theorem k_X8_count (l : Launch) (D : va_G) (K : Nat → ClassId) (ad : Nat → Nat) (mm : Option Nat) (p1 : Int32) : Met l yX8_count (wM yX8_count cX8_count 2 (some .int)) (rmD 1) (va_Pc [.ref (ad 0), .int p1] (wPre D K ad (xG ad K mm) 132 xv0 xa0 xl0)) (vp_Si (fun r => r = fCount p1)) 0 0 (fun _ => False) := by
  refine x_met (by decide) (Nat.le_of_ble_eq_true rfl) ?_
  intro p e s m below meth c ls hE hr hlo hnm hB hl
  have hE : CallFix p m c cX8_count 2 s _ tbG "TaleCourt" := hE
  obtain ⟨hP, hK, hN⟩ := hB
  have hS : va_S (inW ad 132) s.heap s.heap [] := va_S.rf
  have hl : lv_has ls 2 [(0, .ref (ad 0)), (1, .int p1)] := hl
  refine lv_iload_n hE.1 hE.2.1 dX8_count_0 rfl (lv_at hl 1 rfl) ?_
  by_cases ho : p1.toInt < 0 ∨ 9 < p1.toInt
  · skip
    refine lv_tableOut (tgt := 133) hE.1 hE.2.1 dX8_count_1 ho (by decide) ?_
    refine lv_iconst (v := (-1)) hE.1 hE.2.1 dX8_count_133 (by decide) ?_
    exact x_ri (post := fun r => r = fCount p1) hE hr hlo rfl (show ((-1) : Int32) = fCount p1 from (fCount_out ho).symm) dX8_count_134
  · skip
    rcases t10 (fun q => ho (Or.inl q)) (fun q => ho (Or.inr q)) with rfl | rfl | rfl | rfl | rfl | rfl | rfl | rfl | rfl | rfl
    · skip
      refine lv_tableIn (off := 55) (tgt := 56) hE.1 hE.2.1 dX8_count_1 (by decide) (by decide) (by decide) (by decide) ?_
      refine lv_aload_n hE.1 hE.2.1 dX8_count_56 rfl (lv_at hl 0 rfl) ?_
      refine x_get (x := .ref (ad 3)) hE hK hP 0 (by decide) (xG_8 rfl) rfl hin8 1 (by decide) mw_481 rfl dX8_count_57 ?_
      refine x_get (x := .int 0) hE hK hP 3 (by decide) (xG_1 rfl) rfl hin1 2 (by decide) mw_189 rfl dX8_count_60 ?_
      exact x_ri (post := fun r => r = fCount 0) hE hr hlo rfl (show (0 : Int32) = fCount 0 from by decide) dX8_count_63
    · skip
      refine lv_tableIn (off := 63) (tgt := 64) hE.1 hE.2.1 dX8_count_1 (by decide) (by decide) (by decide) (by decide) ?_
      refine lv_aload_n hE.1 hE.2.1 dX8_count_64 rfl (lv_at hl 0 rfl) ?_
      refine x_get (x := .ref (ad 3)) hE hK hP 0 (by decide) (xG_8 rfl) rfl hin8 1 (by decide) mw_481 rfl dX8_count_65 ?_
      refine x_get (x := .int 0) hE hK hP 3 (by decide) (xG_1 rfl) rfl hin1 0 (by decide) mw_181 rfl dX8_count_68 ?_
      exact x_ri (post := fun r => r = fCount 1) hE hr hlo rfl (show (0 : Int32) = fCount 1 from by decide) dX8_count_71
    · skip
      refine lv_tableIn (off := 71) (tgt := 72) hE.1 hE.2.1 dX8_count_1 (by decide) (by decide) (by decide) (by decide) ?_
      refine lv_aload_n hE.1 hE.2.1 dX8_count_72 rfl (lv_at hl 0 rfl) ?_
      refine x_get (x := .ref (ad 3)) hE hK hP 0 (by decide) (xG_8 rfl) rfl hin8 1 (by decide) mw_481 rfl dX8_count_73 ?_
      refine x_get (x := .int 0) hE hK hP 3 (by decide) (xG_1 rfl) rfl hin1 1 (by decide) mw_186 rfl dX8_count_76 ?_
      exact x_ri (post := fun r => r = fCount 2) hE hr hlo rfl (show (0 : Int32) = fCount 2 from by decide) dX8_count_79
    · skip
      refine lv_tableIn (off := 79) (tgt := 80) hE.1 hE.2.1 dX8_count_1 (by decide) (by decide) (by decide) (by decide) ?_
      refine lv_aload_n hE.1 hE.2.1 dX8_count_80 rfl (lv_at hl 0 rfl) ?_
      refine x_get (x := .ref (ad 3)) hE hK hP 0 (by decide) (xG_8 rfl) rfl hin8 1 (by decide) mw_481 rfl dX8_count_81 ?_
      refine x_get (x := .int 0) hE hK hP 3 (by decide) (xG_1 rfl) rfl hin1 5 (by decide) mw_199 rfl dX8_count_84 ?_
      exact x_ri (post := fun r => r = fCount 3) hE hr hlo rfl (show (0 : Int32) = fCount 3 from by decide) dX8_count_87
    · skip
      refine lv_tableIn (off := 87) (tgt := 88) hE.1 hE.2.1 dX8_count_1 (by decide) (by decide) (by decide) (by decide) ?_
      refine lv_aload_n hE.1 hE.2.1 dX8_count_88 rfl (lv_at hl 0 rfl) ?_
      refine x_get (x := .ref (ad 3)) hE hK hP 0 (by decide) (xG_8 rfl) rfl hin8 1 (by decide) mw_481 rfl dX8_count_89 ?_
      refine x_get (x := .int 0) hE hK hP 3 (by decide) (xG_1 rfl) rfl hin1 6 (by decide) mw_202 rfl dX8_count_92 ?_
      exact x_ri (post := fun r => r = fCount 4) hE hr hlo rfl (show (0 : Int32) = fCount 4 from by decide) dX8_count_95
    · skip
      refine lv_tableIn (off := 95) (tgt := 96) hE.1 hE.2.1 dX8_count_1 (by decide) (by decide) (by decide) (by decide) ?_
      refine lv_aload_n hE.1 hE.2.1 dX8_count_96 rfl (lv_at hl 0 rfl) ?_
      refine x_get (x := .ref (ad 3)) hE hK hP 0 (by decide) (xG_8 rfl) rfl hin8 1 (by decide) mw_481 rfl dX8_count_97 ?_
      refine x_get (x := .int 0) hE hK hP 3 (by decide) (xG_1 rfl) rfl hin1 3 (by decide) mw_193 rfl dX8_count_100 ?_
      exact x_ri (post := fun r => r = fCount 5) hE hr hlo rfl (show (0 : Int32) = fCount 5 from by decide) dX8_count_103
    · skip
      refine lv_tableIn (off := 103) (tgt := 104) hE.1 hE.2.1 dX8_count_1 (by decide) (by decide) (by decide) (by decide) ?_
      refine lv_aload_n hE.1 hE.2.1 dX8_count_104 rfl (lv_at hl 0 rfl) ?_
      refine x_get (x := .ref (ad 3)) hE hK hP 0 (by decide) (xG_8 rfl) rfl hin8 1 (by decide) mw_481 rfl dX8_count_105 ?_
      refine x_get (x := .int 0) hE hK hP 3 (by decide) (xG_1 rfl) rfl hin1 4 (by decide) mw_196 rfl dX8_count_108 ?_
      exact x_ri (post := fun r => r = fCount 6) hE hr hlo rfl (show (0 : Int32) = fCount 6 from by decide) dX8_count_111
    · skip
      refine lv_tableIn (off := 111) (tgt := 112) hE.1 hE.2.1 dX8_count_1 (by decide) (by decide) (by decide) (by decide) ?_
      refine lv_aload_n hE.1 hE.2.1 dX8_count_112 rfl (lv_at hl 0 rfl) ?_
      refine x_get (x := .ref (ad 1)) hE hK hP 0 (by decide) (xG_8 rfl) rfl hin8 0 (by decide) mw_480 rfl dX8_count_113 ?_
      refine x_get (x := .int 0) hE hK hP 1 (by decide) (xG_4 rfl) rfl hin4 0 (by decide) mw_147 rfl dX8_count_116 ?_
      exact x_ri (post := fun r => r = fCount 7) hE hr hlo rfl (show (0 : Int32) = fCount 7 from by decide) dX8_count_119
    · skip
      refine lv_tableIn (off := 119) (tgt := 120) hE.1 hE.2.1 dX8_count_1 (by decide) (by decide) (by decide) (by decide) ?_
      refine lv_aload_n hE.1 hE.2.1 dX8_count_120 rfl (lv_at hl 0 rfl) ?_
      refine x_get (x := .ref (ad 23)) hE hK hP 0 (by decide) (xG_8 rfl) rfl hin8 3 (by decide) mw_483 rfl dX8_count_121 ?_
      refine x_get (x := .int 0) hE hK hP 23 (by decide) (xG_7 rfl) rfl hin7 2 (by decide) mw_304 rfl dX8_count_124 ?_
      exact x_ri (post := fun r => r = fCount 8) hE hr hlo rfl (show (0 : Int32) = fCount 8 from by decide) dX8_count_127
    · skip
      refine lv_tableIn (off := 127) (tgt := 128) hE.1 hE.2.1 dX8_count_1 (by decide) (by decide) (by decide) (by decide) ?_
      refine lv_aload_n hE.1 hE.2.1 dX8_count_128 rfl (lv_at hl 0 rfl) ?_
      refine x_vp (nn := 0) (As := []) (rest := []) hE (k_X8_slotsInUse l D K ad mm ) wPre_blind (wPre_now hK hN hP) (x_recv hK hP 0 (by decide) (xG_8 rfl) rfl) rfl mw_1287 mw_1289 mw_46 mw_114 mw_1290 (by decide +kernel) ⟨by decide, by decide⟩ hl.1 rfl (Nat.le_of_ble_eq_true rfl) ⟨Nat.zero_le _, Nat.zero_le _⟩ dX8_count_129 (fun r_1 hr_1 => ?_)
      subst hr_1
      exact x_ri (post := fun r => r = fCount 9) hE hr hlo rfl (show (0 : Int32) = fCount 9 from by decide) dX8_count_132

theorem dX8_back_0 : decode cX8_back 0 = .ok (.iload_n 1, 1) := by decide +kernel
theorem dX8_back_1 : decode cX8_back 1 = .ok (.ifCond .lt 8, 3) := by decide +kernel
theorem dX8_back_4 : decode cX8_back 4 = .ok (.iload_n 1, 1) := by decide +kernel
theorem dX8_back_5 : decode cX8_back 5 = .ok (.iconst 3, 1) := by decide +kernel
theorem dX8_back_6 : decode cX8_back 6 = .ok (.if_icmp .lt 6, 3) := by decide +kernel
theorem dX8_back_9 : decode cX8_back 9 = .ok (.bipush (-2), 2) := by decide +kernel
theorem dX8_back_11 : decode cX8_back 11 = .ok (.ireturn, 1) := by decide +kernel
theorem dX8_back_12 : decode cX8_back 12 = .ok (.aload_n 0, 1) := by decide +kernel
theorem dX8_back_13 : decode cX8_back 13 = .ok (.getfield 69, 3) := by decide +kernel
theorem dX8_back_16 : decode cX8_back 16 = .ok (.iload_n 1, 1) := by decide +kernel
theorem dX8_back_17 : decode cX8_back 17 = .ok (.aaload, 1) := by decide +kernel
theorem dX8_back_18 : decode cX8_back 18 = .ok (.astore_n 2, 1) := by decide +kernel
theorem dX8_back_19 : decode cX8_back 19 = .ok (.aload_n 2, 1) := by decide +kernel
theorem dX8_back_20 : decode cX8_back 20 = .ok (.getfield 363, 3) := by decide +kernel
theorem dX8_back_23 : decode cX8_back 23 = .ok (.ifCond .ne 6, 3) := by decide +kernel
theorem dX8_back_26 : decode cX8_back 26 = .ok (.bipush (-6), 2) := by decide +kernel
theorem dX8_back_28 : decode cX8_back 28 = .ok (.ireturn, 1) := by decide +kernel
set_option maxHeartbeats 4000000 in
set_option maxRecDepth 100000 in
theorem k_X8_back (l : Launch) (D : va_G) (K : Nat → ClassId) (ad : Nat → Nat) (mm : Option Nat) (p1 : Int32) : Met l yX8_back (wM yX8_back cX8_back 3 (some .int)) (rmD 0) (va_Pc [.ref (ad 0), .int p1] (wPre D K ad (xG ad K mm) 132 xv0 xa0 xl0)) (vp_Si (fun r => r = fBack p1)) 0 0 (fun _ => False) := by
  refine x_met (by decide) (Nat.le_of_ble_eq_true rfl) ?_
  intro p e s m below meth c ls hE hr hlo hnm hB hl
  have hE : CallFix p m c cX8_back 3 s _ tbG "TaleCourt" := hE
  obtain ⟨hP, hK, hN⟩ := hB
  have hS : va_S (inW ad 132) s.heap s.heap [] := va_S.rf
  have hl : lv_has ls 3 [(0, .ref (ad 0)), (1, .int p1)] := hl
  refine lv_iload_n hE.1 hE.2.1 dX8_back_0 rfl (lv_at hl 1 rfl) ?_
  refine lv_if_lt (tgt := 9) hE.1 hE.2.1 dX8_back_1 (by decide) (fun c_1 => ?_) (fun c_1 => ?_)
  · skip
    refine lv_bipush (v := (-2)) hE.1 hE.2.1 dX8_back_9 (by decide) ?_
    exact x_ri (post := fun r => r = fBack p1) hE hr hlo rfl (show ((-2) : Int32) = fBack p1 from (by unfold fBack; rw [if_pos (imB_neg c_1)])) dX8_back_11
  · skip
    refine lv_iload_n hE.1 hE.2.1 dX8_back_4 rfl (lv_at hl 1 rfl) ?_
    refine lv_iconst (v := 3) hE.1 hE.2.1 dX8_back_5 (by decide) ?_
    refine lv_icmp_lt (tgt := 12) hE.1 hE.2.1 dX8_back_6 (by decide) (fun c_2 => ?_) (fun c_2 => ?_)
    · skip
      refine lv_aload_n hE.1 hE.2.1 dX8_back_12 rfl (lv_at hl 0 rfl) ?_
      refine x_get (x := .ref (ad 66)) hE hK hP 0 (by decide) (xG_8 rfl) rfl hin8 9 (by decide) mw_489 rfl dX8_back_13 ?_
      refine lv_iload_n hE.1 hE.2.1 dX8_back_16 rfl (lv_at hl 1 rfl) ?_
      rcases im_cases c_1 c_2 with rfl | rfl | rfl
      · skip
        refine x_aald (r := .ref (ad 75)) hE hK hP 66 5 (by decide) (xG_14 rfl) rfl (by unfold vp_in; decide) rfl dX8_back_17 ?_
        refine lv_astore_n (lv' := [(2, .ref (ad 75)), (0, .ref (ad 0)), (1, .int 0)]) hE.1 hE.2.1 dX8_back_18 rfl hl (by decide) rfl (fun ls hl => ?_)
        refine lv_aload_n hE.1 hE.2.1 dX8_back_19 rfl (lv_at hl 0 rfl) ?_
        refine x_get (x := .int 0) hE hK hP 75 (by decide) (xG_3 rfl) rfl hin3 2 (by decide) mw_472 rfl dX8_back_20 ?_
        refine lv_if_ne (tgt := 29) hE.1 hE.2.1 dX8_back_23 (by decide) (fun h => absurd (by decide) h) (fun _ => ?_)
        refine lv_bipush (v := (-6)) hE.1 hE.2.1 dX8_back_26 (by decide) ?_
        exact x_ri (post := fun r => r = fBack 0) hE hr hlo rfl (show ((-6) : Int32) = fBack 0 from by decide) dX8_back_28
      · skip
        refine x_aald (r := .ref (ad 94)) hE hK hP 66 5 (by decide) (xG_14 rfl) rfl (by unfold vp_in; decide) rfl dX8_back_17 ?_
        refine lv_astore_n (lv' := [(2, .ref (ad 94)), (0, .ref (ad 0)), (1, .int 1)]) hE.1 hE.2.1 dX8_back_18 rfl hl (by decide) rfl (fun ls hl => ?_)
        refine lv_aload_n hE.1 hE.2.1 dX8_back_19 rfl (lv_at hl 0 rfl) ?_
        refine x_get (x := .int 0) hE hK hP 94 (by decide) (xG_3 rfl) rfl hin3 2 (by decide) mw_472 rfl dX8_back_20 ?_
        refine lv_if_ne (tgt := 29) hE.1 hE.2.1 dX8_back_23 (by decide) (fun h => absurd (by decide) h) (fun _ => ?_)
        refine lv_bipush (v := (-6)) hE.1 hE.2.1 dX8_back_26 (by decide) ?_
        exact x_ri (post := fun r => r = fBack 1) hE hr hlo rfl (show ((-6) : Int32) = fBack 1 from by decide) dX8_back_28
      · skip
        refine x_aald (r := .ref (ad 113)) hE hK hP 66 5 (by decide) (xG_14 rfl) rfl (by unfold vp_in; decide) rfl dX8_back_17 ?_
        refine lv_astore_n (lv' := [(2, .ref (ad 113)), (0, .ref (ad 0)), (1, .int 2)]) hE.1 hE.2.1 dX8_back_18 rfl hl (by decide) rfl (fun ls hl => ?_)
        refine lv_aload_n hE.1 hE.2.1 dX8_back_19 rfl (lv_at hl 0 rfl) ?_
        refine x_get (x := .int 0) hE hK hP 113 (by decide) (xG_3 rfl) rfl hin3 2 (by decide) mw_472 rfl dX8_back_20 ?_
        refine lv_if_ne (tgt := 29) hE.1 hE.2.1 dX8_back_23 (by decide) (fun h => absurd (by decide) h) (fun _ => ?_)
        refine lv_bipush (v := (-6)) hE.1 hE.2.1 dX8_back_26 (by decide) ?_
        exact x_ri (post := fun r => r = fBack 2) hE hr hlo rfl (show ((-6) : Int32) = fBack 2 from by decide) dX8_back_28
    · skip
      refine lv_bipush (v := (-2)) hE.1 hE.2.1 dX8_back_9 (by decide) ?_
      exact x_ri (post := fun r => r = fBack p1) hE hr hlo rfl (show ((-2) : Int32) = fBack p1 from (by unfold fBack; rw [if_pos (imB_big c_1 c_2)])) dX8_back_11

theorem dX8_write_0 : decode cX8_write 0 = .ok (.iload_n 1, 1) := by decide +kernel
theorem dX8_write_1 : decode cX8_write 1 = .ok (.invokestatic 260, 3) := by decide +kernel
theorem dX8_write_4 : decode cX8_write 4 = .ok (.ifCond .ne 6, 3) := by decide +kernel
theorem dX8_write_7 : decode cX8_write 7 = .ok (.bipush (-2), 2) := by decide +kernel
theorem dX8_write_9 : decode cX8_write 9 = .ok (.ireturn, 1) := by decide +kernel
theorem dX8_write_10 : decode cX8_write 10 = .ok (.aload_n 0, 1) := by decide +kernel
theorem dX8_write_11 : decode cX8_write 11 = .ok (.getfield 63, 3) := by decide +kernel
theorem dX8_write_14 : decode cX8_write 14 = .ok (.iload_n 1, 1) := by decide +kernel
theorem dX8_write_15 : decode cX8_write 15 = .ok (.aaload, 1) := by decide +kernel
theorem dX8_write_16 : decode cX8_write 16 = .ok (.astore 5, 2) := by decide +kernel
theorem dX8_write_18 : decode cX8_write 18 = .ok (.aload 5, 2) := by decide +kernel
theorem dX8_write_20 : decode cX8_write 20 = .ok (.getfield 263, 3) := by decide +kernel
theorem dX8_write_23 : decode cX8_write 23 = .ok (.ifCond .ge 6, 3) := by decide +kernel
theorem dX8_write_26 : decode cX8_write 26 = .ok (.bipush (-6), 2) := by decide +kernel
theorem dX8_write_28 : decode cX8_write 28 = .ok (.ireturn, 1) := by decide +kernel
set_option maxHeartbeats 4000000 in
set_option maxRecDepth 100000 in
theorem k_X8_write (l : Launch) (D : va_G) (K : Nat → ClassId) (ad : Nat → Nat) (mm : Option Nat) (p1 : Int32) (p2 : Int32) (p3 : Int64) : Met l yX8_write (wM yX8_write cX8_write 6 (some .int)) (rmD 1) (va_Pc [.ref (ad 0), .int p1, .int p2, .long p3] (wPre D K ad (xG ad K mm) 132 xv0 xa0 xl0)) (vp_Si (fun r => r = fWrite p1)) 0 0 (fun _ => False) := by
  refine x_met (by decide) (Nat.le_of_ble_eq_true rfl) ?_
  intro p e s m below meth c ls hE hr hlo hnm hB hl
  have hE : CallFix p m c cX8_write 6 s _ tbG "TaleCourt" := hE
  obtain ⟨hP, hK, hN⟩ := hB
  have hS : va_S (inW ad 132) s.heap s.heap [] := va_S.rf
  have hl : lv_has ls 6 [(0, .ref (ad 0)), (1, .int p1), (2, .int p2), (3, .long p3)] := hl
  refine lv_iload_n hE.1 hE.2.1 dX8_write_0 rfl (lv_at hl 1 rfl) ?_
  refine x_sp (nn := 1) (As := [.int p1]) (rest := []) hE (k_X8_isSlot l p1) tt_blind (fun _ _ _ => trivial) rfl mw_1134 mw_1135 mw_114 mw_1136 (by decide +kernel) ⟨by decide, by decide⟩ hl.1 rfl (Nat.le_of_ble_eq_true rfl) ⟨Nat.zero_le _, Nat.zero_le _⟩ dX8_write_1 (fun r_1 hr_1 => ?_)
  subst hr_1
  refine lv_if_ne (tgt := 10) hE.1 hE.2.1 dX8_write_4 (by decide) (fun c_2 => ?_) (fun c_2 => ?_)
  · skip
    refine lv_aload_n hE.1 hE.2.1 dX8_write_10 rfl (lv_at hl 0 rfl) ?_
    refine x_get (x := .ref (ad 65)) hE hK hP 0 (by decide) (xG_8 rfl) rfl hin8 8 (by decide) mw_488 rfl dX8_write_11 ?_
    refine lv_iload_n hE.1 hE.2.1 dX8_write_14 rfl (lv_at hl 1 rfl) ?_
    rcases slB_cases c_2 with rfl | rfl | rfl | rfl
    · skip
      refine x_aald (r := .ref (ad 67)) hE hK hP 65 4 (by decide) (xG_13 rfl) rfl (by unfold vp_in; decide) rfl dX8_write_15 ?_
      refine lv_astore (lv' := [(5, .ref (ad 67)), (0, .ref (ad 0)), (1, .int 0), (2, .int p2), (3, .long p3)]) hE.1 hE.2.1 dX8_write_16 hl (by decide) rfl (fun ls hl => ?_)
      refine lv_aload hE.1 hE.2.1 dX8_write_18 (lv_at hl 0 rfl) ?_
      refine x_get (x := .int (-1)) hE hK hP 67 (by decide) (xG_5 rfl) rfl hin5 2 (by decide) mw_451 rfl dX8_write_20 ?_
      refine lv_if_ge (tgt := 29) hE.1 hE.2.1 dX8_write_23 (by decide) (fun h => absurd h (by decide)) (fun _ => ?_)
      refine lv_bipush (v := (-6)) hE.1 hE.2.1 dX8_write_26 (by decide) ?_
      exact x_ri (post := fun r => r = fWrite 0) hE hr hlo rfl (show ((-6) : Int32) = fWrite 0 from by decide) dX8_write_28
    · skip
      refine x_aald (r := .ref (ad 69)) hE hK hP 65 4 (by decide) (xG_13 rfl) rfl (by unfold vp_in; decide) rfl dX8_write_15 ?_
      refine lv_astore (lv' := [(5, .ref (ad 69)), (0, .ref (ad 0)), (1, .int 1), (2, .int p2), (3, .long p3)]) hE.1 hE.2.1 dX8_write_16 hl (by decide) rfl (fun ls hl => ?_)
      refine lv_aload hE.1 hE.2.1 dX8_write_18 (lv_at hl 0 rfl) ?_
      refine x_get (x := .int (-1)) hE hK hP 69 (by decide) (xG_5 rfl) rfl hin5 2 (by decide) mw_451 rfl dX8_write_20 ?_
      refine lv_if_ge (tgt := 29) hE.1 hE.2.1 dX8_write_23 (by decide) (fun h => absurd h (by decide)) (fun _ => ?_)
      refine lv_bipush (v := (-6)) hE.1 hE.2.1 dX8_write_26 (by decide) ?_
      exact x_ri (post := fun r => r = fWrite 1) hE hr hlo rfl (show ((-6) : Int32) = fWrite 1 from by decide) dX8_write_28
    · skip
      refine x_aald (r := .ref (ad 71)) hE hK hP 65 4 (by decide) (xG_13 rfl) rfl (by unfold vp_in; decide) rfl dX8_write_15 ?_
      refine lv_astore (lv' := [(5, .ref (ad 71)), (0, .ref (ad 0)), (1, .int 2), (2, .int p2), (3, .long p3)]) hE.1 hE.2.1 dX8_write_16 hl (by decide) rfl (fun ls hl => ?_)
      refine lv_aload hE.1 hE.2.1 dX8_write_18 (lv_at hl 0 rfl) ?_
      refine x_get (x := .int (-1)) hE hK hP 71 (by decide) (xG_5 rfl) rfl hin5 2 (by decide) mw_451 rfl dX8_write_20 ?_
      refine lv_if_ge (tgt := 29) hE.1 hE.2.1 dX8_write_23 (by decide) (fun h => absurd h (by decide)) (fun _ => ?_)
      refine lv_bipush (v := (-6)) hE.1 hE.2.1 dX8_write_26 (by decide) ?_
      exact x_ri (post := fun r => r = fWrite 2) hE hr hlo rfl (show ((-6) : Int32) = fWrite 2 from by decide) dX8_write_28
    · skip
      refine x_aald (r := .ref (ad 73)) hE hK hP 65 4 (by decide) (xG_13 rfl) rfl (by unfold vp_in; decide) rfl dX8_write_15 ?_
      refine lv_astore (lv' := [(5, .ref (ad 73)), (0, .ref (ad 0)), (1, .int 3), (2, .int p2), (3, .long p3)]) hE.1 hE.2.1 dX8_write_16 hl (by decide) rfl (fun ls hl => ?_)
      refine lv_aload hE.1 hE.2.1 dX8_write_18 (lv_at hl 0 rfl) ?_
      refine x_get (x := .int (-1)) hE hK hP 73 (by decide) (xG_5 rfl) rfl hin5 2 (by decide) mw_451 rfl dX8_write_20 ?_
      refine lv_if_ge (tgt := 29) hE.1 hE.2.1 dX8_write_23 (by decide) (fun h => absurd h (by decide)) (fun _ => ?_)
      refine lv_bipush (v := (-6)) hE.1 hE.2.1 dX8_write_26 (by decide) ?_
      exact x_ri (post := fun r => r = fWrite 3) hE hr hlo rfl (show ((-6) : Int32) = fWrite 3 from by decide) dX8_write_28
  · skip
    refine lv_bipush (v := (-2)) hE.1 hE.2.1 dX8_write_7 (by decide) ?_
    exact x_ri (post := fun r => r = fWrite p1) hE hr hlo rfl (show ((-2) : Int32) = fWrite p1 from (by unfold fWrite; rw [if_pos c_2])) dX8_write_9

theorem dX8_paste_0 : decode cX8_paste 0 = .ok (.iload_n 1, 1) := by decide +kernel
theorem dX8_paste_1 : decode cX8_paste 1 = .ok (.invokestatic 260, 3) := by decide +kernel
theorem dX8_paste_4 : decode cX8_paste 4 = .ok (.ifCond .eq 10, 3) := by decide +kernel
theorem dX8_paste_7 : decode cX8_paste 7 = .ok (.iload_n 3, 1) := by decide +kernel
theorem dX8_paste_8 : decode cX8_paste 8 = .ok (.invokestatic 260, 3) := by decide +kernel
theorem dX8_paste_11 : decode cX8_paste 11 = .ok (.ifCond .ne 6, 3) := by decide +kernel
theorem dX8_paste_14 : decode cX8_paste 14 = .ok (.bipush (-2), 2) := by decide +kernel
theorem dX8_paste_16 : decode cX8_paste 16 = .ok (.ireturn, 1) := by decide +kernel
theorem dX8_paste_17 : decode cX8_paste 17 = .ok (.aload_n 0, 1) := by decide +kernel
theorem dX8_paste_18 : decode cX8_paste 18 = .ok (.getfield 63, 3) := by decide +kernel
theorem dX8_paste_21 : decode cX8_paste 21 = .ok (.iload_n 1, 1) := by decide +kernel
theorem dX8_paste_22 : decode cX8_paste 22 = .ok (.aaload, 1) := by decide +kernel
theorem dX8_paste_23 : decode cX8_paste 23 = .ok (.astore 6, 2) := by decide +kernel
theorem dX8_paste_25 : decode cX8_paste 25 = .ok (.aload_n 0, 1) := by decide +kernel
theorem dX8_paste_26 : decode cX8_paste 26 = .ok (.getfield 63, 3) := by decide +kernel
theorem dX8_paste_29 : decode cX8_paste 29 = .ok (.iload_n 3, 1) := by decide +kernel
theorem dX8_paste_30 : decode cX8_paste 30 = .ok (.aaload, 1) := by decide +kernel
theorem dX8_paste_31 : decode cX8_paste 31 = .ok (.astore 7, 2) := by decide +kernel
theorem dX8_paste_33 : decode cX8_paste 33 = .ok (.aload 6, 2) := by decide +kernel
theorem dX8_paste_35 : decode cX8_paste 35 = .ok (.getfield 263, 3) := by decide +kernel
theorem dX8_paste_38 : decode cX8_paste 38 = .ok (.ifCond .lt 11, 3) := by decide +kernel
theorem dX8_paste_49 : decode cX8_paste 49 = .ok (.bipush (-6), 2) := by decide +kernel
theorem dX8_paste_51 : decode cX8_paste 51 = .ok (.ireturn, 1) := by decide +kernel
set_option maxHeartbeats 4000000 in
set_option maxRecDepth 100000 in
theorem k_X8_paste (l : Launch) (D : va_G) (K : Nat → ClassId) (ad : Nat → Nat) (mm : Option Nat) (p1 : Int32) (p2 : Int32) (p3 : Int32) (p4 : Int32) (p5 : Int32) : Met l yX8_paste (wM yX8_paste cX8_paste 8 (some .int)) (rmD 1) (va_Pc [.ref (ad 0), .int p1, .int p2, .int p3, .int p4, .int p5] (wPre D K ad (xG ad K mm) 132 xv0 xa0 xl0)) (vp_Si (fun r => r = fPaste p1 p3)) 0 0 (fun _ => False) := by
  refine x_met (by decide) (Nat.le_of_ble_eq_true rfl) ?_
  intro p e s m below meth c ls hE hr hlo hnm hB hl
  have hE : CallFix p m c cX8_paste 8 s _ tbG "TaleCourt" := hE
  obtain ⟨hP, hK, hN⟩ := hB
  have hS : va_S (inW ad 132) s.heap s.heap [] := va_S.rf
  have hl : lv_has ls 8 [(0, .ref (ad 0)), (1, .int p1), (2, .int p2), (3, .int p3), (4, .int p4), (5, .int p5)] := hl
  refine lv_iload_n hE.1 hE.2.1 dX8_paste_0 rfl (lv_at hl 1 rfl) ?_
  refine x_sp (nn := 1) (As := [.int p1]) (rest := []) hE (k_X8_isSlot l p1) tt_blind (fun _ _ _ => trivial) rfl mw_1134 mw_1135 mw_114 mw_1136 (by decide +kernel) ⟨by decide, by decide⟩ hl.1 rfl (Nat.le_of_ble_eq_true rfl) ⟨Nat.zero_le _, Nat.zero_le _⟩ dX8_paste_1 (fun r_1 hr_1 => ?_)
  subst hr_1
  refine lv_if_eq (tgt := 14) hE.1 hE.2.1 dX8_paste_4 (by decide) (fun c_2 => ?_) (fun c_2 => ?_)
  · skip
    refine lv_bipush (v := (-2)) hE.1 hE.2.1 dX8_paste_14 (by decide) ?_
    exact x_ri (post := fun r => r = fPaste p1 p3) hE hr hlo rfl (show ((-2) : Int32) = fPaste p1 p3 from (by unfold fPaste; rw [if_pos c_2])) dX8_paste_16
  · skip
    refine lv_iload_n hE.1 hE.2.1 dX8_paste_7 rfl (lv_at hl 3 rfl) ?_
    refine x_sp (nn := 1) (As := [.int p3]) (rest := []) hE (k_X8_isSlot l p3) tt_blind (fun _ _ _ => trivial) rfl mw_1134 mw_1135 mw_114 mw_1136 (by decide +kernel) ⟨by decide, by decide⟩ hl.1 rfl (Nat.le_of_ble_eq_true rfl) ⟨Nat.zero_le _, Nat.zero_le _⟩ dX8_paste_8 (fun r_3 hr_3 => ?_)
    subst hr_3
    refine lv_if_ne (tgt := 17) hE.1 hE.2.1 dX8_paste_11 (by decide) (fun c_4 => ?_) (fun c_4 => ?_)
    · skip
      refine lv_aload_n hE.1 hE.2.1 dX8_paste_17 rfl (lv_at hl 0 rfl) ?_
      refine x_get (x := .ref (ad 65)) hE hK hP 0 (by decide) (xG_8 rfl) rfl hin8 8 (by decide) mw_488 rfl dX8_paste_18 ?_
      refine lv_iload_n hE.1 hE.2.1 dX8_paste_21 rfl (lv_at hl 1 rfl) ?_
      rcases slB_cases c_2 with rfl | rfl | rfl | rfl
      · skip
        refine x_aald (r := .ref (ad 67)) hE hK hP 65 4 (by decide) (xG_13 rfl) rfl (by unfold vp_in; decide) rfl dX8_paste_22 ?_
        refine lv_astore (lv' := [(6, .ref (ad 67)), (0, .ref (ad 0)), (1, .int 0), (2, .int p2), (3, .int p3), (4, .int p4), (5, .int p5)]) hE.1 hE.2.1 dX8_paste_23 hl (by decide) rfl (fun ls hl => ?_)
        refine lv_aload_n hE.1 hE.2.1 dX8_paste_25 rfl (lv_at hl 1 rfl) ?_
        refine x_get (x := .ref (ad 65)) hE hK hP 0 (by decide) (xG_8 rfl) rfl hin8 8 (by decide) mw_488 rfl dX8_paste_26 ?_
        refine lv_iload_n hE.1 hE.2.1 dX8_paste_29 rfl (lv_at hl 4 rfl) ?_
        rcases slB_cases c_4 with rfl | rfl | rfl | rfl
        · skip
          refine x_aald (r := .ref (ad 67)) hE hK hP 65 4 (by decide) (xG_13 rfl) rfl (by unfold vp_in; decide) rfl dX8_paste_30 ?_
          refine lv_astore (lv' := [(7, .ref (ad 67)), (6, .ref (ad 67)), (0, .ref (ad 0)), (1, .int 0), (2, .int p2), (3, .int 0), (4, .int p4), (5, .int p5)]) hE.1 hE.2.1 dX8_paste_31 hl (by decide) rfl (fun ls hl => ?_)
          refine lv_aload hE.1 hE.2.1 dX8_paste_33 (lv_at hl 1 rfl) ?_
          refine x_get (x := .int (-1)) hE hK hP 67 (by decide) (xG_5 rfl) rfl hin5 2 (by decide) mw_451 rfl dX8_paste_35 ?_
          refine lv_if_lt (tgt := 49) hE.1 hE.2.1 dX8_paste_38 (by decide) (fun _ => ?_) (fun h => absurd (by decide) h)
          refine lv_bipush (v := (-6)) hE.1 hE.2.1 dX8_paste_49 (by decide) ?_
          exact x_ri (post := fun r => r = fPaste 0 0) hE hr hlo rfl (show ((-6) : Int32) = fPaste 0 0 from by decide) dX8_paste_51
        · skip
          refine x_aald (r := .ref (ad 69)) hE hK hP 65 4 (by decide) (xG_13 rfl) rfl (by unfold vp_in; decide) rfl dX8_paste_30 ?_
          refine lv_astore (lv' := [(7, .ref (ad 69)), (6, .ref (ad 67)), (0, .ref (ad 0)), (1, .int 0), (2, .int p2), (3, .int 1), (4, .int p4), (5, .int p5)]) hE.1 hE.2.1 dX8_paste_31 hl (by decide) rfl (fun ls hl => ?_)
          refine lv_aload hE.1 hE.2.1 dX8_paste_33 (lv_at hl 1 rfl) ?_
          refine x_get (x := .int (-1)) hE hK hP 67 (by decide) (xG_5 rfl) rfl hin5 2 (by decide) mw_451 rfl dX8_paste_35 ?_
          refine lv_if_lt (tgt := 49) hE.1 hE.2.1 dX8_paste_38 (by decide) (fun _ => ?_) (fun h => absurd (by decide) h)
          refine lv_bipush (v := (-6)) hE.1 hE.2.1 dX8_paste_49 (by decide) ?_
          exact x_ri (post := fun r => r = fPaste 0 1) hE hr hlo rfl (show ((-6) : Int32) = fPaste 0 1 from by decide) dX8_paste_51
        · skip
          refine x_aald (r := .ref (ad 71)) hE hK hP 65 4 (by decide) (xG_13 rfl) rfl (by unfold vp_in; decide) rfl dX8_paste_30 ?_
          refine lv_astore (lv' := [(7, .ref (ad 71)), (6, .ref (ad 67)), (0, .ref (ad 0)), (1, .int 0), (2, .int p2), (3, .int 2), (4, .int p4), (5, .int p5)]) hE.1 hE.2.1 dX8_paste_31 hl (by decide) rfl (fun ls hl => ?_)
          refine lv_aload hE.1 hE.2.1 dX8_paste_33 (lv_at hl 1 rfl) ?_
          refine x_get (x := .int (-1)) hE hK hP 67 (by decide) (xG_5 rfl) rfl hin5 2 (by decide) mw_451 rfl dX8_paste_35 ?_
          refine lv_if_lt (tgt := 49) hE.1 hE.2.1 dX8_paste_38 (by decide) (fun _ => ?_) (fun h => absurd (by decide) h)
          refine lv_bipush (v := (-6)) hE.1 hE.2.1 dX8_paste_49 (by decide) ?_
          exact x_ri (post := fun r => r = fPaste 0 2) hE hr hlo rfl (show ((-6) : Int32) = fPaste 0 2 from by decide) dX8_paste_51
        · skip
          refine x_aald (r := .ref (ad 73)) hE hK hP 65 4 (by decide) (xG_13 rfl) rfl (by unfold vp_in; decide) rfl dX8_paste_30 ?_
          refine lv_astore (lv' := [(7, .ref (ad 73)), (6, .ref (ad 67)), (0, .ref (ad 0)), (1, .int 0), (2, .int p2), (3, .int 3), (4, .int p4), (5, .int p5)]) hE.1 hE.2.1 dX8_paste_31 hl (by decide) rfl (fun ls hl => ?_)
          refine lv_aload hE.1 hE.2.1 dX8_paste_33 (lv_at hl 1 rfl) ?_
          refine x_get (x := .int (-1)) hE hK hP 67 (by decide) (xG_5 rfl) rfl hin5 2 (by decide) mw_451 rfl dX8_paste_35 ?_
          refine lv_if_lt (tgt := 49) hE.1 hE.2.1 dX8_paste_38 (by decide) (fun _ => ?_) (fun h => absurd (by decide) h)
          refine lv_bipush (v := (-6)) hE.1 hE.2.1 dX8_paste_49 (by decide) ?_
          exact x_ri (post := fun r => r = fPaste 0 3) hE hr hlo rfl (show ((-6) : Int32) = fPaste 0 3 from by decide) dX8_paste_51
      · skip
        refine x_aald (r := .ref (ad 69)) hE hK hP 65 4 (by decide) (xG_13 rfl) rfl (by unfold vp_in; decide) rfl dX8_paste_22 ?_
        refine lv_astore (lv' := [(6, .ref (ad 69)), (0, .ref (ad 0)), (1, .int 1), (2, .int p2), (3, .int p3), (4, .int p4), (5, .int p5)]) hE.1 hE.2.1 dX8_paste_23 hl (by decide) rfl (fun ls hl => ?_)
        refine lv_aload_n hE.1 hE.2.1 dX8_paste_25 rfl (lv_at hl 1 rfl) ?_
        refine x_get (x := .ref (ad 65)) hE hK hP 0 (by decide) (xG_8 rfl) rfl hin8 8 (by decide) mw_488 rfl dX8_paste_26 ?_
        refine lv_iload_n hE.1 hE.2.1 dX8_paste_29 rfl (lv_at hl 4 rfl) ?_
        rcases slB_cases c_4 with rfl | rfl | rfl | rfl
        · skip
          refine x_aald (r := .ref (ad 67)) hE hK hP 65 4 (by decide) (xG_13 rfl) rfl (by unfold vp_in; decide) rfl dX8_paste_30 ?_
          refine lv_astore (lv' := [(7, .ref (ad 67)), (6, .ref (ad 69)), (0, .ref (ad 0)), (1, .int 1), (2, .int p2), (3, .int 0), (4, .int p4), (5, .int p5)]) hE.1 hE.2.1 dX8_paste_31 hl (by decide) rfl (fun ls hl => ?_)
          refine lv_aload hE.1 hE.2.1 dX8_paste_33 (lv_at hl 1 rfl) ?_
          refine x_get (x := .int (-1)) hE hK hP 69 (by decide) (xG_5 rfl) rfl hin5 2 (by decide) mw_451 rfl dX8_paste_35 ?_
          refine lv_if_lt (tgt := 49) hE.1 hE.2.1 dX8_paste_38 (by decide) (fun _ => ?_) (fun h => absurd (by decide) h)
          refine lv_bipush (v := (-6)) hE.1 hE.2.1 dX8_paste_49 (by decide) ?_
          exact x_ri (post := fun r => r = fPaste 1 0) hE hr hlo rfl (show ((-6) : Int32) = fPaste 1 0 from by decide) dX8_paste_51
        · skip
          refine x_aald (r := .ref (ad 69)) hE hK hP 65 4 (by decide) (xG_13 rfl) rfl (by unfold vp_in; decide) rfl dX8_paste_30 ?_
          refine lv_astore (lv' := [(7, .ref (ad 69)), (6, .ref (ad 69)), (0, .ref (ad 0)), (1, .int 1), (2, .int p2), (3, .int 1), (4, .int p4), (5, .int p5)]) hE.1 hE.2.1 dX8_paste_31 hl (by decide) rfl (fun ls hl => ?_)
          refine lv_aload hE.1 hE.2.1 dX8_paste_33 (lv_at hl 1 rfl) ?_
          refine x_get (x := .int (-1)) hE hK hP 69 (by decide) (xG_5 rfl) rfl hin5 2 (by decide) mw_451 rfl dX8_paste_35 ?_
          refine lv_if_lt (tgt := 49) hE.1 hE.2.1 dX8_paste_38 (by decide) (fun _ => ?_) (fun h => absurd (by decide) h)
          refine lv_bipush (v := (-6)) hE.1 hE.2.1 dX8_paste_49 (by decide) ?_
          exact x_ri (post := fun r => r = fPaste 1 1) hE hr hlo rfl (show ((-6) : Int32) = fPaste 1 1 from by decide) dX8_paste_51
        · skip
          refine x_aald (r := .ref (ad 71)) hE hK hP 65 4 (by decide) (xG_13 rfl) rfl (by unfold vp_in; decide) rfl dX8_paste_30 ?_
          refine lv_astore (lv' := [(7, .ref (ad 71)), (6, .ref (ad 69)), (0, .ref (ad 0)), (1, .int 1), (2, .int p2), (3, .int 2), (4, .int p4), (5, .int p5)]) hE.1 hE.2.1 dX8_paste_31 hl (by decide) rfl (fun ls hl => ?_)
          refine lv_aload hE.1 hE.2.1 dX8_paste_33 (lv_at hl 1 rfl) ?_
          refine x_get (x := .int (-1)) hE hK hP 69 (by decide) (xG_5 rfl) rfl hin5 2 (by decide) mw_451 rfl dX8_paste_35 ?_
          refine lv_if_lt (tgt := 49) hE.1 hE.2.1 dX8_paste_38 (by decide) (fun _ => ?_) (fun h => absurd (by decide) h)
          refine lv_bipush (v := (-6)) hE.1 hE.2.1 dX8_paste_49 (by decide) ?_
          exact x_ri (post := fun r => r = fPaste 1 2) hE hr hlo rfl (show ((-6) : Int32) = fPaste 1 2 from by decide) dX8_paste_51
        · skip
          refine x_aald (r := .ref (ad 73)) hE hK hP 65 4 (by decide) (xG_13 rfl) rfl (by unfold vp_in; decide) rfl dX8_paste_30 ?_
          refine lv_astore (lv' := [(7, .ref (ad 73)), (6, .ref (ad 69)), (0, .ref (ad 0)), (1, .int 1), (2, .int p2), (3, .int 3), (4, .int p4), (5, .int p5)]) hE.1 hE.2.1 dX8_paste_31 hl (by decide) rfl (fun ls hl => ?_)
          refine lv_aload hE.1 hE.2.1 dX8_paste_33 (lv_at hl 1 rfl) ?_
          refine x_get (x := .int (-1)) hE hK hP 69 (by decide) (xG_5 rfl) rfl hin5 2 (by decide) mw_451 rfl dX8_paste_35 ?_
          refine lv_if_lt (tgt := 49) hE.1 hE.2.1 dX8_paste_38 (by decide) (fun _ => ?_) (fun h => absurd (by decide) h)
          refine lv_bipush (v := (-6)) hE.1 hE.2.1 dX8_paste_49 (by decide) ?_
          exact x_ri (post := fun r => r = fPaste 1 3) hE hr hlo rfl (show ((-6) : Int32) = fPaste 1 3 from by decide) dX8_paste_51
      · skip
        refine x_aald (r := .ref (ad 71)) hE hK hP 65 4 (by decide) (xG_13 rfl) rfl (by unfold vp_in; decide) rfl dX8_paste_22 ?_
        refine lv_astore (lv' := [(6, .ref (ad 71)), (0, .ref (ad 0)), (1, .int 2), (2, .int p2), (3, .int p3), (4, .int p4), (5, .int p5)]) hE.1 hE.2.1 dX8_paste_23 hl (by decide) rfl (fun ls hl => ?_)
        refine lv_aload_n hE.1 hE.2.1 dX8_paste_25 rfl (lv_at hl 1 rfl) ?_
        refine x_get (x := .ref (ad 65)) hE hK hP 0 (by decide) (xG_8 rfl) rfl hin8 8 (by decide) mw_488 rfl dX8_paste_26 ?_
        refine lv_iload_n hE.1 hE.2.1 dX8_paste_29 rfl (lv_at hl 4 rfl) ?_
        rcases slB_cases c_4 with rfl | rfl | rfl | rfl
        · skip
          refine x_aald (r := .ref (ad 67)) hE hK hP 65 4 (by decide) (xG_13 rfl) rfl (by unfold vp_in; decide) rfl dX8_paste_30 ?_
          refine lv_astore (lv' := [(7, .ref (ad 67)), (6, .ref (ad 71)), (0, .ref (ad 0)), (1, .int 2), (2, .int p2), (3, .int 0), (4, .int p4), (5, .int p5)]) hE.1 hE.2.1 dX8_paste_31 hl (by decide) rfl (fun ls hl => ?_)
          refine lv_aload hE.1 hE.2.1 dX8_paste_33 (lv_at hl 1 rfl) ?_
          refine x_get (x := .int (-1)) hE hK hP 71 (by decide) (xG_5 rfl) rfl hin5 2 (by decide) mw_451 rfl dX8_paste_35 ?_
          refine lv_if_lt (tgt := 49) hE.1 hE.2.1 dX8_paste_38 (by decide) (fun _ => ?_) (fun h => absurd (by decide) h)
          refine lv_bipush (v := (-6)) hE.1 hE.2.1 dX8_paste_49 (by decide) ?_
          exact x_ri (post := fun r => r = fPaste 2 0) hE hr hlo rfl (show ((-6) : Int32) = fPaste 2 0 from by decide) dX8_paste_51
        · skip
          refine x_aald (r := .ref (ad 69)) hE hK hP 65 4 (by decide) (xG_13 rfl) rfl (by unfold vp_in; decide) rfl dX8_paste_30 ?_
          refine lv_astore (lv' := [(7, .ref (ad 69)), (6, .ref (ad 71)), (0, .ref (ad 0)), (1, .int 2), (2, .int p2), (3, .int 1), (4, .int p4), (5, .int p5)]) hE.1 hE.2.1 dX8_paste_31 hl (by decide) rfl (fun ls hl => ?_)
          refine lv_aload hE.1 hE.2.1 dX8_paste_33 (lv_at hl 1 rfl) ?_
          refine x_get (x := .int (-1)) hE hK hP 71 (by decide) (xG_5 rfl) rfl hin5 2 (by decide) mw_451 rfl dX8_paste_35 ?_
          refine lv_if_lt (tgt := 49) hE.1 hE.2.1 dX8_paste_38 (by decide) (fun _ => ?_) (fun h => absurd (by decide) h)
          refine lv_bipush (v := (-6)) hE.1 hE.2.1 dX8_paste_49 (by decide) ?_
          exact x_ri (post := fun r => r = fPaste 2 1) hE hr hlo rfl (show ((-6) : Int32) = fPaste 2 1 from by decide) dX8_paste_51
        · skip
          refine x_aald (r := .ref (ad 71)) hE hK hP 65 4 (by decide) (xG_13 rfl) rfl (by unfold vp_in; decide) rfl dX8_paste_30 ?_
          refine lv_astore (lv' := [(7, .ref (ad 71)), (6, .ref (ad 71)), (0, .ref (ad 0)), (1, .int 2), (2, .int p2), (3, .int 2), (4, .int p4), (5, .int p5)]) hE.1 hE.2.1 dX8_paste_31 hl (by decide) rfl (fun ls hl => ?_)
          refine lv_aload hE.1 hE.2.1 dX8_paste_33 (lv_at hl 1 rfl) ?_
          refine x_get (x := .int (-1)) hE hK hP 71 (by decide) (xG_5 rfl) rfl hin5 2 (by decide) mw_451 rfl dX8_paste_35 ?_
          refine lv_if_lt (tgt := 49) hE.1 hE.2.1 dX8_paste_38 (by decide) (fun _ => ?_) (fun h => absurd (by decide) h)
          refine lv_bipush (v := (-6)) hE.1 hE.2.1 dX8_paste_49 (by decide) ?_
          exact x_ri (post := fun r => r = fPaste 2 2) hE hr hlo rfl (show ((-6) : Int32) = fPaste 2 2 from by decide) dX8_paste_51
        · skip
          refine x_aald (r := .ref (ad 73)) hE hK hP 65 4 (by decide) (xG_13 rfl) rfl (by unfold vp_in; decide) rfl dX8_paste_30 ?_
          refine lv_astore (lv' := [(7, .ref (ad 73)), (6, .ref (ad 71)), (0, .ref (ad 0)), (1, .int 2), (2, .int p2), (3, .int 3), (4, .int p4), (5, .int p5)]) hE.1 hE.2.1 dX8_paste_31 hl (by decide) rfl (fun ls hl => ?_)
          refine lv_aload hE.1 hE.2.1 dX8_paste_33 (lv_at hl 1 rfl) ?_
          refine x_get (x := .int (-1)) hE hK hP 71 (by decide) (xG_5 rfl) rfl hin5 2 (by decide) mw_451 rfl dX8_paste_35 ?_
          refine lv_if_lt (tgt := 49) hE.1 hE.2.1 dX8_paste_38 (by decide) (fun _ => ?_) (fun h => absurd (by decide) h)
          refine lv_bipush (v := (-6)) hE.1 hE.2.1 dX8_paste_49 (by decide) ?_
          exact x_ri (post := fun r => r = fPaste 2 3) hE hr hlo rfl (show ((-6) : Int32) = fPaste 2 3 from by decide) dX8_paste_51
      · skip
        refine x_aald (r := .ref (ad 73)) hE hK hP 65 4 (by decide) (xG_13 rfl) rfl (by unfold vp_in; decide) rfl dX8_paste_22 ?_
        refine lv_astore (lv' := [(6, .ref (ad 73)), (0, .ref (ad 0)), (1, .int 3), (2, .int p2), (3, .int p3), (4, .int p4), (5, .int p5)]) hE.1 hE.2.1 dX8_paste_23 hl (by decide) rfl (fun ls hl => ?_)
        refine lv_aload_n hE.1 hE.2.1 dX8_paste_25 rfl (lv_at hl 1 rfl) ?_
        refine x_get (x := .ref (ad 65)) hE hK hP 0 (by decide) (xG_8 rfl) rfl hin8 8 (by decide) mw_488 rfl dX8_paste_26 ?_
        refine lv_iload_n hE.1 hE.2.1 dX8_paste_29 rfl (lv_at hl 4 rfl) ?_
        rcases slB_cases c_4 with rfl | rfl | rfl | rfl
        · skip
          refine x_aald (r := .ref (ad 67)) hE hK hP 65 4 (by decide) (xG_13 rfl) rfl (by unfold vp_in; decide) rfl dX8_paste_30 ?_
          refine lv_astore (lv' := [(7, .ref (ad 67)), (6, .ref (ad 73)), (0, .ref (ad 0)), (1, .int 3), (2, .int p2), (3, .int 0), (4, .int p4), (5, .int p5)]) hE.1 hE.2.1 dX8_paste_31 hl (by decide) rfl (fun ls hl => ?_)
          refine lv_aload hE.1 hE.2.1 dX8_paste_33 (lv_at hl 1 rfl) ?_
          refine x_get (x := .int (-1)) hE hK hP 73 (by decide) (xG_5 rfl) rfl hin5 2 (by decide) mw_451 rfl dX8_paste_35 ?_
          refine lv_if_lt (tgt := 49) hE.1 hE.2.1 dX8_paste_38 (by decide) (fun _ => ?_) (fun h => absurd (by decide) h)
          refine lv_bipush (v := (-6)) hE.1 hE.2.1 dX8_paste_49 (by decide) ?_
          exact x_ri (post := fun r => r = fPaste 3 0) hE hr hlo rfl (show ((-6) : Int32) = fPaste 3 0 from by decide) dX8_paste_51
        · skip
          refine x_aald (r := .ref (ad 69)) hE hK hP 65 4 (by decide) (xG_13 rfl) rfl (by unfold vp_in; decide) rfl dX8_paste_30 ?_
          refine lv_astore (lv' := [(7, .ref (ad 69)), (6, .ref (ad 73)), (0, .ref (ad 0)), (1, .int 3), (2, .int p2), (3, .int 1), (4, .int p4), (5, .int p5)]) hE.1 hE.2.1 dX8_paste_31 hl (by decide) rfl (fun ls hl => ?_)
          refine lv_aload hE.1 hE.2.1 dX8_paste_33 (lv_at hl 1 rfl) ?_
          refine x_get (x := .int (-1)) hE hK hP 73 (by decide) (xG_5 rfl) rfl hin5 2 (by decide) mw_451 rfl dX8_paste_35 ?_
          refine lv_if_lt (tgt := 49) hE.1 hE.2.1 dX8_paste_38 (by decide) (fun _ => ?_) (fun h => absurd (by decide) h)
          refine lv_bipush (v := (-6)) hE.1 hE.2.1 dX8_paste_49 (by decide) ?_
          exact x_ri (post := fun r => r = fPaste 3 1) hE hr hlo rfl (show ((-6) : Int32) = fPaste 3 1 from by decide) dX8_paste_51
        · skip
          refine x_aald (r := .ref (ad 71)) hE hK hP 65 4 (by decide) (xG_13 rfl) rfl (by unfold vp_in; decide) rfl dX8_paste_30 ?_
          refine lv_astore (lv' := [(7, .ref (ad 71)), (6, .ref (ad 73)), (0, .ref (ad 0)), (1, .int 3), (2, .int p2), (3, .int 2), (4, .int p4), (5, .int p5)]) hE.1 hE.2.1 dX8_paste_31 hl (by decide) rfl (fun ls hl => ?_)
          refine lv_aload hE.1 hE.2.1 dX8_paste_33 (lv_at hl 1 rfl) ?_
          refine x_get (x := .int (-1)) hE hK hP 73 (by decide) (xG_5 rfl) rfl hin5 2 (by decide) mw_451 rfl dX8_paste_35 ?_
          refine lv_if_lt (tgt := 49) hE.1 hE.2.1 dX8_paste_38 (by decide) (fun _ => ?_) (fun h => absurd (by decide) h)
          refine lv_bipush (v := (-6)) hE.1 hE.2.1 dX8_paste_49 (by decide) ?_
          exact x_ri (post := fun r => r = fPaste 3 2) hE hr hlo rfl (show ((-6) : Int32) = fPaste 3 2 from by decide) dX8_paste_51
        · skip
          refine x_aald (r := .ref (ad 73)) hE hK hP 65 4 (by decide) (xG_13 rfl) rfl (by unfold vp_in; decide) rfl dX8_paste_30 ?_
          refine lv_astore (lv' := [(7, .ref (ad 73)), (6, .ref (ad 73)), (0, .ref (ad 0)), (1, .int 3), (2, .int p2), (3, .int 3), (4, .int p4), (5, .int p5)]) hE.1 hE.2.1 dX8_paste_31 hl (by decide) rfl (fun ls hl => ?_)
          refine lv_aload hE.1 hE.2.1 dX8_paste_33 (lv_at hl 1 rfl) ?_
          refine x_get (x := .int (-1)) hE hK hP 73 (by decide) (xG_5 rfl) rfl hin5 2 (by decide) mw_451 rfl dX8_paste_35 ?_
          refine lv_if_lt (tgt := 49) hE.1 hE.2.1 dX8_paste_38 (by decide) (fun _ => ?_) (fun h => absurd (by decide) h)
          refine lv_bipush (v := (-6)) hE.1 hE.2.1 dX8_paste_49 (by decide) ?_
          exact x_ri (post := fun r => r = fPaste 3 3) hE hr hlo rfl (show ((-6) : Int32) = fPaste 3 3 from by decide) dX8_paste_51
    · skip
      refine lv_bipush (v := (-2)) hE.1 hE.2.1 dX8_paste_14 (by decide) ?_
      exact x_ri (post := fun r => r = fPaste p1 p3) hE hr hlo rfl (show ((-2) : Int32) = fPaste p1 p3 from (by unfold fPaste; rw [if_neg c_2, if_pos c_4])) dX8_paste_16

theorem dX5_begin_0 : decode cX5_begin 0 = .ok (.aload_n 0, 1) := by decide +kernel
theorem dX5_begin_1 : decode cX5_begin 1 = .ok (.iload_n 1, 1) := by decide +kernel
theorem dX5_begin_2 : decode cX5_begin 2 = .ok (.putfield 19, 3) := by decide +kernel
theorem dX5_begin_5 : decode cX5_begin 5 = .ok (.aload_n 0, 1) := by decide +kernel
theorem dX5_begin_6 : decode cX5_begin 6 = .ok (.iload_n 2, 1) := by decide +kernel
theorem dX5_begin_7 : decode cX5_begin 7 = .ok (.putfield 15, 3) := by decide +kernel
theorem dX5_begin_10 : decode cX5_begin 10 = .ok (.aload_n 0, 1) := by decide +kernel
theorem dX5_begin_11 : decode cX5_begin 11 = .ok (.getfield 9, 3) := by decide +kernel
theorem dX5_begin_14 : decode cX5_begin 14 = .ok (.lconst 0, 1) := by decide +kernel
theorem dX5_begin_15 : decode cX5_begin 15 = .ok (.invokestatic 22, 3) := by decide +kernel
theorem dX5_begin_18 : decode cX5_begin 18 = .ok (.return_, 1) := by decide +kernel
set_option maxHeartbeats 4000000 in
set_option maxRecDepth 100000 in
theorem k_X5_begin_67 (l : Launch) (D : va_G) (K : Nat → ClassId) (ad : Nat → Nat) (mm : Option Nat) (v ar : sI) (al : sL) (p1 : Int32) (p2 : Int32) : Met l yX5_begin (wM yX5_begin cX5_begin 3 none) (rmD 1) (va_Pc [.ref (ad 67), .int p1, .int p2] (wPre D K ad (xG ad K mm) 132 v ar al)) (va_Qv (fun u : sT => (∀ i j : Nat, (i, j) ∉ ([(67, 1), (67, 2)] : List (Nat × Nat)) → u.1 i j = v i j)) (wB D ad (xG ad K mm) 132) (inW ad 132)) 0 0 (inW ad 132) := by
  refine x_met (by decide) (Nat.le_of_ble_eq_true rfl) ?_
  intro p e s m below meth c ls hE hr hlo hnm hB hl
  have hE : CallFix p m c cX5_begin 3 s _ tbG "TaleCourt$Row" := hE
  obtain ⟨hP, hK, hN⟩ := hB
  have hS : va_S (inW ad 132) s.heap s.heap [] := va_S.rf
  have hl : lv_has ls 3 [(0, .ref (ad 67)), (1, .int p1), (2, .int p2)] := hl
  refine lv_aload_n hE.1 hE.2.1 dX5_begin_0 rfl (lv_at hl 0 rfl) ?_
  refine lv_iload_n hE.1 hE.2.1 dX5_begin_1 rfl (lv_at hl 1 rfl) ?_
  refine x_put hE hK hN hP hS 67 (by decide) (xG_5 rfl) rfl hin5 tyX5 tyX5_ok nmX5 1 (by decide) mw_447 rfl rfl rfl (Nat.le_of_ble_eq_true rfl) (xG_5 rfl) dX5_begin_2 (fun v_1 H locs hv_1 hP hS => ?_)
  refine lv_aload_n hE.1 hE.2.1 dX5_begin_5 rfl (lv_at hl 0 rfl) ?_
  refine lv_iload_n hE.1 hE.2.1 dX5_begin_6 rfl (lv_at hl 2 rfl) ?_
  refine x_put hE hK hN hP hS 67 (by decide) (xG_5 rfl) rfl hin5 tyX5 tyX5_ok nmX5 2 (by decide) mw_449 rfl rfl rfl (Nat.le_of_ble_eq_true rfl) (xG_5 rfl) dX5_begin_7 (fun v_2 H locs hv_2 hP hS => ?_)
  refine lv_aload_n hE.1 hE.2.1 dX5_begin_10 rfl (lv_at hl 0 rfl) ?_
  refine x_get (x := .ref (ad 68)) hE hK hP 67 (by decide) (xG_5 rfl) rfl hin5 0 (by decide) mw_445 rfl dX5_begin_11 ?_
  refine lv_lconst (v := 0) hE.1 hE.2.1 dX5_begin_14 (by decide) ?_
  refine x_sv (nn := 2) (As := [.ref (ad 68), .long 0]) (rest := []) hE hK hN hP hS (k_fillL l D K ad v_2 ar al 68 60 (by decide) (fun _ => xG_11 rfl) (Nat.le_of_ble_eq_true rfl) 0) rfl mw_1307 mw_1308 mw_124 mw_1309 (by decide +kernel) ⟨by decide, by decide⟩ hl.1 rfl (Nat.le_of_ble_eq_true rfl) ⟨Nat.zero_le _, Nat.zero_le _⟩ dX5_begin_15 (fun v_3 ar_3 al_3 H locs hq_3 hP hS => ?_)
  have hv_3 : v_3 = v_2 := hq_3.1
  rw [hv_3] at hP
  exact x_wv hE hr hlo hP hS (fun i j h => ((up_oth hv_2 (fun q => h (by rcases q with ⟨rfl, rfl⟩; decide))).trans (up_oth hv_1 (fun q => h (by rcases q with ⟨rfl, rfl⟩; decide))))) dX5_begin_18

set_option maxHeartbeats 4000000 in
set_option maxRecDepth 100000 in
theorem k_X5_begin_69 (l : Launch) (D : va_G) (K : Nat → ClassId) (ad : Nat → Nat) (mm : Option Nat) (v ar : sI) (al : sL) (p1 : Int32) (p2 : Int32) : Met l yX5_begin (wM yX5_begin cX5_begin 3 none) (rmD 1) (va_Pc [.ref (ad 69), .int p1, .int p2] (wPre D K ad (xG ad K mm) 132 v ar al)) (va_Qv (fun u : sT => (∀ i j : Nat, (i, j) ∉ ([(69, 1), (69, 2)] : List (Nat × Nat)) → u.1 i j = v i j)) (wB D ad (xG ad K mm) 132) (inW ad 132)) 0 0 (inW ad 132) := by
  refine x_met (by decide) (Nat.le_of_ble_eq_true rfl) ?_
  intro p e s m below meth c ls hE hr hlo hnm hB hl
  have hE : CallFix p m c cX5_begin 3 s _ tbG "TaleCourt$Row" := hE
  obtain ⟨hP, hK, hN⟩ := hB
  have hS : va_S (inW ad 132) s.heap s.heap [] := va_S.rf
  have hl : lv_has ls 3 [(0, .ref (ad 69)), (1, .int p1), (2, .int p2)] := hl
  refine lv_aload_n hE.1 hE.2.1 dX5_begin_0 rfl (lv_at hl 0 rfl) ?_
  refine lv_iload_n hE.1 hE.2.1 dX5_begin_1 rfl (lv_at hl 1 rfl) ?_
  refine x_put hE hK hN hP hS 69 (by decide) (xG_5 rfl) rfl hin5 tyX5 tyX5_ok nmX5 1 (by decide) mw_447 rfl rfl rfl (Nat.le_of_ble_eq_true rfl) (xG_5 rfl) dX5_begin_2 (fun v_1 H locs hv_1 hP hS => ?_)
  refine lv_aload_n hE.1 hE.2.1 dX5_begin_5 rfl (lv_at hl 0 rfl) ?_
  refine lv_iload_n hE.1 hE.2.1 dX5_begin_6 rfl (lv_at hl 2 rfl) ?_
  refine x_put hE hK hN hP hS 69 (by decide) (xG_5 rfl) rfl hin5 tyX5 tyX5_ok nmX5 2 (by decide) mw_449 rfl rfl rfl (Nat.le_of_ble_eq_true rfl) (xG_5 rfl) dX5_begin_7 (fun v_2 H locs hv_2 hP hS => ?_)
  refine lv_aload_n hE.1 hE.2.1 dX5_begin_10 rfl (lv_at hl 0 rfl) ?_
  refine x_get (x := .ref (ad 70)) hE hK hP 69 (by decide) (xG_5 rfl) rfl hin5 0 (by decide) mw_445 rfl dX5_begin_11 ?_
  refine lv_lconst (v := 0) hE.1 hE.2.1 dX5_begin_14 (by decide) ?_
  refine x_sv (nn := 2) (As := [.ref (ad 70), .long 0]) (rest := []) hE hK hN hP hS (k_fillL l D K ad v_2 ar al 70 60 (by decide) (fun _ => xG_11 rfl) (Nat.le_of_ble_eq_true rfl) 0) rfl mw_1307 mw_1308 mw_124 mw_1309 (by decide +kernel) ⟨by decide, by decide⟩ hl.1 rfl (Nat.le_of_ble_eq_true rfl) ⟨Nat.zero_le _, Nat.zero_le _⟩ dX5_begin_15 (fun v_3 ar_3 al_3 H locs hq_3 hP hS => ?_)
  have hv_3 : v_3 = v_2 := hq_3.1
  rw [hv_3] at hP
  exact x_wv hE hr hlo hP hS (fun i j h => ((up_oth hv_2 (fun q => h (by rcases q with ⟨rfl, rfl⟩; decide))).trans (up_oth hv_1 (fun q => h (by rcases q with ⟨rfl, rfl⟩; decide))))) dX5_begin_18

set_option maxHeartbeats 4000000 in
set_option maxRecDepth 100000 in
theorem k_X5_begin_71 (l : Launch) (D : va_G) (K : Nat → ClassId) (ad : Nat → Nat) (mm : Option Nat) (v ar : sI) (al : sL) (p1 : Int32) (p2 : Int32) : Met l yX5_begin (wM yX5_begin cX5_begin 3 none) (rmD 1) (va_Pc [.ref (ad 71), .int p1, .int p2] (wPre D K ad (xG ad K mm) 132 v ar al)) (va_Qv (fun u : sT => (∀ i j : Nat, (i, j) ∉ ([(71, 1), (71, 2)] : List (Nat × Nat)) → u.1 i j = v i j)) (wB D ad (xG ad K mm) 132) (inW ad 132)) 0 0 (inW ad 132) := by
  refine x_met (by decide) (Nat.le_of_ble_eq_true rfl) ?_
  intro p e s m below meth c ls hE hr hlo hnm hB hl
  have hE : CallFix p m c cX5_begin 3 s _ tbG "TaleCourt$Row" := hE
  obtain ⟨hP, hK, hN⟩ := hB
  have hS : va_S (inW ad 132) s.heap s.heap [] := va_S.rf
  have hl : lv_has ls 3 [(0, .ref (ad 71)), (1, .int p1), (2, .int p2)] := hl
  refine lv_aload_n hE.1 hE.2.1 dX5_begin_0 rfl (lv_at hl 0 rfl) ?_
  refine lv_iload_n hE.1 hE.2.1 dX5_begin_1 rfl (lv_at hl 1 rfl) ?_
  refine x_put hE hK hN hP hS 71 (by decide) (xG_5 rfl) rfl hin5 tyX5 tyX5_ok nmX5 1 (by decide) mw_447 rfl rfl rfl (Nat.le_of_ble_eq_true rfl) (xG_5 rfl) dX5_begin_2 (fun v_1 H locs hv_1 hP hS => ?_)
  refine lv_aload_n hE.1 hE.2.1 dX5_begin_5 rfl (lv_at hl 0 rfl) ?_
  refine lv_iload_n hE.1 hE.2.1 dX5_begin_6 rfl (lv_at hl 2 rfl) ?_
  refine x_put hE hK hN hP hS 71 (by decide) (xG_5 rfl) rfl hin5 tyX5 tyX5_ok nmX5 2 (by decide) mw_449 rfl rfl rfl (Nat.le_of_ble_eq_true rfl) (xG_5 rfl) dX5_begin_7 (fun v_2 H locs hv_2 hP hS => ?_)
  refine lv_aload_n hE.1 hE.2.1 dX5_begin_10 rfl (lv_at hl 0 rfl) ?_
  refine x_get (x := .ref (ad 72)) hE hK hP 71 (by decide) (xG_5 rfl) rfl hin5 0 (by decide) mw_445 rfl dX5_begin_11 ?_
  refine lv_lconst (v := 0) hE.1 hE.2.1 dX5_begin_14 (by decide) ?_
  refine x_sv (nn := 2) (As := [.ref (ad 72), .long 0]) (rest := []) hE hK hN hP hS (k_fillL l D K ad v_2 ar al 72 60 (by decide) (fun _ => xG_11 rfl) (Nat.le_of_ble_eq_true rfl) 0) rfl mw_1307 mw_1308 mw_124 mw_1309 (by decide +kernel) ⟨by decide, by decide⟩ hl.1 rfl (Nat.le_of_ble_eq_true rfl) ⟨Nat.zero_le _, Nat.zero_le _⟩ dX5_begin_15 (fun v_3 ar_3 al_3 H locs hq_3 hP hS => ?_)
  have hv_3 : v_3 = v_2 := hq_3.1
  rw [hv_3] at hP
  exact x_wv hE hr hlo hP hS (fun i j h => ((up_oth hv_2 (fun q => h (by rcases q with ⟨rfl, rfl⟩; decide))).trans (up_oth hv_1 (fun q => h (by rcases q with ⟨rfl, rfl⟩; decide))))) dX5_begin_18

set_option maxHeartbeats 4000000 in
set_option maxRecDepth 100000 in
theorem k_X5_begin_73 (l : Launch) (D : va_G) (K : Nat → ClassId) (ad : Nat → Nat) (mm : Option Nat) (v ar : sI) (al : sL) (p1 : Int32) (p2 : Int32) : Met l yX5_begin (wM yX5_begin cX5_begin 3 none) (rmD 1) (va_Pc [.ref (ad 73), .int p1, .int p2] (wPre D K ad (xG ad K mm) 132 v ar al)) (va_Qv (fun u : sT => (∀ i j : Nat, (i, j) ∉ ([(73, 1), (73, 2)] : List (Nat × Nat)) → u.1 i j = v i j)) (wB D ad (xG ad K mm) 132) (inW ad 132)) 0 0 (inW ad 132) := by
  refine x_met (by decide) (Nat.le_of_ble_eq_true rfl) ?_
  intro p e s m below meth c ls hE hr hlo hnm hB hl
  have hE : CallFix p m c cX5_begin 3 s _ tbG "TaleCourt$Row" := hE
  obtain ⟨hP, hK, hN⟩ := hB
  have hS : va_S (inW ad 132) s.heap s.heap [] := va_S.rf
  have hl : lv_has ls 3 [(0, .ref (ad 73)), (1, .int p1), (2, .int p2)] := hl
  refine lv_aload_n hE.1 hE.2.1 dX5_begin_0 rfl (lv_at hl 0 rfl) ?_
  refine lv_iload_n hE.1 hE.2.1 dX5_begin_1 rfl (lv_at hl 1 rfl) ?_
  refine x_put hE hK hN hP hS 73 (by decide) (xG_5 rfl) rfl hin5 tyX5 tyX5_ok nmX5 1 (by decide) mw_447 rfl rfl rfl (Nat.le_of_ble_eq_true rfl) (xG_5 rfl) dX5_begin_2 (fun v_1 H locs hv_1 hP hS => ?_)
  refine lv_aload_n hE.1 hE.2.1 dX5_begin_5 rfl (lv_at hl 0 rfl) ?_
  refine lv_iload_n hE.1 hE.2.1 dX5_begin_6 rfl (lv_at hl 2 rfl) ?_
  refine x_put hE hK hN hP hS 73 (by decide) (xG_5 rfl) rfl hin5 tyX5 tyX5_ok nmX5 2 (by decide) mw_449 rfl rfl rfl (Nat.le_of_ble_eq_true rfl) (xG_5 rfl) dX5_begin_7 (fun v_2 H locs hv_2 hP hS => ?_)
  refine lv_aload_n hE.1 hE.2.1 dX5_begin_10 rfl (lv_at hl 0 rfl) ?_
  refine x_get (x := .ref (ad 74)) hE hK hP 73 (by decide) (xG_5 rfl) rfl hin5 0 (by decide) mw_445 rfl dX5_begin_11 ?_
  refine lv_lconst (v := 0) hE.1 hE.2.1 dX5_begin_14 (by decide) ?_
  refine x_sv (nn := 2) (As := [.ref (ad 74), .long 0]) (rest := []) hE hK hN hP hS (k_fillL l D K ad v_2 ar al 74 60 (by decide) (fun _ => xG_11 rfl) (Nat.le_of_ble_eq_true rfl) 0) rfl mw_1307 mw_1308 mw_124 mw_1309 (by decide +kernel) ⟨by decide, by decide⟩ hl.1 rfl (Nat.le_of_ble_eq_true rfl) ⟨Nat.zero_le _, Nat.zero_le _⟩ dX5_begin_15 (fun v_3 ar_3 al_3 H locs hq_3 hP hS => ?_)
  have hv_3 : v_3 = v_2 := hq_3.1
  rw [hv_3] at hP
  exact x_wv hE hr hlo hP hS (fun i j h => ((up_oth hv_2 (fun q => h (by rcases q with ⟨rfl, rfl⟩; decide))).trans (up_oth hv_1 (fun q => h (by rcases q with ⟨rfl, rfl⟩; decide))))) dX5_begin_18

theorem dX8_row_0 : decode cX8_row 0 = .ok (.iload_n 1, 1) := by decide +kernel
theorem dX8_row_1 : decode cX8_row 1 = .ok (.invokestatic 260, 3) := by decide +kernel
theorem dX8_row_4 : decode cX8_row 4 = .ok (.ifCond .eq 18, 3) := by decide +kernel
theorem dX8_row_7 : decode cX8_row 7 = .ok (.iload_n 2, 1) := by decide +kernel
theorem dX8_row_8 : decode cX8_row 8 = .ok (.ifCond .lt 14, 3) := by decide +kernel
theorem dX8_row_11 : decode cX8_row 11 = .ok (.iload_n 2, 1) := by decide +kernel
theorem dX8_row_12 : decode cX8_row 12 = .ok (.iconst 4, 1) := by decide +kernel
theorem dX8_row_13 : decode cX8_row 13 = .ok (.if_icmp .ge 9, 3) := by decide +kernel
theorem dX8_row_16 : decode cX8_row 16 = .ok (.iload_n 3, 1) := by decide +kernel
theorem dX8_row_17 : decode cX8_row 17 = .ok (.bipush 60, 2) := by decide +kernel
theorem dX8_row_19 : decode cX8_row 19 = .ok (.if_icmp .le 6, 3) := by decide +kernel
theorem dX8_row_22 : decode cX8_row 22 = .ok (.bipush (-2), 2) := by decide +kernel
theorem dX8_row_24 : decode cX8_row 24 = .ok (.ireturn, 1) := by decide +kernel
theorem dX8_row_25 : decode cX8_row 25 = .ok (.iload_n 3, 1) := by decide +kernel
theorem dX8_row_26 : decode cX8_row 26 = .ok (.ifCond .ge 6, 3) := by decide +kernel
theorem dX8_row_29 : decode cX8_row 29 = .ok (.bipush (-3), 2) := by decide +kernel
theorem dX8_row_31 : decode cX8_row 31 = .ok (.ireturn, 1) := by decide +kernel
theorem dX8_row_32 : decode cX8_row 32 = .ok (.aload_n 0, 1) := by decide +kernel
theorem dX8_row_33 : decode cX8_row 33 = .ok (.getfield 63, 3) := by decide +kernel
theorem dX8_row_36 : decode cX8_row 36 = .ok (.iload_n 1, 1) := by decide +kernel
theorem dX8_row_37 : decode cX8_row 37 = .ok (.aaload, 1) := by decide +kernel
theorem dX8_row_38 : decode cX8_row 38 = .ok (.iload_n 2, 1) := by decide +kernel
theorem dX8_row_39 : decode cX8_row 39 = .ok (.iload_n 3, 1) := by decide +kernel
theorem dX8_row_40 : decode cX8_row 40 = .ok (.invokevirtual 367, 3) := by decide +kernel
theorem dX8_row_43 : decode cX8_row 43 = .ok (.iconst 0, 1) := by decide +kernel
theorem dX8_row_44 : decode cX8_row 44 = .ok (.ireturn, 1) := by decide +kernel
set_option maxHeartbeats 4000000 in
set_option maxRecDepth 100000 in
theorem k_X8_row (l : Launch) (D : va_G) (K : Nat → ClassId) (ad : Nat → Nat) (mm : Option Nat) (p1 : Int32) (p2 : Int32) (p3 : Int32) : Met l yX8_row (wM yX8_row cX8_row 4 (some .int)) (rmD 2) (va_Pc [.ref (ad 0), .int p1, .int p2, .int p3] (wPre D K ad (xG ad K mm) 132 xv0 xa0 xl0)) (va_Qi (fun (r : Int32) (_ : sT) => r = fRow p1 p2 p3) (wB D ad (xG ad K mm) 132) (inW ad 132)) 0 0 (inW ad 132) := by
  refine x_met (by decide) (Nat.le_of_ble_eq_true rfl) ?_
  intro p e s m below meth c ls hE hr hlo hnm hB hl
  have hE : CallFix p m c cX8_row 4 s _ tbG "TaleCourt" := hE
  obtain ⟨hP, hK, hN⟩ := hB
  have hS : va_S (inW ad 132) s.heap s.heap [] := va_S.rf
  have hl : lv_has ls 4 [(0, .ref (ad 0)), (1, .int p1), (2, .int p2), (3, .int p3)] := hl
  refine lv_iload_n hE.1 hE.2.1 dX8_row_0 rfl (lv_at hl 1 rfl) ?_
  refine x_sp (nn := 1) (As := [.int p1]) (rest := []) hE (k_X8_isSlot l p1) tt_blind (fun _ _ _ => trivial) rfl mw_1134 mw_1135 mw_114 mw_1136 (by decide +kernel) ⟨by decide, by decide⟩ hl.1 rfl (Nat.le_of_ble_eq_true rfl) ⟨Nat.zero_le _, Nat.zero_le _⟩ dX8_row_1 (fun r_1 hr_1 => ?_)
  subst hr_1
  refine lv_if_eq (tgt := 22) hE.1 hE.2.1 dX8_row_4 (by decide) (fun c_2 => ?_) (fun c_2 => ?_)
  · skip
    refine lv_bipush (v := (-2)) hE.1 hE.2.1 dX8_row_22 (by decide) ?_
    exact x_wi (post := fun r _ => r = fRow p1 p2 p3) hE hr hlo hP hS rfl (show ((-2) : Int32) = fRow p1 p2 p3 from (by unfold fRow; rw [if_pos c_2])) dX8_row_24
  · skip
    refine lv_iload_n hE.1 hE.2.1 dX8_row_7 rfl (lv_at hl 2 rfl) ?_
    refine lv_if_lt (tgt := 22) hE.1 hE.2.1 dX8_row_8 (by decide) (fun c_3 => ?_) (fun c_3 => ?_)
    · skip
      refine lv_bipush (v := (-2)) hE.1 hE.2.1 dX8_row_22 (by decide) ?_
      exact x_wi (post := fun r _ => r = fRow p1 p2 p3) hE hr hlo hP hS rfl (show ((-2) : Int32) = fRow p1 p2 p3 from (by unfold fRow; rw [if_neg c_2, if_pos (slB_neg c_3)])) dX8_row_24
    · skip
      refine lv_iload_n hE.1 hE.2.1 dX8_row_11 rfl (lv_at hl 2 rfl) ?_
      refine lv_iconst (v := 4) hE.1 hE.2.1 dX8_row_12 (by decide) ?_
      refine lv_icmp_ge (tgt := 22) hE.1 hE.2.1 dX8_row_13 (by decide) (fun c_4 => ?_) (fun c_4 => ?_)
      · skip
        refine lv_bipush (v := (-2)) hE.1 hE.2.1 dX8_row_22 (by decide) ?_
        exact x_wi (post := fun r _ => r = fRow p1 p2 p3) hE hr hlo hP hS rfl (show ((-2) : Int32) = fRow p1 p2 p3 from (by unfold fRow; rw [if_neg c_2, if_pos (slB_big c_4)])) dX8_row_24
      · skip
        refine lv_iload_n hE.1 hE.2.1 dX8_row_16 rfl (lv_at hl 3 rfl) ?_
        refine lv_bipush (v := 60) hE.1 hE.2.1 dX8_row_17 (by decide) ?_
        refine lv_icmp_le (tgt := 25) hE.1 hE.2.1 dX8_row_19 (by decide) (fun c_5 => ?_) (fun c_5 => ?_)
        · skip
          refine lv_iload_n hE.1 hE.2.1 dX8_row_25 rfl (lv_at hl 3 rfl) ?_
          refine lv_if_ge (tgt := 32) hE.1 hE.2.1 dX8_row_26 (by decide) (fun c_6 => ?_) (fun c_6 => ?_)
          · skip
            refine lv_aload_n hE.1 hE.2.1 dX8_row_32 rfl (lv_at hl 0 rfl) ?_
            refine x_get (x := .ref (ad 65)) hE hK hP 0 (by decide) (xG_8 rfl) rfl hin8 8 (by decide) mw_488 rfl dX8_row_33 ?_
            refine lv_iload_n hE.1 hE.2.1 dX8_row_36 rfl (lv_at hl 1 rfl) ?_
            rcases slB_cases c_2 with rfl | rfl | rfl | rfl
            · skip
              refine x_aald (r := .ref (ad 67)) hE hK hP 65 4 (by decide) (xG_13 rfl) rfl (by unfold vp_in; decide) rfl dX8_row_37 ?_
              refine lv_iload_n hE.1 hE.2.1 dX8_row_38 rfl (lv_at hl 2 rfl) ?_
              refine lv_iload_n hE.1 hE.2.1 dX8_row_39 rfl (lv_at hl 3 rfl) ?_
              refine x_vv (nn := 2) (As := [.int p2, .int p3]) (rest := []) hE hK hN hP hS (k_X5_begin_67 l D K ad mm xv0 xa0 xl0  p2 p3) (x_recv hK hP 67 (by decide) (xG_5 rfl) rfl) rfl mw_1303 mw_1304 mw_1305 mw_121 mw_1306 (by decide +kernel) ⟨by decide, by decide⟩ hl.1 rfl (Nat.le_of_ble_eq_true rfl) ⟨Nat.zero_le _, Nat.zero_le _⟩ dX8_row_40 (fun v_7 ar_7 al_7 H locs hq_7 hP hS => ?_)
              have hq_7 : _ ∧ True := ⟨hq_7, trivial⟩
              refine lv_iconst (v := 0) hE.1 hE.2.1 dX8_row_43 (by decide) ?_
              exact x_wi (post := fun r _ => r = fRow 0 p2 p3) hE hr hlo hP hS rfl (show (0 : Int32) = fRow 0 p2 p3 from (by unfold fRow; rw [if_neg c_2, if_neg (slB_in c_3 c_4), if_pos c_5, if_neg (k2_nlt c_6)])) dX8_row_44
            · skip
              refine x_aald (r := .ref (ad 69)) hE hK hP 65 4 (by decide) (xG_13 rfl) rfl (by unfold vp_in; decide) rfl dX8_row_37 ?_
              refine lv_iload_n hE.1 hE.2.1 dX8_row_38 rfl (lv_at hl 2 rfl) ?_
              refine lv_iload_n hE.1 hE.2.1 dX8_row_39 rfl (lv_at hl 3 rfl) ?_
              refine x_vv (nn := 2) (As := [.int p2, .int p3]) (rest := []) hE hK hN hP hS (k_X5_begin_69 l D K ad mm xv0 xa0 xl0  p2 p3) (x_recv hK hP 69 (by decide) (xG_5 rfl) rfl) rfl mw_1303 mw_1304 mw_1305 mw_121 mw_1306 (by decide +kernel) ⟨by decide, by decide⟩ hl.1 rfl (Nat.le_of_ble_eq_true rfl) ⟨Nat.zero_le _, Nat.zero_le _⟩ dX8_row_40 (fun v_7 ar_7 al_7 H locs hq_7 hP hS => ?_)
              have hq_7 : _ ∧ True := ⟨hq_7, trivial⟩
              refine lv_iconst (v := 0) hE.1 hE.2.1 dX8_row_43 (by decide) ?_
              exact x_wi (post := fun r _ => r = fRow 1 p2 p3) hE hr hlo hP hS rfl (show (0 : Int32) = fRow 1 p2 p3 from (by unfold fRow; rw [if_neg c_2, if_neg (slB_in c_3 c_4), if_pos c_5, if_neg (k2_nlt c_6)])) dX8_row_44
            · skip
              refine x_aald (r := .ref (ad 71)) hE hK hP 65 4 (by decide) (xG_13 rfl) rfl (by unfold vp_in; decide) rfl dX8_row_37 ?_
              refine lv_iload_n hE.1 hE.2.1 dX8_row_38 rfl (lv_at hl 2 rfl) ?_
              refine lv_iload_n hE.1 hE.2.1 dX8_row_39 rfl (lv_at hl 3 rfl) ?_
              refine x_vv (nn := 2) (As := [.int p2, .int p3]) (rest := []) hE hK hN hP hS (k_X5_begin_71 l D K ad mm xv0 xa0 xl0  p2 p3) (x_recv hK hP 71 (by decide) (xG_5 rfl) rfl) rfl mw_1303 mw_1304 mw_1305 mw_121 mw_1306 (by decide +kernel) ⟨by decide, by decide⟩ hl.1 rfl (Nat.le_of_ble_eq_true rfl) ⟨Nat.zero_le _, Nat.zero_le _⟩ dX8_row_40 (fun v_7 ar_7 al_7 H locs hq_7 hP hS => ?_)
              have hq_7 : _ ∧ True := ⟨hq_7, trivial⟩
              refine lv_iconst (v := 0) hE.1 hE.2.1 dX8_row_43 (by decide) ?_
              exact x_wi (post := fun r _ => r = fRow 2 p2 p3) hE hr hlo hP hS rfl (show (0 : Int32) = fRow 2 p2 p3 from (by unfold fRow; rw [if_neg c_2, if_neg (slB_in c_3 c_4), if_pos c_5, if_neg (k2_nlt c_6)])) dX8_row_44
            · skip
              refine x_aald (r := .ref (ad 73)) hE hK hP 65 4 (by decide) (xG_13 rfl) rfl (by unfold vp_in; decide) rfl dX8_row_37 ?_
              refine lv_iload_n hE.1 hE.2.1 dX8_row_38 rfl (lv_at hl 2 rfl) ?_
              refine lv_iload_n hE.1 hE.2.1 dX8_row_39 rfl (lv_at hl 3 rfl) ?_
              refine x_vv (nn := 2) (As := [.int p2, .int p3]) (rest := []) hE hK hN hP hS (k_X5_begin_73 l D K ad mm xv0 xa0 xl0  p2 p3) (x_recv hK hP 73 (by decide) (xG_5 rfl) rfl) rfl mw_1303 mw_1304 mw_1305 mw_121 mw_1306 (by decide +kernel) ⟨by decide, by decide⟩ hl.1 rfl (Nat.le_of_ble_eq_true rfl) ⟨Nat.zero_le _, Nat.zero_le _⟩ dX8_row_40 (fun v_7 ar_7 al_7 H locs hq_7 hP hS => ?_)
              have hq_7 : _ ∧ True := ⟨hq_7, trivial⟩
              refine lv_iconst (v := 0) hE.1 hE.2.1 dX8_row_43 (by decide) ?_
              exact x_wi (post := fun r _ => r = fRow 3 p2 p3) hE hr hlo hP hS rfl (show (0 : Int32) = fRow 3 p2 p3 from (by unfold fRow; rw [if_neg c_2, if_neg (slB_in c_3 c_4), if_pos c_5, if_neg (k2_nlt c_6)])) dX8_row_44
          · skip
            refine lv_bipush (v := (-3)) hE.1 hE.2.1 dX8_row_29 (by decide) ?_
            exact x_wi (post := fun r _ => r = fRow p1 p2 p3) hE hr hlo hP hS rfl (show ((-3) : Int32) = fRow p1 p2 p3 from (by unfold fRow; rw [if_neg c_2, if_neg (slB_in c_3 c_4), if_pos c_5, if_pos (k2_lt c_6)])) dX8_row_31
        · skip
          refine lv_bipush (v := (-2)) hE.1 hE.2.1 dX8_row_22 (by decide) ?_
          exact x_wi (post := fun r _ => r = fRow p1 p2 p3) hE hr hlo hP hS rfl (show ((-2) : Int32) = fRow p1 p2 p3 from (by unfold fRow; rw [if_neg c_2, if_neg (slB_in c_3 c_4), if_neg c_5])) dX8_row_24
