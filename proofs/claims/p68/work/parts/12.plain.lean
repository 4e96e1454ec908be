theorem dX4_append_0 : decode cX4_append 0 = .ok (.aload_n 0, 1) := by decide +kernel
theorem dX4_append_1 : decode cX4_append 1 = .ok (.getfield 19, 3) := by decide +kernel
theorem dX4_append_4 : decode cX4_append 4 = .ok (.iconst 4, 1) := by decide +kernel
theorem dX4_append_5 : decode cX4_append 5 = .ok (.iadd, 1) := by decide +kernel
theorem dX4_append_6 : decode cX4_append 6 = .ok (.sipush 1600, 3) := by decide +kernel
theorem dX4_append_9 : decode cX4_append 9 = .ok (.if_icmp .gt 10, 3) := by decide +kernel
theorem dX4_append_12 : decode cX4_append 12 = .ok (.aload_n 0, 1) := by decide +kernel
theorem dX4_append_13 : decode cX4_append 13 = .ok (.getfield 19, 3) := by decide +kernel
theorem dX4_append_16 : decode cX4_append 16 = .ok (.ifCond .ge 4, 3) := by decide +kernel
theorem dX4_append_19 : decode cX4_append 19 = .ok (.return_, 1) := by decide +kernel
theorem dX4_append_20 : decode cX4_append 20 = .ok (.bipush 24, 2) := by decide +kernel
theorem dX4_append_22 : decode cX4_append 22 = .ok (.istore_n 2, 1) := by decide +kernel
theorem dX4_append_23 : decode cX4_append 23 = .ok (.iload_n 2, 1) := by decide +kernel
theorem dX4_append_24 : decode cX4_append 24 = .ok (.ifCond .lt 32, 3) := by decide +kernel
theorem dX4_append_27 : decode cX4_append 27 = .ok (.aload_n 0, 1) := by decide +kernel
theorem dX4_append_28 : decode cX4_append 28 = .ok (.getfield 15, 3) := by decide +kernel
theorem dX4_append_31 : decode cX4_append 31 = .ok (.aload_n 0, 1) := by decide +kernel
theorem dX4_append_32 : decode cX4_append 32 = .ok (.getfield 19, 3) := by decide +kernel
theorem dX4_append_35 : decode cX4_append 35 = .ok (.iload_n 1, 1) := by decide +kernel
theorem dX4_append_36 : decode cX4_append 36 = .ok (.iload_n 2, 1) := by decide +kernel
theorem dX4_append_37 : decode cX4_append 37 = .ok (.ishr, 1) := by decide +kernel
theorem dX4_append_38 : decode cX4_append 38 = .ok (.i2b, 1) := by decide +kernel
theorem dX4_append_39 : decode cX4_append 39 = .ok (.bastore, 1) := by decide +kernel
theorem dX4_append_40 : decode cX4_append 40 = .ok (.aload_n 0, 1) := by decide +kernel
theorem dX4_append_41 : decode cX4_append 41 = .ok (.dup, 1) := by decide +kernel
theorem dX4_append_42 : decode cX4_append 42 = .ok (.getfield 19, 3) := by decide +kernel
theorem dX4_append_45 : decode cX4_append 45 = .ok (.iconst 1, 1) := by decide +kernel
theorem dX4_append_46 : decode cX4_append 46 = .ok (.iadd, 1) := by decide +kernel
theorem dX4_append_47 : decode cX4_append 47 = .ok (.putfield 19, 3) := by decide +kernel
theorem dX4_append_50 : decode cX4_append 50 = .ok (.iinc 2 (-8), 3) := by decide +kernel
theorem dX4_append_53 : decode cX4_append 53 = .ok (.goto (-30), 3) := by decide +kernel
theorem dX4_append_56 : decode cX4_append 56 = .ok (.return_, 1) := by decide +kernel
set_option maxHeartbeats 4000000 in
set_option maxRecDepth 100000 in
theorem s_X4_append_1 (l : Launch) (D : va_G) (K : Nat → ClassId) (ad : Nat → Nat) (mm : Option Nat) (N : Nat) (hNN : 132 ≤ N) (v ar : sI) (al : sL) (hI : XI v) (z_1 : Int) (hz_1 : -2147483648 ≤ z_1 ∧ z_1 ≤ 2147483647) : Met l yX4_append (wM yX4_append cX4_append 3 none) (rmD 0) (va_Pc [.ref (ad 1), .int (iI (z_1))] (wPre D K ad (xG ad K mm) N v ar al)) (va_Qv (fun u : sT => XI u.1 ∧ (∀ i j : Nat, (i, j) ∉ ([(1, 0)] : List (Nat × Nat)) → u.1 i j = v i j)) (wB D ad (xG ad K mm) N) (inW ad N)) 0 0 (inW ad N) := by
  refine s_metV (by decide) (Nat.le_of_ble_eq_true rfl) ?_
  intro p e s m below meth c ls args Q hE hB hl kr
  have hE : CallFix p m c cX4_append 3 s args tbG "TaleCourt$Reader" := hE
  obtain ⟨hP, hK, hN⟩ := hB
  have hS : va_S (inW ad N) s.heap s.heap [] := va_S.rf
  have hl : lv_has ls 3 [(0, .ref (ad 1)), (1, .int (iI (z_1)))] := hl
  refine lv_aload_n hE.1 hE.2.1 dX4_append_0 rfl (lv_at hl 0 rfl) ?_
  obtain ⟨z1, hz1, ez1⟩ := XI_get hI 1 0 0 1600 (by decide)
  refine x_get (x := .int (v 1 0)) hE hK hP 1 (Nat.lt_of_lt_of_le (by decide) hNN) (xG_4 rfl) rfl hin4 0 (by decide) mw_146 rfl dX4_append_1 ?_
  refine x_top (y := iI (z1)) ez1 ?_
  refine lv_iconst (v := iI (4)) hE.1 hE.2.1 dX4_append_4 (by decide) ?_
  refine lv_iadd hE.1 hE.2.1 dX4_append_5 ?_
  refine x_top (y := iI (z1 + 4)) ((iI_add (z1) (4)).trans (congrArg iI (by omega))) ?_
  refine lv_sipush (v := iI (1600)) hE.1 hE.2.1 dX4_append_6 (by decide) ?_
  refine s_icmp_gt (a := z1 + 4) (b := 1600) (tgt := 19) hE.1 hE.2.1 (by omega) (by omega) dX4_append_9 (by decide) (fun c2 => ?_) (fun c2 => ?_)
  · skip
    exact kr _ _ _ _ _ _ _ ⟨hI, fun i j h => rfl⟩ hP hS dX4_append_19
  · skip
    refine lv_aload_n hE.1 hE.2.1 dX4_append_12 rfl (lv_at hl 0 rfl) ?_
    refine x_get (x := .int (v 1 0)) hE hK hP 1 (Nat.lt_of_lt_of_le (by decide) hNN) (xG_4 rfl) rfl hin4 0 (by decide) mw_146 rfl dX4_append_13 ?_
    refine x_top (y := iI (z1)) ez1 ?_
    refine s_if_ge (a := z1) (tgt := 20) hE.1 hE.2.1 (by omega) dX4_append_16 (by decide) (fun _ => ?_) (fun c3 => False.elim (by omega))
    refine lv_bipush (v := iI (24)) hE.1 hE.2.1 dX4_append_20 (by decide) ?_
    refine lv_istore_n (lv' := [(2, .int (iI (24))), (0, .ref (ad 1)), (1, .int (iI (z_1)))]) hE.1 hE.2.1 dX4_append_22 rfl hl (by decide) rfl (fun ls hl => ?_)
    refine lv_iload_n hE.1 hE.2.1 dX4_append_23 rfl (lv_at hl 0 rfl) ?_
    refine s_if_lt (a := 24) (tgt := 56) hE.1 hE.2.1 (by omega) dX4_append_24 (by decide) (fun c4 => False.elim (by omega)) (fun _ => ?_)
    refine lv_aload_n hE.1 hE.2.1 dX4_append_27 rfl (lv_at hl 1 rfl) ?_
    refine x_get (x := .ref (ad 2)) hE hK hP 1 (Nat.lt_of_lt_of_le (by decide) hNN) (xG_4 rfl) rfl hin4 3 (by decide) mw_152 rfl dX4_append_28 ?_
    refine lv_aload_n hE.1 hE.2.1 dX4_append_31 rfl (lv_at hl 1 rfl) ?_
    refine x_get (x := .int (v 1 0)) hE hK hP 1 (Nat.lt_of_lt_of_le (by decide) hNN) (xG_4 rfl) rfl hin4 0 (by decide) mw_146 rfl dX4_append_32 ?_
    refine x_top (y := iI (z1)) ez1 ?_
    refine lv_iload_n hE.1 hE.2.1 dX4_append_35 rfl (lv_at hl 2 rfl) ?_
    refine lv_iload_n hE.1 hE.2.1 dX4_append_36 rfl (lv_at hl 0 rfl) ?_
    refine lv_ishr hE.1 hE.2.1 dX4_append_37 ?_
    obtain ⟨z5, hz5, ez5⟩ := iI_of (iI (z_1) >>> (iI (24) &&& 31))
    refine x_top ez5 ?_
    obtain ⟨z6, hz6, ez6⟩ := iI_of ((iI (z5)).toInt8.toInt32)
    refine lv_i2b (v := iI (z6)) hE.1 hE.2.1 dX4_append_38 ez6 ?_
    refine x_bast (j := iI (z1)) hE hK hN hP hS 2 (Nat.lt_of_lt_of_le (by decide) hNN) (fun _ => xG_12 rfl) (iI_in (n := 1600) (by omega)) dX4_append_39 (fun ar7 H locs ha7 hP hS => ?_)
    refine lv_aload_n hE.1 hE.2.1 dX4_append_40 rfl (lv_at hl 1 rfl) ?_
    refine lv_dup hE.1 hE.2.1 dX4_append_41 rfl ?_
    refine x_get (x := .int (v 1 0)) hE hK hP 1 (Nat.lt_of_lt_of_le (by decide) hNN) (xG_4 rfl) rfl hin4 0 (by decide) mw_146 rfl dX4_append_42 ?_
    refine x_top (y := iI (z1)) ez1 ?_
    refine lv_iconst (v := iI (1)) hE.1 hE.2.1 dX4_append_45 (by decide) ?_
    refine lv_iadd hE.1 hE.2.1 dX4_append_46 ?_
    refine x_top (y := iI (z1 + 1)) ((iI_add (z1) (1)).trans (congrArg iI (by omega))) ?_
    refine x_put (x := iI (z1 + 1)) hE hK hN hP hS 1 (Nat.lt_of_lt_of_le (by decide) hNN) (xG_4 rfl) rfl hin4 tyX4 tyX4_ok nmX4 0 (by decide) mw_146 rfl rfl rfl (Nat.le_of_ble_eq_true rfl) (xG_4 rfl) dX4_append_47 (fun v8 H locs hv8 hP hS => ?_)
    have hI := XI_putB (z := z1 + 1) hI hv8 0 1600 (by omega) (by decide) (by omega)
    refine lv_iinc (v := iI (16)) (lv' := [(2, .int (iI (16))), (0, .ref (ad 1)), (1, .int (iI (z_1)))]) hE.1 hE.2.1 dX4_append_50 hl (k := 0) rfl ((iI_add (24) (-8)).trans (congrArg iI (by omega))) (by decide) rfl (fun ls hl => ?_)
    refine lv_goto (tgt := 23) hE.1 hE.2.1 dX4_append_53 (by decide) ?_
    refine lv_iload_n hE.1 hE.2.1 dX4_append_23 rfl (lv_at hl 0 rfl) ?_
    refine s_if_lt (a := 16) (tgt := 56) hE.1 hE.2.1 (by omega) dX4_append_24 (by decide) (fun c9 => False.elim (by omega)) (fun _ => ?_)
    refine lv_aload_n hE.1 hE.2.1 dX4_append_27 rfl (lv_at hl 1 rfl) ?_
    refine x_get (x := .ref (ad 2)) hE hK hP 1 (Nat.lt_of_lt_of_le (by decide) hNN) (xG_4 rfl) rfl hin4 3 (by decide) mw_152 rfl dX4_append_28 ?_
    refine lv_aload_n hE.1 hE.2.1 dX4_append_31 rfl (lv_at hl 1 rfl) ?_
    refine x_get (x := .int (v8 1 0)) hE hK hP 1 (Nat.lt_of_lt_of_le (by decide) hNN) (xG_4 rfl) rfl hin4 0 (by decide) mw_146 rfl dX4_append_32 ?_
    refine x_top (y := iI (z1 + 1)) (up_eq hv8) ?_
    refine lv_iload_n hE.1 hE.2.1 dX4_append_35 rfl (lv_at hl 2 rfl) ?_
    refine lv_iload_n hE.1 hE.2.1 dX4_append_36 rfl (lv_at hl 0 rfl) ?_
    refine lv_ishr hE.1 hE.2.1 dX4_append_37 ?_
    obtain ⟨z10, hz10, ez10⟩ := iI_of (iI (z_1) >>> (iI (16) &&& 31))
    refine x_top ez10 ?_
    obtain ⟨z11, hz11, ez11⟩ := iI_of ((iI (z10)).toInt8.toInt32)
    refine lv_i2b (v := iI (z11)) hE.1 hE.2.1 dX4_append_38 ez11 ?_
    refine x_bast (j := iI (z1 + 1)) hE hK hN hP hS 2 (Nat.lt_of_lt_of_le (by decide) hNN) (fun _ => xG_12 rfl) (iI_in (n := 1600) (by omega)) dX4_append_39 (fun ar12 H locs ha12 hP hS => ?_)
    refine lv_aload_n hE.1 hE.2.1 dX4_append_40 rfl (lv_at hl 1 rfl) ?_
    refine lv_dup hE.1 hE.2.1 dX4_append_41 rfl ?_
    refine x_get (x := .int (v8 1 0)) hE hK hP 1 (Nat.lt_of_lt_of_le (by decide) hNN) (xG_4 rfl) rfl hin4 0 (by decide) mw_146 rfl dX4_append_42 ?_
    refine x_top (y := iI (z1 + 1)) (up_eq hv8) ?_
    refine lv_iconst (v := iI (1)) hE.1 hE.2.1 dX4_append_45 (by decide) ?_
    refine lv_iadd hE.1 hE.2.1 dX4_append_46 ?_
    refine x_top (y := iI (z1 + 2)) ((iI_add (z1 + 1) (1)).trans (congrArg iI (by omega))) ?_
    refine x_put (x := iI (z1 + 2)) hE hK hN hP hS 1 (Nat.lt_of_lt_of_le (by decide) hNN) (xG_4 rfl) rfl hin4 tyX4 tyX4_ok nmX4 0 (by decide) mw_146 rfl rfl rfl (Nat.le_of_ble_eq_true rfl) (xG_4 rfl) dX4_append_47 (fun v13 H locs hv13 hP hS => ?_)
    have hI := XI_putB (z := z1 + 2) hI hv13 0 1600 (by omega) (by decide) (by omega)
    refine lv_iinc (v := iI (8)) (lv' := [(2, .int (iI (8))), (0, .ref (ad 1)), (1, .int (iI (z_1)))]) hE.1 hE.2.1 dX4_append_50 hl (k := 0) rfl ((iI_add (16) (-8)).trans (congrArg iI (by omega))) (by decide) rfl (fun ls hl => ?_)
    refine lv_goto (tgt := 23) hE.1 hE.2.1 dX4_append_53 (by decide) ?_
    refine lv_iload_n hE.1 hE.2.1 dX4_append_23 rfl (lv_at hl 0 rfl) ?_
    refine s_if_lt (a := 8) (tgt := 56) hE.1 hE.2.1 (by omega) dX4_append_24 (by decide) (fun c14 => False.elim (by omega)) (fun _ => ?_)
    refine lv_aload_n hE.1 hE.2.1 dX4_append_27 rfl (lv_at hl 1 rfl) ?_
    refine x_get (x := .ref (ad 2)) hE hK hP 1 (Nat.lt_of_lt_of_le (by decide) hNN) (xG_4 rfl) rfl hin4 3 (by decide) mw_152 rfl dX4_append_28 ?_
    refine lv_aload_n hE.1 hE.2.1 dX4_append_31 rfl (lv_at hl 1 rfl) ?_
    refine x_get (x := .int (v13 1 0)) hE hK hP 1 (Nat.lt_of_lt_of_le (by decide) hNN) (xG_4 rfl) rfl hin4 0 (by decide) mw_146 rfl dX4_append_32 ?_
    refine x_top (y := iI (z1 + 2)) (up_eq hv13) ?_
    refine lv_iload_n hE.1 hE.2.1 dX4_append_35 rfl (lv_at hl 2 rfl) ?_
    refine lv_iload_n hE.1 hE.2.1 dX4_append_36 rfl (lv_at hl 0 rfl) ?_
    refine lv_ishr hE.1 hE.2.1 dX4_append_37 ?_
    obtain ⟨z15, hz15, ez15⟩ := iI_of (iI (z_1) >>> (iI (8) &&& 31))
    refine x_top ez15 ?_
    obtain ⟨z16, hz16, ez16⟩ := iI_of ((iI (z15)).toInt8.toInt32)
    refine lv_i2b (v := iI (z16)) hE.1 hE.2.1 dX4_append_38 ez16 ?_
    refine x_bast (j := iI (z1 + 2)) hE hK hN hP hS 2 (Nat.lt_of_lt_of_le (by decide) hNN) (fun _ => xG_12 rfl) (iI_in (n := 1600) (by omega)) dX4_append_39 (fun ar17 H locs ha17 hP hS => ?_)
    refine lv_aload_n hE.1 hE.2.1 dX4_append_40 rfl (lv_at hl 1 rfl) ?_
    refine lv_dup hE.1 hE.2.1 dX4_append_41 rfl ?_
    refine x_get (x := .int (v13 1 0)) hE hK hP 1 (Nat.lt_of_lt_of_le (by decide) hNN) (xG_4 rfl) rfl hin4 0 (by decide) mw_146 rfl dX4_append_42 ?_
    refine x_top (y := iI (z1 + 2)) (up_eq hv13) ?_
    refine lv_iconst (v := iI (1)) hE.1 hE.2.1 dX4_append_45 (by decide) ?_
    refine lv_iadd hE.1 hE.2.1 dX4_append_46 ?_
    refine x_top (y := iI (z1 + 3)) ((iI_add (z1 + 2) (1)).trans (congrArg iI (by omega))) ?_
    refine x_put (x := iI (z1 + 3)) hE hK hN hP hS 1 (Nat.lt_of_lt_of_le (by decide) hNN) (xG_4 rfl) rfl hin4 tyX4 tyX4_ok nmX4 0 (by decide) mw_146 rfl rfl rfl (Nat.le_of_ble_eq_true rfl) (xG_4 rfl) dX4_append_47 (fun v18 H locs hv18 hP hS => ?_)
    have hI := XI_putB (z := z1 + 3) hI hv18 0 1600 (by omega) (by decide) (by omega)
    refine lv_iinc (v := iI (0)) (lv' := [(2, .int (iI (0))), (0, .ref (ad 1)), (1, .int (iI (z_1)))]) hE.1 hE.2.1 dX4_append_50 hl (k := 0) rfl ((iI_add (8) (-8)).trans (congrArg iI (by omega))) (by decide) rfl (fun ls hl => ?_)
    refine lv_goto (tgt := 23) hE.1 hE.2.1 dX4_append_53 (by decide) ?_
    refine lv_iload_n hE.1 hE.2.1 dX4_append_23 rfl (lv_at hl 0 rfl) ?_
    refine s_if_lt (a := 0) (tgt := 56) hE.1 hE.2.1 (by omega) dX4_append_24 (by decide) (fun c19 => False.elim (by omega)) (fun _ => ?_)
    refine lv_aload_n hE.1 hE.2.1 dX4_append_27 rfl (lv_at hl 1 rfl) ?_
    refine x_get (x := .ref (ad 2)) hE hK hP 1 (Nat.lt_of_lt_of_le (by decide) hNN) (xG_4 rfl) rfl hin4 3 (by decide) mw_152 rfl dX4_append_28 ?_
    refine lv_aload_n hE.1 hE.2.1 dX4_append_31 rfl (lv_at hl 1 rfl) ?_
    refine x_get (x := .int (v18 1 0)) hE hK hP 1 (Nat.lt_of_lt_of_le (by decide) hNN) (xG_4 rfl) rfl hin4 0 (by decide) mw_146 rfl dX4_append_32 ?_
    refine x_top (y := iI (z1 + 3)) (up_eq hv18) ?_
    refine lv_iload_n hE.1 hE.2.1 dX4_append_35 rfl (lv_at hl 2 rfl) ?_
    refine lv_iload_n hE.1 hE.2.1 dX4_append_36 rfl (lv_at hl 0 rfl) ?_
    refine lv_ishr hE.1 hE.2.1 dX4_append_37 ?_
    obtain ⟨z20, hz20, ez20⟩ := iI_of (iI (z_1) >>> (iI (0) &&& 31))
    refine x_top ez20 ?_
    obtain ⟨z21, hz21, ez21⟩ := iI_of ((iI (z20)).toInt8.toInt32)
    refine lv_i2b (v := iI (z21)) hE.1 hE.2.1 dX4_append_38 ez21 ?_
    refine x_bast (j := iI (z1 + 3)) hE hK hN hP hS 2 (Nat.lt_of_lt_of_le (by decide) hNN) (fun _ => xG_12 rfl) (iI_in (n := 1600) (by omega)) dX4_append_39 (fun ar22 H locs ha22 hP hS => ?_)
    refine lv_aload_n hE.1 hE.2.1 dX4_append_40 rfl (lv_at hl 1 rfl) ?_
    refine lv_dup hE.1 hE.2.1 dX4_append_41 rfl ?_
    refine x_get (x := .int (v18 1 0)) hE hK hP 1 (Nat.lt_of_lt_of_le (by decide) hNN) (xG_4 rfl) rfl hin4 0 (by decide) mw_146 rfl dX4_append_42 ?_
    refine x_top (y := iI (z1 + 3)) (up_eq hv18) ?_
    refine lv_iconst (v := iI (1)) hE.1 hE.2.1 dX4_append_45 (by decide) ?_
    refine lv_iadd hE.1 hE.2.1 dX4_append_46 ?_
    refine x_top (y := iI (z1 + 4)) ((iI_add (z1 + 3) (1)).trans (congrArg iI (by omega))) ?_
    refine x_put (x := iI (z1 + 4)) hE hK hN hP hS 1 (Nat.lt_of_lt_of_le (by decide) hNN) (xG_4 rfl) rfl hin4 tyX4 tyX4_ok nmX4 0 (by decide) mw_146 rfl rfl rfl (Nat.le_of_ble_eq_true rfl) (xG_4 rfl) dX4_append_47 (fun v23 H locs hv23 hP hS => ?_)
    have hI := XI_putB (z := z1 + 4) hI hv23 0 1600 (by omega) (by decide) (by omega)
    refine lv_iinc (v := iI (-8)) (lv' := [(2, .int (iI (-8))), (0, .ref (ad 1)), (1, .int (iI (z_1)))]) hE.1 hE.2.1 dX4_append_50 hl (k := 0) rfl ((iI_add (0) (-8)).trans (congrArg iI (by omega))) (by decide) rfl (fun ls hl => ?_)
    refine lv_goto (tgt := 23) hE.1 hE.2.1 dX4_append_53 (by decide) ?_
    refine lv_iload_n hE.1 hE.2.1 dX4_append_23 rfl (lv_at hl 0 rfl) ?_
    refine s_if_lt (a := -8) (tgt := 56) hE.1 hE.2.1 (by omega) dX4_append_24 (by decide) (fun _ => ?_) (fun c24 => False.elim (by omega))
    exact kr _ _ _ _ _ _ _ ⟨hI, fun i j h => ((up_oth hv23 (fun q => h (by rcases q with ⟨rfl, rfl⟩; decide))).trans ((up_oth hv18 (fun q => h (by rcases q with ⟨rfl, rfl⟩; decide))).trans ((up_oth hv13 (fun q => h (by rcases q with ⟨rfl, rfl⟩; decide))).trans (up_oth hv8 (fun q => h (by rcases q with ⟨rfl, rfl⟩; decide))))))⟩ hP hS dX4_append_56

theorem dX8_feed_0 : decode cX8_feed 0 = .ok (.aload_n 0, 1) := by decide +kernel
theorem dX8_feed_1 : decode cX8_feed 1 = .ok (.getfield 12, 3) := by decide +kernel
theorem dX8_feed_4 : decode cX8_feed 4 = .ok (.getfield 75, 3) := by decide +kernel
theorem dX8_feed_7 : decode cX8_feed 7 = .ok (.bipush 20, 2) := by decide +kernel
theorem dX8_feed_9 : decode cX8_feed 9 = .ok (.iadd, 1) := by decide +kernel
theorem dX8_feed_10 : decode cX8_feed 10 = .ok (.sipush 1600, 3) := by decide +kernel
theorem dX8_feed_13 : decode cX8_feed 13 = .ok (.if_icmp .le 5, 3) := by decide +kernel
theorem dX8_feed_16 : decode cX8_feed 16 = .ok (.iconst (-1), 1) := by decide +kernel
theorem dX8_feed_17 : decode cX8_feed 17 = .ok (.ireturn, 1) := by decide +kernel
theorem dX8_feed_18 : decode cX8_feed 18 = .ok (.aload_n 0, 1) := by decide +kernel
theorem dX8_feed_19 : decode cX8_feed 19 = .ok (.getfield 12, 3) := by decide +kernel
theorem dX8_feed_22 : decode cX8_feed 22 = .ok (.iload_n 1, 1) := by decide +kernel
theorem dX8_feed_23 : decode cX8_feed 23 = .ok (.invokevirtual 79, 3) := by decide +kernel
theorem dX8_feed_26 : decode cX8_feed 26 = .ok (.aload_n 0, 1) := by decide +kernel
theorem dX8_feed_27 : decode cX8_feed 27 = .ok (.getfield 12, 3) := by decide +kernel
theorem dX8_feed_30 : decode cX8_feed 30 = .ok (.iload_n 2, 1) := by decide +kernel
theorem dX8_feed_31 : decode cX8_feed 31 = .ok (.invokevirtual 79, 3) := by decide +kernel
theorem dX8_feed_34 : decode cX8_feed 34 = .ok (.aload_n 0, 1) := by decide +kernel
theorem dX8_feed_35 : decode cX8_feed 35 = .ok (.getfield 12, 3) := by decide +kernel
theorem dX8_feed_38 : decode cX8_feed 38 = .ok (.iload_n 3, 1) := by decide +kernel
theorem dX8_feed_39 : decode cX8_feed 39 = .ok (.invokevirtual 79, 3) := by decide +kernel
theorem dX8_feed_42 : decode cX8_feed 42 = .ok (.aload_n 0, 1) := by decide +kernel
theorem dX8_feed_43 : decode cX8_feed 43 = .ok (.getfield 12, 3) := by decide +kernel
theorem dX8_feed_46 : decode cX8_feed 46 = .ok (.iload 4, 2) := by decide +kernel
theorem dX8_feed_48 : decode cX8_feed 48 = .ok (.invokevirtual 79, 3) := by decide +kernel
theorem dX8_feed_51 : decode cX8_feed 51 = .ok (.aload_n 0, 1) := by decide +kernel
theorem dX8_feed_52 : decode cX8_feed 52 = .ok (.getfield 12, 3) := by decide +kernel
theorem dX8_feed_55 : decode cX8_feed 55 = .ok (.iload 5, 2) := by decide +kernel
theorem dX8_feed_57 : decode cX8_feed 57 = .ok (.invokevirtual 79, 3) := by decide +kernel
theorem dX8_feed_60 : decode cX8_feed 60 = .ok (.aload_n 0, 1) := by decide +kernel
theorem dX8_feed_61 : decode cX8_feed 61 = .ok (.getfield 12, 3) := by decide +kernel
theorem dX8_feed_64 : decode cX8_feed 64 = .ok (.getfield 75, 3) := by decide +kernel
theorem dX8_feed_67 : decode cX8_feed 67 = .ok (.ireturn, 1) := by decide +kernel
set_option maxHeartbeats 4000000 in
set_option maxRecDepth 100000 in
theorem s_X8_feed_0 (l : Launch) (D : va_G) (K : Nat → ClassId) (ad : Nat → Nat) (mm : Option Nat) (N : Nat) (hNN : 132 ≤ N) (v ar : sI) (al : sL) (hI : XI v) (z_1 : Int) (hz_1 : -2147483648 ≤ z_1 ∧ z_1 ≤ 2147483647) (z_2 : Int) (hz_2 : -2147483648 ≤ z_2 ∧ z_2 ≤ 2147483647) (z_3 : Int) (hz_3 : -2147483648 ≤ z_3 ∧ z_3 ≤ 2147483647) (z_4 : Int) (hz_4 : -2147483648 ≤ z_4 ∧ z_4 ≤ 2147483647) (z_5 : Int) (hz_5 : -2147483648 ≤ z_5 ∧ z_5 ≤ 2147483647) : Met l yX8_feed (wM yX8_feed cX8_feed 6 (some .int)) (rmD 1) (va_Pc [.ref (ad 0), .int (iI (z_1)), .int (iI (z_2)), .int (iI (z_3)), .int (iI (z_4)), .int (iI (z_5))] (wPre D K ad (xG ad K mm) N v ar al)) (va_Qi (fun (r : Int32) (u : sT) => (∃ z : Int, (-2147483648 ≤ z ∧ z ≤ 2147483647) ∧ r = iI z) ∧ XI u.1 ∧ (∀ i j : Nat, (i, j) ∉ ([(1, 0)] : List (Nat × Nat)) → u.1 i j = v i j)) (wB D ad (xG ad K mm) N) (inW ad N)) 0 0 (inW ad N) := by
  refine s_metI (by decide) (Nat.le_of_ble_eq_true rfl) ?_
  intro p e s m below meth c ls args Q hE hB hl kr
  have hE : CallFix p m c cX8_feed 6 s args tbG "TaleCourt" := hE
  obtain ⟨hP, hK, hN⟩ := hB
  have hS : va_S (inW ad N) s.heap s.heap [] := va_S.rf
  have hl : lv_has ls 6 [(0, .ref (ad 0)), (1, .int (iI (z_1))), (2, .int (iI (z_2))), (3, .int (iI (z_3))), (4, .int (iI (z_4))), (5, .int (iI (z_5)))] := hl
  refine lv_aload_n hE.1 hE.2.1 dX8_feed_0 rfl (lv_at hl 0 rfl) ?_
  refine x_get (x := .ref (ad 1)) hE hK hP 0 (Nat.lt_of_lt_of_le (by decide) hNN) (xG_8 rfl) rfl hin8 0 (by decide) mw_480 rfl dX8_feed_1 ?_
  obtain ⟨z1, hz1, ez1⟩ := XI_get hI 1 0 0 1600 (by decide)
  refine x_get (x := .int (v 1 0)) hE hK hP 1 (Nat.lt_of_lt_of_le (by decide) hNN) (xG_4 rfl) rfl hin4 0 (by decide) mw_147 rfl dX8_feed_4 ?_
  refine x_top (y := iI (z1)) ez1 ?_
  refine lv_bipush (v := iI (20)) hE.1 hE.2.1 dX8_feed_7 (by decide) ?_
  refine lv_iadd hE.1 hE.2.1 dX8_feed_9 ?_
  refine x_top (y := iI (z1 + 20)) ((iI_add (z1) (20)).trans (congrArg iI (by omega))) ?_
  refine lv_sipush (v := iI (1600)) hE.1 hE.2.1 dX8_feed_10 (by decide) ?_
  refine s_icmp_le (a := z1 + 20) (b := 1600) (tgt := 18) hE.1 hE.2.1 (by omega) (by omega) dX8_feed_13 (by decide) (fun c2 => ?_) (fun c2 => ?_)
  · skip
    refine lv_aload_n hE.1 hE.2.1 dX8_feed_18 rfl (lv_at hl 0 rfl) ?_
    refine x_get (x := .ref (ad 1)) hE hK hP 0 (Nat.lt_of_lt_of_le (by decide) hNN) (xG_8 rfl) rfl hin8 0 (by decide) mw_480 rfl dX8_feed_19 ?_
    refine lv_iload_n hE.1 hE.2.1 dX8_feed_22 rfl (lv_at hl 1 rfl) ?_
    refine x_vv (nn := 1) (As := [.int (iI (z_1))]) (rest := []) hE hK hN hP hS (s_X4_append_1 l D K ad mm N hNN v ar al hI  (z_1) (by omega)) (x_recv hK hP 1 (Nat.lt_of_lt_of_le (by decide) hNN) (xG_4 rfl) rfl) rfl mw_515 mw_516 mw_517 mw_115 mw_518 (by decide +kernel) ⟨by decide, by decide⟩ hl.1 rfl (Nat.le_of_ble_eq_true rfl) ⟨Nat.zero_le _, Nat.zero_le _⟩ dX8_feed_23 (fun v3 ar3 al3 H locs hq3 hP hS => ?_)
    obtain ⟨hI, hq3⟩ := hq3
    have hI : XI v3 := hI
    refine lv_aload_n hE.1 hE.2.1 dX8_feed_26 rfl (lv_at hl 0 rfl) ?_
    refine x_get (x := .ref (ad 1)) hE hK hP 0 (Nat.lt_of_lt_of_le (by decide) hNN) (xG_8 rfl) rfl hin8 0 (by decide) mw_480 rfl dX8_feed_27 ?_
    refine lv_iload_n hE.1 hE.2.1 dX8_feed_30 rfl (lv_at hl 2 rfl) ?_
    refine x_vv (nn := 1) (As := [.int (iI (z_2))]) (rest := []) hE hK hN hP hS (s_X4_append_1 l D K ad mm N hNN v3 ar3 al3 hI  (z_2) (by omega)) (x_recv hK hP 1 (Nat.lt_of_lt_of_le (by decide) hNN) (xG_4 rfl) rfl) rfl mw_515 mw_516 mw_517 mw_115 mw_518 (by decide +kernel) ⟨by decide, by decide⟩ hl.1 rfl (Nat.le_of_ble_eq_true rfl) ⟨Nat.zero_le _, Nat.zero_le _⟩ dX8_feed_31 (fun v4 ar4 al4 H locs hq4 hP hS => ?_)
    obtain ⟨hI, hq4⟩ := hq4
    have hI : XI v4 := hI
    refine lv_aload_n hE.1 hE.2.1 dX8_feed_34 rfl (lv_at hl 0 rfl) ?_
    refine x_get (x := .ref (ad 1)) hE hK hP 0 (Nat.lt_of_lt_of_le (by decide) hNN) (xG_8 rfl) rfl hin8 0 (by decide) mw_480 rfl dX8_feed_35 ?_
    refine lv_iload_n hE.1 hE.2.1 dX8_feed_38 rfl (lv_at hl 3 rfl) ?_
    refine x_vv (nn := 1) (As := [.int (iI (z_3))]) (rest := []) hE hK hN hP hS (s_X4_append_1 l D K ad mm N hNN v4 ar4 al4 hI  (z_3) (by omega)) (x_recv hK hP 1 (Nat.lt_of_lt_of_le (by decide) hNN) (xG_4 rfl) rfl) rfl mw_515 mw_516 mw_517 mw_115 mw_518 (by decide +kernel) ⟨by decide, by decide⟩ hl.1 rfl (Nat.le_of_ble_eq_true rfl) ⟨Nat.zero_le _, Nat.zero_le _⟩ dX8_feed_39 (fun v5 ar5 al5 H locs hq5 hP hS => ?_)
    obtain ⟨hI, hq5⟩ := hq5
    have hI : XI v5 := hI
    refine lv_aload_n hE.1 hE.2.1 dX8_feed_42 rfl (lv_at hl 0 rfl) ?_
    refine x_get (x := .ref (ad 1)) hE hK hP 0 (Nat.lt_of_lt_of_le (by decide) hNN) (xG_8 rfl) rfl hin8 0 (by decide) mw_480 rfl dX8_feed_43 ?_
    refine lv_iload hE.1 hE.2.1 dX8_feed_46 (lv_at hl 4 rfl) ?_
    refine x_vv (nn := 1) (As := [.int (iI (z_4))]) (rest := []) hE hK hN hP hS (s_X4_append_1 l D K ad mm N hNN v5 ar5 al5 hI  (z_4) (by omega)) (x_recv hK hP 1 (Nat.lt_of_lt_of_le (by decide) hNN) (xG_4 rfl) rfl) rfl mw_515 mw_516 mw_517 mw_115 mw_518 (by decide +kernel) ⟨by decide, by decide⟩ hl.1 rfl (Nat.le_of_ble_eq_true rfl) ⟨Nat.zero_le _, Nat.zero_le _⟩ dX8_feed_48 (fun v6 ar6 al6 H locs hq6 hP hS => ?_)
    obtain ⟨hI, hq6⟩ := hq6
    have hI : XI v6 := hI
    refine lv_aload_n hE.1 hE.2.1 dX8_feed_51 rfl (lv_at hl 0 rfl) ?_
    refine x_get (x := .ref (ad 1)) hE hK hP 0 (Nat.lt_of_lt_of_le (by decide) hNN) (xG_8 rfl) rfl hin8 0 (by decide) mw_480 rfl dX8_feed_52 ?_
    refine lv_iload hE.1 hE.2.1 dX8_feed_55 (lv_at hl 5 rfl) ?_
    refine x_vv (nn := 1) (As := [.int (iI (z_5))]) (rest := []) hE hK hN hP hS (s_X4_append_1 l D K ad mm N hNN v6 ar6 al6 hI  (z_5) (by omega)) (x_recv hK hP 1 (Nat.lt_of_lt_of_le (by decide) hNN) (xG_4 rfl) rfl) rfl mw_515 mw_516 mw_517 mw_115 mw_518 (by decide +kernel) ⟨by decide, by decide⟩ hl.1 rfl (Nat.le_of_ble_eq_true rfl) ⟨Nat.zero_le _, Nat.zero_le _⟩ dX8_feed_57 (fun v7 ar7 al7 H locs hq7 hP hS => ?_)
    obtain ⟨hI, hq7⟩ := hq7
    have hI : XI v7 := hI
    refine lv_aload_n hE.1 hE.2.1 dX8_feed_60 rfl (lv_at hl 0 rfl) ?_
    refine x_get (x := .ref (ad 1)) hE hK hP 0 (Nat.lt_of_lt_of_le (by decide) hNN) (xG_8 rfl) rfl hin8 0 (by decide) mw_480 rfl dX8_feed_61 ?_
    obtain ⟨z8, hz8, ez8⟩ := XI_get hI 1 0 0 1600 (by decide)
    refine x_get (x := .int (v7 1 0)) hE hK hP 1 (Nat.lt_of_lt_of_le (by decide) hNN) (xG_4 rfl) rfl hin4 0 (by decide) mw_147 rfl dX8_feed_64 ?_
    refine x_top (y := iI (z8)) ez8 ?_
    exact kr _ _ _ _ _ _ _ _ rfl ⟨⟨z8, by omega, rfl⟩, hI, fun i j h => ((hq7 i j (fun q => h (mem_sub (by decide) q))).trans ((hq6 i j (fun q => h (mem_sub (by decide) q))).trans ((hq5 i j (fun q => h (mem_sub (by decide) q))).trans ((hq4 i j (fun q => h (mem_sub (by decide) q))).trans (hq3 i j (fun q => h (mem_sub (by decide) q)))))))⟩ hP hS dX8_feed_67
  · skip
    refine lv_iconst (v := iI (-1)) hE.1 hE.2.1 dX8_feed_16 (by decide) ?_
    exact kr _ _ _ _ _ _ _ _ rfl ⟨⟨-1, by omega, rfl⟩, hI, fun i j h => rfl⟩ hP hS dX8_feed_17

theorem dX8_end_0 : decode cX8_end 0 = .ok (.iload_n 1, 1) := by decide +kernel
theorem dX8_end_1 : decode cX8_end 1 = .ok (.ifCond .lt 14, 3) := by decide +kernel
theorem dX8_end_4 : decode cX8_end 4 = .ok (.iload_n 1, 1) := by decide +kernel
theorem dX8_end_5 : decode cX8_end 5 = .ok (.aload_n 0, 1) := by decide +kernel
theorem dX8_end_6 : decode cX8_end 6 = .ok (.getfield 12, 3) := by decide +kernel
theorem dX8_end_9 : decode cX8_end 9 = .ok (.getfield 75, 3) := by decide +kernel
theorem dX8_end_12 : decode cX8_end 12 = .ok (.if_icmp .le 5, 3) := by decide +kernel
theorem dX8_end_15 : decode cX8_end 15 = .ok (.iconst (-1), 1) := by decide +kernel
theorem dX8_end_16 : decode cX8_end 16 = .ok (.ireturn, 1) := by decide +kernel
theorem dX8_end_17 : decode cX8_end 17 = .ok (.aload_n 0, 1) := by decide +kernel
theorem dX8_end_18 : decode cX8_end 18 = .ok (.getfield 12, 3) := by decide +kernel
theorem dX8_end_21 : decode cX8_end 21 = .ok (.iload_n 1, 1) := by decide +kernel
theorem dX8_end_22 : decode cX8_end 22 = .ok (.putfield 75, 3) := by decide +kernel
theorem dX8_end_25 : decode cX8_end 25 = .ok (.iload_n 1, 1) := by decide +kernel
theorem dX8_end_26 : decode cX8_end 26 = .ok (.ireturn, 1) := by decide +kernel
set_option maxHeartbeats 4000000 in
set_option maxRecDepth 100000 in
theorem s_X8_end_0 (l : Launch) (D : va_G) (K : Nat → ClassId) (ad : Nat → Nat) (mm : Option Nat) (N : Nat) (hNN : 132 ≤ N) (v ar : sI) (al : sL) (hI : XI v) (z_1 : Int) (hz_1 : -2147483648 ≤ z_1 ∧ z_1 ≤ 2147483647) : Met l yX8_end (wM yX8_end cX8_end 2 (some .int)) (rmD 0) (va_Pc [.ref (ad 0), .int (iI (z_1))] (wPre D K ad (xG ad K mm) N v ar al)) (va_Qi (fun (r : Int32) (u : sT) => (∃ z : Int, (-2147483648 ≤ z ∧ z ≤ 2147483647) ∧ r = iI z) ∧ XI u.1 ∧ (∀ i j : Nat, (i, j) ∉ ([(1, 0)] : List (Nat × Nat)) → u.1 i j = v i j)) (wB D ad (xG ad K mm) N) (inW ad N)) 0 0 (inW ad N) := by
  refine s_metI (by decide) (Nat.le_of_ble_eq_true rfl) ?_
  intro p e s m below meth c ls args Q hE hB hl kr
  have hE : CallFix p m c cX8_end 2 s args tbG "TaleCourt" := hE
  obtain ⟨hP, hK, hN⟩ := hB
  have hS : va_S (inW ad N) s.heap s.heap [] := va_S.rf
  have hl : lv_has ls 2 [(0, .ref (ad 0)), (1, .int (iI (z_1)))] := hl
  refine lv_iload_n hE.1 hE.2.1 dX8_end_0 rfl (lv_at hl 1 rfl) ?_
  refine s_if_lt (a := z_1) (tgt := 15) hE.1 hE.2.1 (by omega) dX8_end_1 (by decide) (fun c1 => ?_) (fun c1 => ?_)
  · skip
    refine lv_iconst (v := iI (-1)) hE.1 hE.2.1 dX8_end_15 (by decide) ?_
    exact kr _ _ _ _ _ _ _ _ rfl ⟨⟨-1, by omega, rfl⟩, hI, fun i j h => rfl⟩ hP hS dX8_end_16
  · skip
    refine lv_iload_n hE.1 hE.2.1 dX8_end_4 rfl (lv_at hl 1 rfl) ?_
    refine lv_aload_n hE.1 hE.2.1 dX8_end_5 rfl (lv_at hl 0 rfl) ?_
    refine x_get (x := .ref (ad 1)) hE hK hP 0 (Nat.lt_of_lt_of_le (by decide) hNN) (xG_8 rfl) rfl hin8 0 (by decide) mw_480 rfl dX8_end_6 ?_
    obtain ⟨z2, hz2, ez2⟩ := XI_get hI 1 0 0 1600 (by decide)
    refine x_get (x := .int (v 1 0)) hE hK hP 1 (Nat.lt_of_lt_of_le (by decide) hNN) (xG_4 rfl) rfl hin4 0 (by decide) mw_147 rfl dX8_end_9 ?_
    refine x_top (y := iI (z2)) ez2 ?_
    refine s_icmp_le (a := z_1) (b := z2) (tgt := 17) hE.1 hE.2.1 (by omega) (by omega) dX8_end_12 (by decide) (fun c3 => ?_) (fun c3 => ?_)
    · skip
      refine lv_aload_n hE.1 hE.2.1 dX8_end_17 rfl (lv_at hl 0 rfl) ?_
      refine x_get (x := .ref (ad 1)) hE hK hP 0 (Nat.lt_of_lt_of_le (by decide) hNN) (xG_8 rfl) rfl hin8 0 (by decide) mw_480 rfl dX8_end_18 ?_
      refine lv_iload_n hE.1 hE.2.1 dX8_end_21 rfl (lv_at hl 1 rfl) ?_
      refine x_put (x := iI (z_1)) hE hK hN hP hS 1 (Nat.lt_of_lt_of_le (by decide) hNN) (xG_4 rfl) rfl hin4 tyX4 tyX4_ok nmX4 0 (by decide) mw_147 rfl rfl rfl (Nat.le_of_ble_eq_true rfl) (xG_4 rfl) dX8_end_22 (fun v4 H locs hv4 hP hS => ?_)
      have hI := XI_putB (z := z_1) hI hv4 0 1600 (by omega) (by decide) (by omega)
      refine lv_iload_n hE.1 hE.2.1 dX8_end_25 rfl (lv_at hl 1 rfl) ?_
      exact kr _ _ _ _ _ _ _ _ rfl ⟨⟨z_1, by omega, rfl⟩, hI, fun i j h => (up_oth hv4 (fun q => h (by rcases q with ⟨rfl, rfl⟩; decide)))⟩ hP hS dX8_end_26
    · skip
      refine lv_iconst (v := iI (-1)) hE.1 hE.2.1 dX8_end_15 (by decide) ?_
      exact kr _ _ _ _ _ _ _ _ rfl ⟨⟨-1, by omega, rfl⟩, hI, fun i j h => rfl⟩ hP hS dX8_end_16

theorem dX8_fault_0 : decode cX8_fault 0 = .ok (.iload_n 1, 1) := by decide +kernel
theorem dX8_fault_1 : decode cX8_fault 1 = .ok (.ifCond .ne 11, 3) := by decide +kernel
theorem dX8_fault_4 : decode cX8_fault 4 = .ok (.aload_n 0, 1) := by decide +kernel
theorem dX8_fault_5 : decode cX8_fault 5 = .ok (.getfield 12, 3) := by decide +kernel
theorem dX8_fault_8 : decode cX8_fault 8 = .ok (.getfield 96, 3) := by decide +kernel
theorem dX8_fault_11 : decode cX8_fault 11 = .ok (.ireturn, 1) := by decide +kernel
theorem dX8_fault_12 : decode cX8_fault 12 = .ok (.iload_n 1, 1) := by decide +kernel
theorem dX8_fault_13 : decode cX8_fault 13 = .ok (.iconst 1, 1) := by decide +kernel
theorem dX8_fault_14 : decode cX8_fault 14 = .ok (.if_icmp .ne 13, 3) := by decide +kernel
theorem dX8_fault_17 : decode cX8_fault 17 = .ok (.aload_n 0, 1) := by decide +kernel
theorem dX8_fault_18 : decode cX8_fault 18 = .ok (.getfield 12, 3) := by decide +kernel
theorem dX8_fault_21 : decode cX8_fault 21 = .ok (.getfield 99, 3) := by decide +kernel
theorem dX8_fault_24 : decode cX8_fault 24 = .ok (.goto 4, 3) := by decide +kernel
theorem dX8_fault_27 : decode cX8_fault 27 = .ok (.iconst (-1), 1) := by decide +kernel
theorem dX8_fault_28 : decode cX8_fault 28 = .ok (.ireturn, 1) := by decide +kernel
set_option maxHeartbeats 4000000 in
set_option maxRecDepth 100000 in
theorem s_X8_fault_0 (l : Launch) (D : va_G) (K : Nat → ClassId) (ad : Nat → Nat) (mm : Option Nat) (N : Nat) (hNN : 132 ≤ N) (v ar : sI) (al : sL) (hI : XI v) (z_1 : Int) (hz_1 : -2147483648 ≤ z_1 ∧ z_1 ≤ 2147483647) : Met l yX8_fault (wM yX8_fault cX8_fault 2 (some .int)) (rmD 0) (va_Pc [.ref (ad 0), .int (iI (z_1))] (wPre D K ad (xG ad K mm) N v ar al)) (vp_Si (fun r => ∃ z : Int, (-2147483648 ≤ z ∧ z ≤ 2147483647) ∧ r = iI z)) 0 0 (fun _ => False) := by
  refine s_metP (by decide) (Nat.le_of_ble_eq_true rfl) ?_
  intro p e s m below meth c ls args Q hE hB hl kr
  have hE : CallFix p m c cX8_fault 2 s args tbG "TaleCourt" := hE
  obtain ⟨hP, hK, hN⟩ := hB
  have hl : lv_has ls 2 [(0, .ref (ad 0)), (1, .int (iI (z_1)))] := hl
  refine lv_iload_n hE.1 hE.2.1 dX8_fault_0 rfl (lv_at hl 1 rfl) ?_
  refine s_if_ne (a := z_1) (tgt := 12) hE.1 hE.2.1 (by omega) dX8_fault_1 (by decide) (fun c1 => ?_) (fun c1 => ?_)
  · skip
    refine lv_iload_n hE.1 hE.2.1 dX8_fault_12 rfl (lv_at hl 1 rfl) ?_
    refine lv_iconst (v := iI (1)) hE.1 hE.2.1 dX8_fault_13 (by decide) ?_
    refine s_icmp_ne (a := z_1) (b := 1) (tgt := 27) hE.1 hE.2.1 (by omega) (by omega) dX8_fault_14 (by decide) (fun c2 => ?_) (fun c2 => ?_)
    · skip
      refine lv_iconst (v := iI (-1)) hE.1 hE.2.1 dX8_fault_27 (by decide) ?_
      exact kr _ _ _ rfl ⟨-1, by omega, rfl⟩ dX8_fault_28
    · skip
      refine lv_aload_n hE.1 hE.2.1 dX8_fault_17 rfl (lv_at hl 0 rfl) ?_
      refine x_get (x := .ref (ad 1)) hE hK hP 0 (Nat.lt_of_lt_of_le (by decide) hNN) (xG_8 rfl) rfl hin8 0 (by decide) mw_480 rfl dX8_fault_18 ?_
      obtain ⟨z3, hz3, ez3⟩ := iI_of (v 1 2)
      refine x_get (x := .int (v 1 2)) hE hK hP 1 (Nat.lt_of_lt_of_le (by decide) hNN) (xG_4 rfl) rfl hin4 2 (by decide) mw_151 rfl dX8_fault_21 ?_
      refine x_top (y := iI (z3)) ez3 ?_
      refine lv_goto (tgt := 28) hE.1 hE.2.1 dX8_fault_24 (by decide) ?_
      exact kr _ _ _ rfl ⟨z3, by omega, rfl⟩ dX8_fault_28
  · skip
    refine lv_aload_n hE.1 hE.2.1 dX8_fault_4 rfl (lv_at hl 0 rfl) ?_
    refine x_get (x := .ref (ad 1)) hE hK hP 0 (Nat.lt_of_lt_of_le (by decide) hNN) (xG_8 rfl) rfl hin8 0 (by decide) mw_480 rfl dX8_fault_5 ?_
    obtain ⟨z4, hz4, ez4⟩ := iI_of (v 1 1)
    refine x_get (x := .int (v 1 1)) hE hK hP 1 (Nat.lt_of_lt_of_le (by decide) hNN) (xG_4 rfl) rfl hin4 1 (by decide) mw_149 rfl dX8_fault_8 ?_
    refine x_top (y := iI (z4)) ez4 ?_
    exact kr _ _ _ rfl ⟨z4, by omega, rfl⟩ dX8_fault_11

theorem dX1_mayKeep_0 : decode cX1_mayKeep 0 = .ok (.iload_n 1, 1) := by decide +kernel
theorem dX1_mayKeep_1 : decode cX1_mayKeep 1 = .ok (.iconst (-1), 1) := by decide +kernel
theorem dX1_mayKeep_2 : decode cX1_mayKeep 2 = .ok (.if_icmp .eq 11, 3) := by decide +kernel
theorem dX1_mayKeep_5 : decode cX1_mayKeep 5 = .ok (.aload_n 0, 1) := by decide +kernel
theorem dX1_mayKeep_6 : decode cX1_mayKeep 6 = .ok (.iload_n 1, 1) := by decide +kernel
theorem dX1_mayKeep_7 : decode cX1_mayKeep 7 = .ok (.invokevirtual 87, 3) := by decide +kernel
theorem dX1_mayKeep_10 : decode cX1_mayKeep 10 = .ok (.ifCond .eq 7, 3) := by decide +kernel
theorem dX1_mayKeep_13 : decode cX1_mayKeep 13 = .ok (.iconst 1, 1) := by decide +kernel
theorem dX1_mayKeep_14 : decode cX1_mayKeep 14 = .ok (.goto 4, 3) := by decide +kernel
theorem dX1_mayKeep_17 : decode cX1_mayKeep 17 = .ok (.iconst 0, 1) := by decide +kernel
theorem dX1_mayKeep_18 : decode cX1_mayKeep 18 = .ok (.ireturn, 1) := by decide +kernel
set_option maxHeartbeats 4000000 in
set_option maxRecDepth 100000 in
theorem s_X1_mayKeep_3 (l : Launch) (D : va_G) (K : Nat → ClassId) (ad : Nat → Nat) (mm : Option Nat) (N : Nat) (hNN : 132 ≤ N) (v ar : sI) (al : sL) (hI : XI v) (z_1 : Int) (hz_1 : -2147483648 ≤ z_1 ∧ z_1 ≤ 2147483647) : Met l yX1_mayKeep (wM yX1_mayKeep cX1_mayKeep 2 (some .boolean)) (rmD 1) (va_Pc [.ref (ad 3), .int (iI (z_1))] (wPre D K ad (xG ad K mm) N v ar al)) (vp_Si (fun r => ∃ z : Int, (0 ≤ z ∧ z ≤ 1) ∧ r = iI z)) 0 0 (fun _ => False) := by
  refine s_metP (by decide) (Nat.le_of_ble_eq_true rfl) ?_
  intro p e s m below meth c ls args Q hE hB hl kr
  have hE : CallFix p m c cX1_mayKeep 2 s args tbG "TaleCourt$Court" := hE
  obtain ⟨hP, hK, hN⟩ := hB
  have hl : lv_has ls 2 [(0, .ref (ad 3)), (1, .int (iI (z_1)))] := hl
  refine lv_iload_n hE.1 hE.2.1 dX1_mayKeep_0 rfl (lv_at hl 1 rfl) ?_
  refine lv_iconst (v := iI (-1)) hE.1 hE.2.1 dX1_mayKeep_1 (by decide) ?_
  refine s_icmp_eq (a := z_1) (b := -1) (tgt := 13) hE.1 hE.2.1 (by omega) (by omega) dX1_mayKeep_2 (by decide) (fun c1 => ?_) (fun c1 => ?_)
  · skip
    refine lv_iconst (v := iI (1)) hE.1 hE.2.1 dX1_mayKeep_13 (by decide) ?_
    refine lv_goto (tgt := 18) hE.1 hE.2.1 dX1_mayKeep_14 (by decide) ?_
    exact kr _ _ _ (nar01 (by omega)) ⟨1, by omega, rfl⟩ dX1_mayKeep_18
  · skip
    refine lv_aload_n hE.1 hE.2.1 dX1_mayKeep_5 rfl (lv_at hl 0 rfl) ?_
    refine lv_iload_n hE.1 hE.2.1 dX1_mayKeep_6 rfl (lv_at hl 1 rfl) ?_
    refine x_vp (nn := 1) (As := [.int (iI (z_1))]) (rest := []) hE (s_X1_hasTeller_3 l D K ad mm N hNN v ar al hI  (z_1) (by omega)) wPre_blind (wPre_now hK hN hP) (x_recv hK hP 3 (Nat.lt_of_lt_of_le (by decide) hNN) (xG_1 rfl) rfl) rfl mw_1093 mw_885 mw_886 mw_116 mw_887 (by decide +kernel) ⟨by decide, by decide⟩ hl.1 rfl (Nat.le_of_ble_eq_true rfl) ⟨Nat.zero_le _, Nat.zero_le _⟩ dX1_mayKeep_7 (fun r2 hr2 => ?_)
    obtain ⟨z2, hz2, rfl⟩ := hr2
    refine s_if_eq (a := z2) (tgt := 17) hE.1 hE.2.1 (by omega) dX1_mayKeep_10 (by decide) (fun c3 => ?_) (fun c3 => ?_)
    · skip
      refine lv_iconst (v := iI (0)) hE.1 hE.2.1 dX1_mayKeep_17 (by decide) ?_
      exact kr _ _ _ (nar01 (by omega)) ⟨0, by omega, rfl⟩ dX1_mayKeep_18
    · skip
      refine lv_iconst (v := iI (1)) hE.1 hE.2.1 dX1_mayKeep_13 (by decide) ?_
      refine lv_goto (tgt := 18) hE.1 hE.2.1 dX1_mayKeep_14 (by decide) ?_
      exact kr _ _ _ (nar01 (by omega)) ⟨1, by omega, rfl⟩ dX1_mayKeep_18

theorem dX1_setKeeper_0 : decode cX1_setKeeper 0 = .ok (.iload_n 1, 1) := by decide +kernel
theorem dX1_setKeeper_1 : decode cX1_setKeeper 1 = .ok (.ifCond .lt 9, 3) := by decide +kernel
theorem dX1_setKeeper_4 : decode cX1_setKeeper 4 = .ok (.iload_n 1, 1) := by decide +kernel
theorem dX1_setKeeper_5 : decode cX1_setKeeper 5 = .ok (.bipush 9, 2) := by decide +kernel
theorem dX1_setKeeper_7 : decode cX1_setKeeper 7 = .ok (.if_icmp .lt 4, 3) := by decide +kernel
theorem dX1_setKeeper_10 : decode cX1_setKeeper 10 = .ok (.return_, 1) := by decide +kernel
theorem dX1_setKeeper_11 : decode cX1_setKeeper 11 = .ok (.aload_n 0, 1) := by decide +kernel
theorem dX1_setKeeper_12 : decode cX1_setKeeper 12 = .ok (.getfield 21, 3) := by decide +kernel
theorem dX1_setKeeper_15 : decode cX1_setKeeper 15 = .ok (.iload_n 1, 1) := by decide +kernel
theorem dX1_setKeeper_16 : decode cX1_setKeeper 16 = .ok (.iload_n 2, 1) := by decide +kernel
theorem dX1_setKeeper_17 : decode cX1_setKeeper 17 = .ok (.iastore, 1) := by decide +kernel
theorem dX1_setKeeper_18 : decode cX1_setKeeper 18 = .ok (.iconst 0, 1) := by decide +kernel
theorem dX1_setKeeper_19 : decode cX1_setKeeper 19 = .ok (.istore_n 3, 1) := by decide +kernel
theorem dX1_setKeeper_20 : decode cX1_setKeeper 20 = .ok (.iload_n 3, 1) := by decide +kernel
theorem dX1_setKeeper_21 : decode cX1_setKeeper 21 = .ok (.iconst 3, 1) := by decide +kernel
theorem dX1_setKeeper_22 : decode cX1_setKeeper 22 = .ok (.if_icmp .ge 57, 3) := by decide +kernel
theorem dX1_setKeeper_25 : decode cX1_setKeeper 25 = .ok (.iload_n 2, 1) := by decide +kernel
theorem dX1_setKeeper_26 : decode cX1_setKeeper 26 = .ok (.iconst (-1), 1) := by decide +kernel
theorem dX1_setKeeper_27 : decode cX1_setKeeper 27 = .ok (.if_icmp .eq 12, 3) := by decide +kernel
theorem dX1_setKeeper_30 : decode cX1_setKeeper 30 = .ok (.iload_n 2, 1) := by decide +kernel
theorem dX1_setKeeper_31 : decode cX1_setKeeper 31 = .ok (.iload_n 3, 1) := by decide +kernel
theorem dX1_setKeeper_32 : decode cX1_setKeeper 32 = .ok (.if_icmp .eq 7, 3) := by decide +kernel
theorem dX1_setKeeper_35 : decode cX1_setKeeper 35 = .ok (.iconst 1, 1) := by decide +kernel
theorem dX1_setKeeper_36 : decode cX1_setKeeper 36 = .ok (.goto 4, 3) := by decide +kernel
theorem dX1_setKeeper_39 : decode cX1_setKeeper 39 = .ok (.iconst 0, 1) := by decide +kernel
theorem dX1_setKeeper_40 : decode cX1_setKeeper 40 = .ok (.istore 4, 2) := by decide +kernel
theorem dX1_setKeeper_42 : decode cX1_setKeeper 42 = .ok (.aload_n 0, 1) := by decide +kernel
theorem dX1_setKeeper_43 : decode cX1_setKeeper 43 = .ok (.getfield 30, 3) := by decide +kernel
theorem dX1_setKeeper_46 : decode cX1_setKeeper 46 = .ok (.iload_n 3, 1) := by decide +kernel
theorem dX1_setKeeper_47 : decode cX1_setKeeper 47 = .ok (.aload_n 0, 1) := by decide +kernel
theorem dX1_setKeeper_48 : decode cX1_setKeeper 48 = .ok (.getfield 30, 3) := by decide +kernel
theorem dX1_setKeeper_51 : decode cX1_setKeeper 51 = .ok (.iload_n 3, 1) := by decide +kernel
theorem dX1_setKeeper_52 : decode cX1_setKeeper 52 = .ok (.iaload, 1) := by decide +kernel
theorem dX1_setKeeper_53 : decode cX1_setKeeper 53 = .ok (.iconst 1, 1) := by decide +kernel
theorem dX1_setKeeper_54 : decode cX1_setKeeper 54 = .ok (.iload_n 1, 1) := by decide +kernel
theorem dX1_setKeeper_55 : decode cX1_setKeeper 55 = .ok (.ishl, 1) := by decide +kernel
theorem dX1_setKeeper_56 : decode cX1_setKeeper 56 = .ok (.iconst (-1), 1) := by decide +kernel
theorem dX1_setKeeper_57 : decode cX1_setKeeper 57 = .ok (.ixor, 1) := by decide +kernel
theorem dX1_setKeeper_58 : decode cX1_setKeeper 58 = .ok (.iand, 1) := by decide +kernel
theorem dX1_setKeeper_59 : decode cX1_setKeeper 59 = .ok (.iload 4, 2) := by decide +kernel
theorem dX1_setKeeper_61 : decode cX1_setKeeper 61 = .ok (.ifCond .eq 9, 3) := by decide +kernel
theorem dX1_setKeeper_64 : decode cX1_setKeeper 64 = .ok (.iconst 1, 1) := by decide +kernel
theorem dX1_setKeeper_65 : decode cX1_setKeeper 65 = .ok (.iload_n 1, 1) := by decide +kernel
theorem dX1_setKeeper_66 : decode cX1_setKeeper 66 = .ok (.ishl, 1) := by decide +kernel
theorem dX1_setKeeper_67 : decode cX1_setKeeper 67 = .ok (.goto 4, 3) := by decide +kernel
theorem dX1_setKeeper_70 : decode cX1_setKeeper 70 = .ok (.iconst 0, 1) := by decide +kernel
theorem dX1_setKeeper_71 : decode cX1_setKeeper 71 = .ok (.ior, 1) := by decide +kernel
theorem dX1_setKeeper_72 : decode cX1_setKeeper 72 = .ok (.iastore, 1) := by decide +kernel
theorem dX1_setKeeper_73 : decode cX1_setKeeper 73 = .ok (.iinc 3 1, 3) := by decide +kernel
theorem dX1_setKeeper_76 : decode cX1_setKeeper 76 = .ok (.goto (-56), 3) := by decide +kernel
theorem dX1_setKeeper_79 : decode cX1_setKeeper 79 = .ok (.return_, 1) := by decide +kernel
set_option maxHeartbeats 4000000 in
set_option maxRecDepth 100000 in
theorem s_X1_setKeeper_3 (l : Launch) (D : va_G) (K : Nat → ClassId) (ad : Nat → Nat) (mm : Option Nat) (N : Nat) (hNN : 132 ≤ N) (v ar : sI) (al : sL) (hI : XI v) (z_1 : Int) (hz_1 : -2147483648 ≤ z_1 ∧ z_1 ≤ 2147483647) (z_2 : Int) (hz_2 : -2147483648 ≤ z_2 ∧ z_2 ≤ 2147483647) : Met l yX1_setKeeper (wM yX1_setKeeper cX1_setKeeper 5 none) (rmD 0) (va_Pc [.ref (ad 3), .int (iI (z_1)), .int (iI (z_2))] (wPre D K ad (xG ad K mm) N v ar al)) (va_Qv (fun u : sT => XI u.1 ∧ (∀ i j : Nat, (i, j) ∉ ([] : List (Nat × Nat)) → u.1 i j = v i j)) (wB D ad (xG ad K mm) N) (inW ad N)) 0 0 (inW ad N) := by
  refine s_metV (by decide) (Nat.le_of_ble_eq_true rfl) ?_
  intro p e s m below meth c ls args Q hE hB hl kr
  have hE : CallFix p m c cX1_setKeeper 5 s args tbG "TaleCourt$Court" := hE
  obtain ⟨hP, hK, hN⟩ := hB
  have hS : va_S (inW ad N) s.heap s.heap [] := va_S.rf
  have hl : lv_has ls 5 [(0, .ref (ad 3)), (1, .int (iI (z_1))), (2, .int (iI (z_2)))] := hl
  refine lv_iload_n hE.1 hE.2.1 dX1_setKeeper_0 rfl (lv_at hl 1 rfl) ?_
  refine s_if_lt (a := z_1) (tgt := 10) hE.1 hE.2.1 (by omega) dX1_setKeeper_1 (by decide) (fun c1 => ?_) (fun c1 => ?_)
  · skip
    exact kr _ _ _ _ _ _ _ ⟨hI, fun i j h => rfl⟩ hP hS dX1_setKeeper_10
  · skip
    refine lv_iload_n hE.1 hE.2.1 dX1_setKeeper_4 rfl (lv_at hl 1 rfl) ?_
    refine lv_bipush (v := iI (9)) hE.1 hE.2.1 dX1_setKeeper_5 (by decide) ?_
    refine s_icmp_lt (a := z_1) (b := 9) (tgt := 11) hE.1 hE.2.1 (by omega) (by omega) dX1_setKeeper_7 (by decide) (fun c2 => ?_) (fun c2 => ?_)
    · skip
      refine lv_aload_n hE.1 hE.2.1 dX1_setKeeper_11 rfl (lv_at hl 0 rfl) ?_
      refine x_get (x := .ref (ad 7)) hE hK hP 3 (Nat.lt_of_lt_of_le (by decide) hNN) (xG_1 rfl) rfl hin1 14 (by decide) mw_229 rfl dX1_setKeeper_12 ?_
      refine lv_iload_n hE.1 hE.2.1 dX1_setKeeper_15 rfl (lv_at hl 1 rfl) ?_
      refine lv_iload_n hE.1 hE.2.1 dX1_setKeeper_16 rfl (lv_at hl 2 rfl) ?_
      refine x_iast (j := iI (z_1)) hE hK hN hP hS 7 (Nat.lt_of_lt_of_le (by decide) hNN) (fun _ => xG_10 rfl) (iI_in (n := 9) (by omega)) dX1_setKeeper_17 (fun ar3 H locs ha3 hP hS => ?_)
      refine lv_iconst (v := iI (0)) hE.1 hE.2.1 dX1_setKeeper_18 (by decide) ?_
      refine lv_istore_n (lv' := [(3, .int (iI (0))), (0, .ref (ad 3)), (1, .int (iI (z_1))), (2, .int (iI (z_2)))]) hE.1 hE.2.1 dX1_setKeeper_19 rfl hl (by decide) rfl (fun ls hl => ?_)
      have loop4 : ∀ (k4 : Nat) (y4_3 : Int) (vl4 arl4 : sI) (all4 : sL) (H : Heap) (locs : List Loc) (ls : Array Slot), (3 - y4_3).toNat = k4 → (0 ≤ y4_3 ∧ y4_3 ≤ 3) → XI vl4 → (∀ i j : Nat, (i, j) ∉ ([] : List (Nat × Nat)) → vl4 i j = v i j) → va_P D xcl (wW ad (xG ad K mm) N vl4 arl4 all4) H → va_S (inW ad N) s.heap H locs → lv_has ls 5 [(3, .int (iI (y4_3))), (0, .ref (ad 3)), (1, .int (iI (z_1))), (2, .int (iI (z_2)))] → W p l e (rmD 0) s m args below meth c H locs 0 0 Q (F0 m 20 ls []) := by
        intro k4
        induction k4 using Nat.strongRecOn with
        | _ k4 ih4 =>
          intro y4_3 vl4 arl4 all4 H locs ls hk4 hb_y4_3 hI hfr4 hP hS hl
          refine lv_iload_n hE.1 hE.2.1 dX1_setKeeper_20 rfl (lv_at hl 0 rfl) ?_
          refine lv_iconst (v := iI (3)) hE.1 hE.2.1 dX1_setKeeper_21 (by decide) ?_
          refine s_icmp_ge (a := y4_3) (b := 3) (tgt := 79) hE.1 hE.2.1 (by omega) (by omega) dX1_setKeeper_22 (by decide) (fun c5 => ?_) (fun c5 => ?_)
          · skip
            exact kr _ _ _ _ _ _ _ ⟨hI, fun i j h => (hfr4 i j (fun q => h (mem_sub (by decide) q)))⟩ hP hS dX1_setKeeper_79
          · skip
            refine lv_iload_n hE.1 hE.2.1 dX1_setKeeper_25 rfl (lv_at hl 3 rfl) ?_
            refine lv_iconst (v := iI (-1)) hE.1 hE.2.1 dX1_setKeeper_26 (by decide) ?_
            refine s_icmp_eq (a := z_2) (b := -1) (tgt := 39) hE.1 hE.2.1 (by omega) (by omega) dX1_setKeeper_27 (by decide) (fun c6 => ?_) (fun c6 => ?_)
            · skip
              refine lv_iconst (v := iI (0)) hE.1 hE.2.1 dX1_setKeeper_39 (by decide) ?_
              refine lv_istore (lv' := [(4, .int (iI (0))), (3, .int (iI (y4_3))), (0, .ref (ad 3)), (1, .int (iI (z_1))), (2, .int (iI (z_2)))]) hE.1 hE.2.1 dX1_setKeeper_40 hl (by decide) rfl (fun ls hl => ?_)
              refine lv_aload_n hE.1 hE.2.1 dX1_setKeeper_42 rfl (lv_at hl 2 rfl) ?_
              refine x_get (x := .ref (ad 10)) hE hK hP 3 (Nat.lt_of_lt_of_le (by decide) hNN) (xG_1 rfl) rfl hin1 17 (by decide) mw_239 rfl dX1_setKeeper_43 ?_
              refine lv_iload_n hE.1 hE.2.1 dX1_setKeeper_46 rfl (lv_at hl 1 rfl) ?_
              refine lv_aload_n hE.1 hE.2.1 dX1_setKeeper_47 rfl (lv_at hl 2 rfl) ?_
              refine x_get (x := .ref (ad 10)) hE hK hP 3 (Nat.lt_of_lt_of_le (by decide) hNN) (xG_1 rfl) rfl hin1 17 (by decide) mw_239 rfl dX1_setKeeper_48 ?_
              refine lv_iload_n hE.1 hE.2.1 dX1_setKeeper_51 rfl (lv_at hl 1 rfl) ?_
              refine x_iald (j := iI (y4_3)) hE hK hP 10 (Nat.lt_of_lt_of_le (by decide) hNN) (xG_10 rfl) (iI_in (n := 3) (by omega)) dX1_setKeeper_52 ?_
              obtain ⟨z8, hz8, ez8⟩ := iI_of (arl4 10 (iI (y4_3)).toNatClampNeg)
              refine x_top ez8 ?_
              refine lv_iconst (v := iI (1)) hE.1 hE.2.1 dX1_setKeeper_53 (by decide) ?_
              refine lv_iload_n hE.1 hE.2.1 dX1_setKeeper_54 rfl (lv_at hl 3 rfl) ?_
              refine lv_ishl hE.1 hE.2.1 dX1_setKeeper_55 ?_
              obtain ⟨z9, hz9, ez9⟩ := iI_shl1 (a := z_1) (by omega)
              refine x_top ez9 ?_
              refine lv_iconst (v := iI (-1)) hE.1 hE.2.1 dX1_setKeeper_56 (by decide) ?_
              refine lv_ixor hE.1 hE.2.1 dX1_setKeeper_57 ?_
              obtain ⟨z10, hz10, ez10⟩ := iI_of (iI (z9) ^^^ iI (-1))
              refine x_top ez10 ?_
              refine lv_iand hE.1 hE.2.1 dX1_setKeeper_58 ?_
              obtain ⟨z11, hz11, ez11⟩ := iI_of (iI (z8) &&& iI (z10))
              refine x_top ez11 ?_
              refine lv_iload hE.1 hE.2.1 dX1_setKeeper_59 (lv_at hl 0 rfl) ?_
              refine s_if_eq (a := 0) (tgt := 70) hE.1 hE.2.1 (by omega) dX1_setKeeper_61 (by decide) (fun _ => ?_) (fun c12 => False.elim (by omega))
              refine lv_iconst (v := iI (0)) hE.1 hE.2.1 dX1_setKeeper_70 (by decide) ?_
              refine lv_ior hE.1 hE.2.1 dX1_setKeeper_71 ?_
              obtain ⟨z13, hz13, ez13⟩ := iI_of (iI (z11) ||| iI (0))
              refine x_top ez13 ?_
              refine x_iast (j := iI (y4_3)) hE hK hN hP hS 10 (Nat.lt_of_lt_of_le (by decide) hNN) (fun _ => xG_10 rfl) (iI_in (n := 3) (by omega)) dX1_setKeeper_72 (fun ar14 H locs ha14 hP hS => ?_)
              refine lv_iinc (v := iI (y4_3 + 1)) (lv' := [(3, .int (iI (y4_3 + 1))), (4, .int (iI (0))), (0, .ref (ad 3)), (1, .int (iI (z_1))), (2, .int (iI (z_2)))]) hE.1 hE.2.1 dX1_setKeeper_73 hl (k := 1) rfl ((iI_add (y4_3) (1)).trans (congrArg iI (by omega))) (by decide) rfl (fun ls hl => ?_)
              refine lv_goto (tgt := 20) hE.1 hE.2.1 dX1_setKeeper_76 (by decide) ?_
              exact ih4 _ (by omega) (y4_3 + 1) vl4 ar14 all4 _ _ _ rfl (by omega) hI (fun i j h => (hfr4 i j h)) hP hS (lv_sub hl [0, 2, 3, 4] rfl)
            · skip
              refine lv_iload_n hE.1 hE.2.1 dX1_setKeeper_30 rfl (lv_at hl 3 rfl) ?_
              refine lv_iload_n hE.1 hE.2.1 dX1_setKeeper_31 rfl (lv_at hl 0 rfl) ?_
              refine s_icmp_eq (a := z_2) (b := y4_3) (tgt := 39) hE.1 hE.2.1 (by omega) (by omega) dX1_setKeeper_32 (by decide) (fun c15 => ?_) (fun c15 => ?_)
              · skip
                refine lv_iconst (v := iI (0)) hE.1 hE.2.1 dX1_setKeeper_39 (by decide) ?_
                refine lv_istore (lv' := [(4, .int (iI (0))), (3, .int (iI (y4_3))), (0, .ref (ad 3)), (1, .int (iI (z_1))), (2, .int (iI (z_2)))]) hE.1 hE.2.1 dX1_setKeeper_40 hl (by decide) rfl (fun ls hl => ?_)
                refine lv_aload_n hE.1 hE.2.1 dX1_setKeeper_42 rfl (lv_at hl 2 rfl) ?_
                refine x_get (x := .ref (ad 10)) hE hK hP 3 (Nat.lt_of_lt_of_le (by decide) hNN) (xG_1 rfl) rfl hin1 17 (by decide) mw_239 rfl dX1_setKeeper_43 ?_
                refine lv_iload_n hE.1 hE.2.1 dX1_setKeeper_46 rfl (lv_at hl 1 rfl) ?_
                refine lv_aload_n hE.1 hE.2.1 dX1_setKeeper_47 rfl (lv_at hl 2 rfl) ?_
                refine x_get (x := .ref (ad 10)) hE hK hP 3 (Nat.lt_of_lt_of_le (by decide) hNN) (xG_1 rfl) rfl hin1 17 (by decide) mw_239 rfl dX1_setKeeper_48 ?_
                refine lv_iload_n hE.1 hE.2.1 dX1_setKeeper_51 rfl (lv_at hl 1 rfl) ?_
                refine x_iald (j := iI (y4_3)) hE hK hP 10 (Nat.lt_of_lt_of_le (by decide) hNN) (xG_10 rfl) (iI_in (n := 3) (by omega)) dX1_setKeeper_52 ?_
                obtain ⟨z17, hz17, ez17⟩ := iI_of (arl4 10 (iI (y4_3)).toNatClampNeg)
                refine x_top ez17 ?_
                refine lv_iconst (v := iI (1)) hE.1 hE.2.1 dX1_setKeeper_53 (by decide) ?_
                refine lv_iload_n hE.1 hE.2.1 dX1_setKeeper_54 rfl (lv_at hl 3 rfl) ?_
                refine lv_ishl hE.1 hE.2.1 dX1_setKeeper_55 ?_
                obtain ⟨z18, hz18, ez18⟩ := iI_shl1 (a := z_1) (by omega)
                refine x_top ez18 ?_
                refine lv_iconst (v := iI (-1)) hE.1 hE.2.1 dX1_setKeeper_56 (by decide) ?_
                refine lv_ixor hE.1 hE.2.1 dX1_setKeeper_57 ?_
                obtain ⟨z19, hz19, ez19⟩ := iI_of (iI (z18) ^^^ iI (-1))
                refine x_top ez19 ?_
                refine lv_iand hE.1 hE.2.1 dX1_setKeeper_58 ?_
                obtain ⟨z20, hz20, ez20⟩ := iI_of (iI (z17) &&& iI (z19))
                refine x_top ez20 ?_
                refine lv_iload hE.1 hE.2.1 dX1_setKeeper_59 (lv_at hl 0 rfl) ?_
                refine s_if_eq (a := 0) (tgt := 70) hE.1 hE.2.1 (by omega) dX1_setKeeper_61 (by decide) (fun _ => ?_) (fun c21 => False.elim (by omega))
                refine lv_iconst (v := iI (0)) hE.1 hE.2.1 dX1_setKeeper_70 (by decide) ?_
                refine lv_ior hE.1 hE.2.1 dX1_setKeeper_71 ?_
                obtain ⟨z22, hz22, ez22⟩ := iI_of (iI (z20) ||| iI (0))
                refine x_top ez22 ?_
                refine x_iast (j := iI (y4_3)) hE hK hN hP hS 10 (Nat.lt_of_lt_of_le (by decide) hNN) (fun _ => xG_10 rfl) (iI_in (n := 3) (by omega)) dX1_setKeeper_72 (fun ar23 H locs ha23 hP hS => ?_)
                refine lv_iinc (v := iI (y4_3 + 1)) (lv' := [(3, .int (iI (y4_3 + 1))), (4, .int (iI (0))), (0, .ref (ad 3)), (1, .int (iI (z_1))), (2, .int (iI (z_2)))]) hE.1 hE.2.1 dX1_setKeeper_73 hl (k := 1) rfl ((iI_add (y4_3) (1)).trans (congrArg iI (by omega))) (by decide) rfl (fun ls hl => ?_)
                refine lv_goto (tgt := 20) hE.1 hE.2.1 dX1_setKeeper_76 (by decide) ?_
                exact ih4 _ (by omega) (y4_3 + 1) vl4 ar23 all4 _ _ _ rfl (by omega) hI (fun i j h => (hfr4 i j h)) hP hS (lv_sub hl [0, 2, 3, 4] rfl)
              · skip
                refine lv_iconst (v := iI (1)) hE.1 hE.2.1 dX1_setKeeper_35 (by decide) ?_
                refine lv_goto (tgt := 40) hE.1 hE.2.1 dX1_setKeeper_36 (by decide) ?_
                refine lv_istore (lv' := [(4, .int (iI (1))), (3, .int (iI (y4_3))), (0, .ref (ad 3)), (1, .int (iI (z_1))), (2, .int (iI (z_2)))]) hE.1 hE.2.1 dX1_setKeeper_40 hl (by decide) rfl (fun ls hl => ?_)
                refine lv_aload_n hE.1 hE.2.1 dX1_setKeeper_42 rfl (lv_at hl 2 rfl) ?_
                refine x_get (x := .ref (ad 10)) hE hK hP 3 (Nat.lt_of_lt_of_le (by decide) hNN) (xG_1 rfl) rfl hin1 17 (by decide) mw_239 rfl dX1_setKeeper_43 ?_
                refine lv_iload_n hE.1 hE.2.1 dX1_setKeeper_46 rfl (lv_at hl 1 rfl) ?_
                refine lv_aload_n hE.1 hE.2.1 dX1_setKeeper_47 rfl (lv_at hl 2 rfl) ?_
                refine x_get (x := .ref (ad 10)) hE hK hP 3 (Nat.lt_of_lt_of_le (by decide) hNN) (xG_1 rfl) rfl hin1 17 (by decide) mw_239 rfl dX1_setKeeper_48 ?_
                refine lv_iload_n hE.1 hE.2.1 dX1_setKeeper_51 rfl (lv_at hl 1 rfl) ?_
                refine x_iald (j := iI (y4_3)) hE hK hP 10 (Nat.lt_of_lt_of_le (by decide) hNN) (xG_10 rfl) (iI_in (n := 3) (by omega)) dX1_setKeeper_52 ?_
                obtain ⟨z25, hz25, ez25⟩ := iI_of (arl4 10 (iI (y4_3)).toNatClampNeg)
                refine x_top ez25 ?_
                refine lv_iconst (v := iI (1)) hE.1 hE.2.1 dX1_setKeeper_53 (by decide) ?_
                refine lv_iload_n hE.1 hE.2.1 dX1_setKeeper_54 rfl (lv_at hl 3 rfl) ?_
                refine lv_ishl hE.1 hE.2.1 dX1_setKeeper_55 ?_
                obtain ⟨z26, hz26, ez26⟩ := iI_shl1 (a := z_1) (by omega)
                refine x_top ez26 ?_
                refine lv_iconst (v := iI (-1)) hE.1 hE.2.1 dX1_setKeeper_56 (by decide) ?_
                refine lv_ixor hE.1 hE.2.1 dX1_setKeeper_57 ?_
                obtain ⟨z27, hz27, ez27⟩ := iI_of (iI (z26) ^^^ iI (-1))
                refine x_top ez27 ?_
                refine lv_iand hE.1 hE.2.1 dX1_setKeeper_58 ?_
                obtain ⟨z28, hz28, ez28⟩ := iI_of (iI (z25) &&& iI (z27))
                refine x_top ez28 ?_
                refine lv_iload hE.1 hE.2.1 dX1_setKeeper_59 (lv_at hl 0 rfl) ?_
                refine s_if_eq (a := 1) (tgt := 70) hE.1 hE.2.1 (by omega) dX1_setKeeper_61 (by decide) (fun c29 => False.elim (by omega)) (fun _ => ?_)
                refine lv_iconst (v := iI (1)) hE.1 hE.2.1 dX1_setKeeper_64 (by decide) ?_
                refine lv_iload_n hE.1 hE.2.1 dX1_setKeeper_65 rfl (lv_at hl 3 rfl) ?_
                refine lv_ishl hE.1 hE.2.1 dX1_setKeeper_66 ?_
                obtain ⟨z30, hz30, ez30⟩ := iI_shl1 (a := z_1) (by omega)
                refine x_top ez30 ?_
                refine lv_goto (tgt := 71) hE.1 hE.2.1 dX1_setKeeper_67 (by decide) ?_
                refine lv_ior hE.1 hE.2.1 dX1_setKeeper_71 ?_
                obtain ⟨z31, hz31, ez31⟩ := iI_of (iI (z28) ||| iI (z30))
                refine x_top ez31 ?_
                refine x_iast (j := iI (y4_3)) hE hK hN hP hS 10 (Nat.lt_of_lt_of_le (by decide) hNN) (fun _ => xG_10 rfl) (iI_in (n := 3) (by omega)) dX1_setKeeper_72 (fun ar32 H locs ha32 hP hS => ?_)
                refine lv_iinc (v := iI (y4_3 + 1)) (lv' := [(3, .int (iI (y4_3 + 1))), (4, .int (iI (1))), (0, .ref (ad 3)), (1, .int (iI (z_1))), (2, .int (iI (z_2)))]) hE.1 hE.2.1 dX1_setKeeper_73 hl (k := 1) rfl ((iI_add (y4_3) (1)).trans (congrArg iI (by omega))) (by decide) rfl (fun ls hl => ?_)
                refine lv_goto (tgt := 20) hE.1 hE.2.1 dX1_setKeeper_76 (by decide) ?_
                exact ih4 _ (by omega) (y4_3 + 1) vl4 ar32 all4 _ _ _ rfl (by omega) hI (fun i j h => (hfr4 i j h)) hP hS (lv_sub hl [0, 2, 3, 4] rfl)
      exact loop4 _ (0) v ar3 al _ _ _ rfl (by omega) hI (fun _ _ _ => rfl) hP hS hl
    · skip
      exact kr _ _ _ _ _ _ _ ⟨hI, fun i j h => rfl⟩ hP hS dX1_setKeeper_10

theorem dX8_keeps_0 : decode cX8_keeps 0 = .ok (.aload_n 0, 1) := by decide +kernel
theorem dX8_keeps_1 : decode cX8_keeps 1 = .ok (.getfield 19, 3) := by decide +kernel
theorem dX8_keeps_4 : decode cX8_keeps 4 = .ok (.iload_n 1, 1) := by decide +kernel
theorem dX8_keeps_5 : decode cX8_keeps 5 = .ok (.invokevirtual 102, 3) := by decide +kernel
theorem dX8_keeps_8 : decode cX8_keeps 8 = .ok (.ifCond .eq 14, 3) := by decide +kernel
theorem dX8_keeps_11 : decode cX8_keeps 11 = .ok (.aload_n 0, 1) := by decide +kernel
theorem dX8_keeps_12 : decode cX8_keeps 12 = .ok (.getfield 19, 3) := by decide +kernel
theorem dX8_keeps_15 : decode cX8_keeps 15 = .ok (.iload_n 2, 1) := by decide +kernel
theorem dX8_keeps_16 : decode cX8_keeps 16 = .ok (.invokevirtual 242, 3) := by decide +kernel
theorem dX8_keeps_19 : decode cX8_keeps 19 = .ok (.ifCond .ne 6, 3) := by decide +kernel
theorem dX8_keeps_22 : decode cX8_keeps 22 = .ok (.bipush (-2), 2) := by decide +kernel
theorem dX8_keeps_24 : decode cX8_keeps 24 = .ok (.ireturn, 1) := by decide +kernel
theorem dX8_keeps_25 : decode cX8_keeps 25 = .ok (.aload_n 0, 1) := by decide +kernel
theorem dX8_keeps_26 : decode cX8_keeps 26 = .ok (.getfield 19, 3) := by decide +kernel
theorem dX8_keeps_29 : decode cX8_keeps 29 = .ok (.getfield 125, 3) := by decide +kernel
theorem dX8_keeps_32 : decode cX8_keeps 32 = .ok (.iload_n 1, 1) := by decide +kernel
theorem dX8_keeps_33 : decode cX8_keeps 33 = .ok (.iaload, 1) := by decide +kernel
theorem dX8_keeps_34 : decode cX8_keeps 34 = .ok (.istore_n 3, 1) := by decide +kernel
theorem dX8_keeps_35 : decode cX8_keeps 35 = .ok (.aload_n 0, 1) := by decide +kernel
theorem dX8_keeps_36 : decode cX8_keeps 36 = .ok (.getfield 19, 3) := by decide +kernel
theorem dX8_keeps_39 : decode cX8_keeps 39 = .ok (.iload_n 1, 1) := by decide +kernel
theorem dX8_keeps_40 : decode cX8_keeps 40 = .ok (.iload_n 2, 1) := by decide +kernel
theorem dX8_keeps_41 : decode cX8_keeps 41 = .ok (.invokevirtual 245, 3) := by decide +kernel
theorem dX8_keeps_44 : decode cX8_keeps 44 = .ok (.iload_n 3, 1) := by decide +kernel
theorem dX8_keeps_45 : decode cX8_keeps 45 = .ok (.ireturn, 1) := by decide +kernel
set_option maxHeartbeats 4000000 in
set_option maxRecDepth 100000 in
theorem s_X8_keeps_0 (l : Launch) (D : va_G) (K : Nat → ClassId) (ad : Nat → Nat) (mm : Option Nat) (N : Nat) (hNN : 132 ≤ N) (v ar : sI) (al : sL) (hI : XI v) (z_1 : Int) (hz_1 : -2147483648 ≤ z_1 ∧ z_1 ≤ 2147483647) (z_2 : Int) (hz_2 : -2147483648 ≤ z_2 ∧ z_2 ≤ 2147483647) : Met l yX8_keeps (wM yX8_keeps cX8_keeps 4 (some .int)) (rmD 2) (va_Pc [.ref (ad 0), .int (iI (z_1)), .int (iI (z_2))] (wPre D K ad (xG ad K mm) N v ar al)) (va_Qi (fun (r : Int32) (u : sT) => (∃ z : Int, (-2147483648 ≤ z ∧ z ≤ 2147483647) ∧ r = iI z) ∧ XI u.1 ∧ (∀ i j : Nat, (i, j) ∉ ([] : List (Nat × Nat)) → u.1 i j = v i j)) (wB D ad (xG ad K mm) N) (inW ad N)) 0 0 (inW ad N) := by
  refine s_metI (by decide) (Nat.le_of_ble_eq_true rfl) ?_
  intro p e s m below meth c ls args Q hE hB hl kr
  have hE : CallFix p m c cX8_keeps 4 s args tbG "TaleCourt" := hE
  obtain ⟨hP, hK, hN⟩ := hB
  have hS : va_S (inW ad N) s.heap s.heap [] := va_S.rf
  have hl : lv_has ls 4 [(0, .ref (ad 0)), (1, .int (iI (z_1))), (2, .int (iI (z_2)))] := hl
  refine lv_aload_n hE.1 hE.2.1 dX8_keeps_0 rfl (lv_at hl 0 rfl) ?_
  refine x_get (x := .ref (ad 3)) hE hK hP 0 (Nat.lt_of_lt_of_le (by decide) hNN) (xG_8 rfl) rfl hin8 1 (by decide) mw_481 rfl dX8_keeps_1 ?_
  refine lv_iload_n hE.1 hE.2.1 dX8_keeps_4 rfl (lv_at hl 1 rfl) ?_
  refine x_vp (nn := 1) (As := [.int (iI (z_1))]) (rest := []) hE (s_X1_hasMotif_3 l D K ad mm N hNN v ar al hI  (z_1) (by omega)) wPre_blind (wPre_now hK hN hP) (x_recv hK hP 3 (Nat.lt_of_lt_of_le (by decide) hNN) (xG_1 rfl) rfl) rfl mw_694 mw_695 mw_696 mw_116 mw_697 (by decide +kernel) ⟨by decide, by decide⟩ hl.1 rfl (Nat.le_of_ble_eq_true rfl) ⟨Nat.zero_le _, Nat.zero_le _⟩ dX8_keeps_5 (fun r1 hr1 => ?_)
  obtain ⟨z1, hz1, rfl⟩ := hr1
  refine s_if_eq (a := z1) (tgt := 22) hE.1 hE.2.1 (by omega) dX8_keeps_8 (by decide) (fun c2 => ?_) (fun c2 => ?_)
  · skip
    refine lv_bipush (v := iI (-2)) hE.1 hE.2.1 dX8_keeps_22 (by decide) ?_
    exact kr _ _ _ _ _ _ _ _ rfl ⟨⟨-2, by omega, rfl⟩, hI, fun i j h => rfl⟩ hP hS dX8_keeps_24
  · skip
    refine lv_aload_n hE.1 hE.2.1 dX8_keeps_11 rfl (lv_at hl 0 rfl) ?_
    refine x_get (x := .ref (ad 3)) hE hK hP 0 (Nat.lt_of_lt_of_le (by decide) hNN) (xG_8 rfl) rfl hin8 1 (by decide) mw_481 rfl dX8_keeps_12 ?_
    refine lv_iload_n hE.1 hE.2.1 dX8_keeps_15 rfl (lv_at hl 2 rfl) ?_
    refine x_vp (nn := 1) (As := [.int (iI (z_2))]) (rest := []) hE (s_X1_mayKeep_3 l D K ad mm N hNN v ar al hI  (z_2) (by omega)) wPre_blind (wPre_now hK hN hP) (x_recv hK hP 3 (Nat.lt_of_lt_of_le (by decide) hNN) (xG_1 rfl) rfl) rfl mw_1089 mw_1090 mw_1091 mw_116 mw_1092 (by decide +kernel) ⟨by decide, by decide⟩ hl.1 rfl (Nat.le_of_ble_eq_true rfl) ⟨Nat.zero_le _, Nat.zero_le _⟩ dX8_keeps_16 (fun r3 hr3 => ?_)
    obtain ⟨z3, hz3, rfl⟩ := hr3
    refine s_if_ne (a := z3) (tgt := 25) hE.1 hE.2.1 (by omega) dX8_keeps_19 (by decide) (fun c4 => ?_) (fun c4 => ?_)
    · skip
      refine lv_aload_n hE.1 hE.2.1 dX8_keeps_25 rfl (lv_at hl 0 rfl) ?_
      refine x_get (x := .ref (ad 3)) hE hK hP 0 (Nat.lt_of_lt_of_le (by decide) hNN) (xG_8 rfl) rfl hin8 1 (by decide) mw_481 rfl dX8_keeps_26 ?_
      refine x_get (x := .ref (ad 7)) hE hK hP 3 (Nat.lt_of_lt_of_le (by decide) hNN) (xG_1 rfl) rfl hin1 14 (by decide) mw_230 rfl dX8_keeps_29 ?_
      refine lv_iload_n hE.1 hE.2.1 dX8_keeps_32 rfl (lv_at hl 1 rfl) ?_
      refine x_iald (j := iI (z_1)) hE hK hP 7 (Nat.lt_of_lt_of_le (by decide) hNN) (xG_10 rfl) (iI_in (n := 9) (by omega)) dX8_keeps_33 ?_
      obtain ⟨z6, hz6, ez6⟩ := iI_of (ar 7 (iI (z_1)).toNatClampNeg)
      refine x_top ez6 ?_
      refine lv_istore_n (lv' := [(3, .int (iI (z6))), (0, .ref (ad 0)), (1, .int (iI (z_1))), (2, .int (iI (z_2)))]) hE.1 hE.2.1 dX8_keeps_34 rfl hl (by decide) rfl (fun ls hl => ?_)
      refine lv_aload_n hE.1 hE.2.1 dX8_keeps_35 rfl (lv_at hl 1 rfl) ?_
      refine x_get (x := .ref (ad 3)) hE hK hP 0 (Nat.lt_of_lt_of_le (by decide) hNN) (xG_8 rfl) rfl hin8 1 (by decide) mw_481 rfl dX8_keeps_36 ?_
      refine lv_iload_n hE.1 hE.2.1 dX8_keeps_39 rfl (lv_at hl 2 rfl) ?_
      refine lv_iload_n hE.1 hE.2.1 dX8_keeps_40 rfl (lv_at hl 3 rfl) ?_
      refine x_vv (nn := 2) (As := [.int (iI (z_1)), .int (iI (z_2))]) (rest := []) hE hK hN hP hS (s_X1_setKeeper_3 l D K ad mm N hNN v ar al hI  (z_1) (by omega) (z_2) (by omega)) (x_recv hK hP 3 (Nat.lt_of_lt_of_le (by decide) hNN) (xG_1 rfl) rfl) rfl mw_1094 mw_664 mw_665 mw_116 mw_666 (by decide +kernel) ⟨by decide, by decide⟩ hl.1 rfl (Nat.le_of_ble_eq_true rfl) ⟨Nat.zero_le _, Nat.zero_le _⟩ dX8_keeps_41 (fun v7 ar7 al7 H locs hq7 hP hS => ?_)
      obtain ⟨hI, hq7⟩ := hq7
      have hI : XI v7 := hI
      refine lv_iload_n hE.1 hE.2.1 dX8_keeps_44 rfl (lv_at hl 0 rfl) ?_
      exact kr _ _ _ _ _ _ _ _ rfl ⟨⟨z6, by omega, rfl⟩, hI, fun i j h => (hq7 i j (fun q => h (mem_sub (by decide) q)))⟩ hP hS dX8_keeps_45
    · skip
      refine lv_bipush (v := iI (-2)) hE.1 hE.2.1 dX8_keeps_22 (by decide) ?_
      exact kr _ _ _ _ _ _ _ _ rfl ⟨⟨-2, by omega, rfl⟩, hI, fun i j h => rfl⟩ hP hS dX8_keeps_24

theorem dX8_forbid_0 : decode cX8_forbid 0 = .ok (.aload_n 0, 1) := by decide +kernel
theorem dX8_forbid_1 : decode cX8_forbid 1 = .ok (.getfield 19, 3) := by decide +kernel
theorem dX8_forbid_4 : decode cX8_forbid 4 = .ok (.iload_n 1, 1) := by decide +kernel
theorem dX8_forbid_5 : decode cX8_forbid 5 = .ok (.invokevirtual 102, 3) := by decide +kernel
theorem dX8_forbid_8 : decode cX8_forbid 8 = .ok (.ifCond .eq 12, 3) := by decide +kernel
theorem dX8_forbid_11 : decode cX8_forbid 11 = .ok (.iload_n 2, 1) := by decide +kernel
theorem dX8_forbid_12 : decode cX8_forbid 12 = .ok (.ifCond .lt 8, 3) := by decide +kernel
theorem dX8_forbid_15 : decode cX8_forbid 15 = .ok (.iload_n 2, 1) := by decide +kernel
theorem dX8_forbid_16 : decode cX8_forbid 16 = .ok (.iconst 1, 1) := by decide +kernel
theorem dX8_forbid_17 : decode cX8_forbid 17 = .ok (.if_icmp .le 6, 3) := by decide +kernel
theorem dX8_forbid_20 : decode cX8_forbid 20 = .ok (.bipush (-2), 2) := by decide +kernel
theorem dX8_forbid_22 : decode cX8_forbid 22 = .ok (.ireturn, 1) := by decide +kernel
theorem dX8_forbid_23 : decode cX8_forbid 23 = .ok (.aload_n 0, 1) := by decide +kernel
theorem dX8_forbid_24 : decode cX8_forbid 24 = .ok (.getfield 19, 3) := by decide +kernel
theorem dX8_forbid_27 : decode cX8_forbid 27 = .ok (.getfield 128, 3) := by decide +kernel
theorem dX8_forbid_30 : decode cX8_forbid 30 = .ok (.iload_n 1, 1) := by decide +kernel
theorem dX8_forbid_31 : decode cX8_forbid 31 = .ok (.ishr, 1) := by decide +kernel
theorem dX8_forbid_32 : decode cX8_forbid 32 = .ok (.iconst 1, 1) := by decide +kernel
theorem dX8_forbid_33 : decode cX8_forbid 33 = .ok (.iand, 1) := by decide +kernel
theorem dX8_forbid_34 : decode cX8_forbid 34 = .ok (.istore_n 3, 1) := by decide +kernel
theorem dX8_forbid_35 : decode cX8_forbid 35 = .ok (.aload_n 0, 1) := by decide +kernel
theorem dX8_forbid_36 : decode cX8_forbid 36 = .ok (.getfield 19, 3) := by decide +kernel
theorem dX8_forbid_39 : decode cX8_forbid 39 = .ok (.aload_n 0, 1) := by decide +kernel
theorem dX8_forbid_40 : decode cX8_forbid 40 = .ok (.getfield 19, 3) := by decide +kernel
theorem dX8_forbid_43 : decode cX8_forbid 43 = .ok (.getfield 128, 3) := by decide +kernel
theorem dX8_forbid_46 : decode cX8_forbid 46 = .ok (.iconst 1, 1) := by decide +kernel
theorem dX8_forbid_47 : decode cX8_forbid 47 = .ok (.iload_n 1, 1) := by decide +kernel
theorem dX8_forbid_48 : decode cX8_forbid 48 = .ok (.ishl, 1) := by decide +kernel
theorem dX8_forbid_49 : decode cX8_forbid 49 = .ok (.iconst (-1), 1) := by decide +kernel
theorem dX8_forbid_50 : decode cX8_forbid 50 = .ok (.ixor, 1) := by decide +kernel
theorem dX8_forbid_51 : decode cX8_forbid 51 = .ok (.iand, 1) := by decide +kernel
theorem dX8_forbid_52 : decode cX8_forbid 52 = .ok (.iload_n 2, 1) := by decide +kernel
theorem dX8_forbid_53 : decode cX8_forbid 53 = .ok (.iload_n 1, 1) := by decide +kernel
theorem dX8_forbid_54 : decode cX8_forbid 54 = .ok (.ishl, 1) := by decide +kernel
theorem dX8_forbid_55 : decode cX8_forbid 55 = .ok (.ior, 1) := by decide +kernel
theorem dX8_forbid_56 : decode cX8_forbid 56 = .ok (.putfield 128, 3) := by decide +kernel
theorem dX8_forbid_59 : decode cX8_forbid 59 = .ok (.iload_n 3, 1) := by decide +kernel
theorem dX8_forbid_60 : decode cX8_forbid 60 = .ok (.ireturn, 1) := by decide +kernel
set_option maxHeartbeats 4000000 in
set_option maxRecDepth 100000 in
theorem s_X8_forbid_0 (l : Launch) (D : va_G) (K : Nat → ClassId) (ad : Nat → Nat) (mm : Option Nat) (N : Nat) (hNN : 132 ≤ N) (v ar : sI) (al : sL) (hI : XI v) (z_1 : Int) (hz_1 : -2147483648 ≤ z_1 ∧ z_1 ≤ 2147483647) (z_2 : Int) (hz_2 : -2147483648 ≤ z_2 ∧ z_2 ≤ 2147483647) : Met l yX8_forbid (wM yX8_forbid cX8_forbid 4 (some .int)) (rmD 1) (va_Pc [.ref (ad 0), .int (iI (z_1)), .int (iI (z_2))] (wPre D K ad (xG ad K mm) N v ar al)) (va_Qi (fun (r : Int32) (u : sT) => (∃ z : Int, (-2147483648 ≤ z ∧ z ≤ 2147483647) ∧ r = iI z) ∧ XI u.1 ∧ (∀ i j : Nat, (i, j) ∉ ([(3, 10)] : List (Nat × Nat)) → u.1 i j = v i j)) (wB D ad (xG ad K mm) N) (inW ad N)) 0 0 (inW ad N) := by
  refine s_metI (by decide) (Nat.le_of_ble_eq_true rfl) ?_
  intro p e s m below meth c ls args Q hE hB hl kr
  have hE : CallFix p m c cX8_forbid 4 s args tbG "TaleCourt" := hE
  obtain ⟨hP, hK, hN⟩ := hB
  have hS : va_S (inW ad N) s.heap s.heap [] := va_S.rf
  have hl : lv_has ls 4 [(0, .ref (ad 0)), (1, .int (iI (z_1))), (2, .int (iI (z_2)))] := hl
  refine lv_aload_n hE.1 hE.2.1 dX8_forbid_0 rfl (lv_at hl 0 rfl) ?_
  refine x_get (x := .ref (ad 3)) hE hK hP 0 (Nat.lt_of_lt_of_le (by decide) hNN) (xG_8 rfl) rfl hin8 1 (by decide) mw_481 rfl dX8_forbid_1 ?_
  refine lv_iload_n hE.1 hE.2.1 dX8_forbid_4 rfl (lv_at hl 1 rfl) ?_
  refine x_vp (nn := 1) (As := [.int (iI (z_1))]) (rest := []) hE (s_X1_hasMotif_3 l D K ad mm N hNN v ar al hI  (z_1) (by omega)) wPre_blind (wPre_now hK hN hP) (x_recv hK hP 3 (Nat.lt_of_lt_of_le (by decide) hNN) (xG_1 rfl) rfl) rfl mw_694 mw_695 mw_696 mw_116 mw_697 (by decide +kernel) ⟨by decide, by decide⟩ hl.1 rfl (Nat.le_of_ble_eq_true rfl) ⟨Nat.zero_le _, Nat.zero_le _⟩ dX8_forbid_5 (fun r1 hr1 => ?_)
  obtain ⟨z1, hz1, rfl⟩ := hr1
  refine s_if_eq (a := z1) (tgt := 20) hE.1 hE.2.1 (by omega) dX8_forbid_8 (by decide) (fun c2 => ?_) (fun c2 => ?_)
  · skip
    refine lv_bipush (v := iI (-2)) hE.1 hE.2.1 dX8_forbid_20 (by decide) ?_
    exact kr _ _ _ _ _ _ _ _ rfl ⟨⟨-2, by omega, rfl⟩, hI, fun i j h => rfl⟩ hP hS dX8_forbid_22
  · skip
    refine lv_iload_n hE.1 hE.2.1 dX8_forbid_11 rfl (lv_at hl 2 rfl) ?_
    refine s_if_lt (a := z_2) (tgt := 20) hE.1 hE.2.1 (by omega) dX8_forbid_12 (by decide) (fun c3 => ?_) (fun c3 => ?_)
    · skip
      refine lv_bipush (v := iI (-2)) hE.1 hE.2.1 dX8_forbid_20 (by decide) ?_
      exact kr _ _ _ _ _ _ _ _ rfl ⟨⟨-2, by omega, rfl⟩, hI, fun i j h => rfl⟩ hP hS dX8_forbid_22
    · skip
      refine lv_iload_n hE.1 hE.2.1 dX8_forbid_15 rfl (lv_at hl 2 rfl) ?_
      refine lv_iconst (v := iI (1)) hE.1 hE.2.1 dX8_forbid_16 (by decide) ?_
      refine s_icmp_le (a := z_2) (b := 1) (tgt := 23) hE.1 hE.2.1 (by omega) (by omega) dX8_forbid_17 (by decide) (fun c4 => ?_) (fun c4 => ?_)
      · skip
        refine lv_aload_n hE.1 hE.2.1 dX8_forbid_23 rfl (lv_at hl 0 rfl) ?_
        refine x_get (x := .ref (ad 3)) hE hK hP 0 (Nat.lt_of_lt_of_le (by decide) hNN) (xG_8 rfl) rfl hin8 1 (by decide) mw_481 rfl dX8_forbid_24 ?_
        obtain ⟨z5, hz5, ez5⟩ := iI_of (v 3 10)
        refine x_get (x := .int (v 3 10)) hE hK hP 3 (Nat.lt_of_lt_of_le (by decide) hNN) (xG_1 rfl) rfl hin1 10 (by decide) mw_216 rfl dX8_forbid_27 ?_
        refine x_top (y := iI (z5)) ez5 ?_
        refine lv_iload_n hE.1 hE.2.1 dX8_forbid_30 rfl (lv_at hl 1 rfl) ?_
        refine lv_ishr hE.1 hE.2.1 dX8_forbid_31 ?_
        obtain ⟨z6, hz6, ez6⟩ := iI_of (iI (z5) >>> (iI (z_1) &&& 31))
        refine x_top ez6 ?_
        refine lv_iconst (v := iI (1)) hE.1 hE.2.1 dX8_forbid_32 (by decide) ?_
        refine lv_iand hE.1 hE.2.1 dX8_forbid_33 ?_
        obtain ⟨z7, hz7, ez7⟩ := iI_and (iI (z6)) (iI (1)) 1 (by decide)
        refine x_top ez7 ?_
        refine lv_istore_n (lv' := [(3, .int (iI (z7))), (0, .ref (ad 0)), (1, .int (iI (z_1))), (2, .int (iI (z_2)))]) hE.1 hE.2.1 dX8_forbid_34 rfl hl (by decide) rfl (fun ls hl => ?_)
        refine lv_aload_n hE.1 hE.2.1 dX8_forbid_35 rfl (lv_at hl 1 rfl) ?_
        refine x_get (x := .ref (ad 3)) hE hK hP 0 (Nat.lt_of_lt_of_le (by decide) hNN) (xG_8 rfl) rfl hin8 1 (by decide) mw_481 rfl dX8_forbid_36 ?_
        refine lv_aload_n hE.1 hE.2.1 dX8_forbid_39 rfl (lv_at hl 1 rfl) ?_
        refine x_get (x := .ref (ad 3)) hE hK hP 0 (Nat.lt_of_lt_of_le (by decide) hNN) (xG_8 rfl) rfl hin8 1 (by decide) mw_481 rfl dX8_forbid_40 ?_
        refine x_get (x := .int (v 3 10)) hE hK hP 3 (Nat.lt_of_lt_of_le (by decide) hNN) (xG_1 rfl) rfl hin1 10 (by decide) mw_216 rfl dX8_forbid_43 ?_
        refine x_top (y := iI (z5)) ez5 ?_
        refine lv_iconst (v := iI (1)) hE.1 hE.2.1 dX8_forbid_46 (by decide) ?_
        refine lv_iload_n hE.1 hE.2.1 dX8_forbid_47 rfl (lv_at hl 2 rfl) ?_
        refine lv_ishl hE.1 hE.2.1 dX8_forbid_48 ?_
        obtain ⟨z8, hz8, ez8⟩ := iI_shl1 (a := z_1) (by omega)
        refine x_top ez8 ?_
        refine lv_iconst (v := iI (-1)) hE.1 hE.2.1 dX8_forbid_49 (by decide) ?_
        refine lv_ixor hE.1 hE.2.1 dX8_forbid_50 ?_
        obtain ⟨z9, hz9, ez9⟩ := iI_of (iI (z8) ^^^ iI (-1))
        refine x_top ez9 ?_
        refine lv_iand hE.1 hE.2.1 dX8_forbid_51 ?_
        obtain ⟨z10, hz10, ez10⟩ := iI_of (iI (z5) &&& iI (z9))
        refine x_top ez10 ?_
        refine lv_iload_n hE.1 hE.2.1 dX8_forbid_52 rfl (lv_at hl 3 rfl) ?_
        refine lv_iload_n hE.1 hE.2.1 dX8_forbid_53 rfl (lv_at hl 2 rfl) ?_
        refine lv_ishl hE.1 hE.2.1 dX8_forbid_54 ?_
        obtain ⟨z11, hz11, ez11⟩ := iI_of (iI (z_2) <<< (iI (z_1) &&& 31))
        refine x_top ez11 ?_
        refine lv_ior hE.1 hE.2.1 dX8_forbid_55 ?_
        obtain ⟨z12, hz12, ez12⟩ := iI_of (iI (z10) ||| iI (z11))
        refine x_top ez12 ?_
        refine x_put (x := iI (z12)) hE hK hN hP hS 3 (Nat.lt_of_lt_of_le (by decide) hNN) (xG_1 rfl) rfl hin1 tyX1 tyX1_ok nmX1 10 (by decide) mw_216 rfl rfl rfl (Nat.le_of_ble_eq_true rfl) (xG_1 rfl) dX8_forbid_56 (fun v13 H locs hv13 hP hS => ?_)
        have hI := XI_putN hI hv13 (by decide)
        refine lv_iload_n hE.1 hE.2.1 dX8_forbid_59 rfl (lv_at hl 0 rfl) ?_
        exact kr _ _ _ _ _ _ _ _ rfl ⟨⟨z7, by omega, rfl⟩, hI, fun i j h => (up_oth hv13 (fun q => h (by rcases q with ⟨rfl, rfl⟩; decide)))⟩ hP hS dX8_forbid_60
      · skip
        refine lv_bipush (v := iI (-2)) hE.1 hE.2.1 dX8_forbid_20 (by decide) ?_
        exact kr _ _ _ _ _ _ _ _ rfl ⟨⟨-2, by omega, rfl⟩, hI, fun i j h => rfl⟩ hP hS dX8_forbid_22

theorem dX8_slotsInUse_0 : decode cX8_slotsInUse 0 = .ok (.iconst 0, 1) := by decide +kernel
theorem dX8_slotsInUse_1 : decode cX8_slotsInUse 1 = .ok (.istore_n 1, 1) := by decide +kernel
theorem dX8_slotsInUse_2 : decode cX8_slotsInUse 2 = .ok (.iconst 0, 1) := by decide +kernel
theorem dX8_slotsInUse_3 : decode cX8_slotsInUse 3 = .ok (.istore_n 2, 1) := by decide +kernel
theorem dX8_slotsInUse_4 : decode cX8_slotsInUse 4 = .ok (.iload_n 2, 1) := by decide +kernel
theorem dX8_slotsInUse_5 : decode cX8_slotsInUse 5 = .ok (.iconst 4, 1) := by decide +kernel
theorem dX8_slotsInUse_6 : decode cX8_slotsInUse 6 = .ok (.if_icmp .ge 24, 3) := by decide +kernel
theorem dX8_slotsInUse_9 : decode cX8_slotsInUse 9 = .ok (.aload_n 0, 1) := by decide +kernel
theorem dX8_slotsInUse_10 : decode cX8_slotsInUse 10 = .ok (.getfield 63, 3) := by decide +kernel
theorem dX8_slotsInUse_13 : decode cX8_slotsInUse 13 = .ok (.iload_n 2, 1) := by decide +kernel
theorem dX8_slotsInUse_14 : decode cX8_slotsInUse 14 = .ok (.aaload, 1) := by decide +kernel
theorem dX8_slotsInUse_15 : decode cX8_slotsInUse 15 = .ok (.getfield 263, 3) := by decide +kernel
theorem dX8_slotsInUse_18 : decode cX8_slotsInUse 18 = .ok (.ifCond .lt 6, 3) := by decide +kernel
theorem dX8_slotsInUse_21 : decode cX8_slotsInUse 21 = .ok (.iinc 1 1, 3) := by decide +kernel
theorem dX8_slotsInUse_24 : decode cX8_slotsInUse 24 = .ok (.iinc 2 1, 3) := by decide +kernel
theorem dX8_slotsInUse_27 : decode cX8_slotsInUse 27 = .ok (.goto (-23), 3) := by decide +kernel
theorem dX8_slotsInUse_30 : decode cX8_slotsInUse 30 = .ok (.iload_n 1, 1) := by decide +kernel
theorem dX8_slotsInUse_31 : decode cX8_slotsInUse 31 = .ok (.ireturn, 1) := by decide +kernel
set_option maxHeartbeats 4000000 in
set_option maxRecDepth 100000 in
theorem s_X8_slotsInUse_0 (l : Launch) (D : va_G) (K : Nat → ClassId) (ad : Nat → Nat) (mm : Option Nat) (N : Nat) (hNN : 132 ≤ N) (v ar : sI) (al : sL) (hI : XI v) : Met l yX8_slotsInUse (wM yX8_slotsInUse cX8_slotsInUse 3 (some .int)) (rmD 0) (va_Pc [.ref (ad 0)] (wPre D K ad (xG ad K mm) N v ar al)) (vp_Si (fun r => ∃ z : Int, (-2147483648 ≤ z ∧ z ≤ 2147483647) ∧ r = iI z)) 0 0 (fun _ => False) := by
  refine s_metP (by decide) (Nat.le_of_ble_eq_true rfl) ?_
  intro p e s m below meth c ls args Q hE hB hl kr
  have hE : CallFix p m c cX8_slotsInUse 3 s args tbG "TaleCourt" := hE
  obtain ⟨hP, hK, hN⟩ := hB
  have hl : lv_has ls 3 [(0, .ref (ad 0))] := hl
  refine lv_iconst (v := iI (0)) hE.1 hE.2.1 dX8_slotsInUse_0 (by decide) ?_
  refine lv_istore_n (lv' := [(1, .int (iI (0))), (0, .ref (ad 0))]) hE.1 hE.2.1 dX8_slotsInUse_1 rfl hl (by decide) rfl (fun ls hl => ?_)
  refine lv_iconst (v := iI (0)) hE.1 hE.2.1 dX8_slotsInUse_2 (by decide) ?_
  refine lv_istore_n (lv' := [(2, .int (iI (0))), (1, .int (iI (0))), (0, .ref (ad 0))]) hE.1 hE.2.1 dX8_slotsInUse_3 rfl hl (by decide) rfl (fun ls hl => ?_)
  have loop1 : ∀ (k1 : Nat) (y1_2 : Int) (y1_1 : Int) (ls : Array Slot), (4 - y1_2).toNat = k1 → (0 ≤ y1_2 ∧ y1_2 ≤ 4) → (-2147483648 ≤ y1_1 ∧ y1_1 ≤ 2147483647) → lv_has ls 3 [(2, .int (iI (y1_2))), (1, .int (iI (y1_1))), (0, .ref (ad 0))] → W p l e (rmD 0) s m args below meth c s.heap [] 0 0 Q (F0 m 4 ls []) := by
    intro k1
    induction k1 using Nat.strongRecOn with
    | _ k1 ih1 =>
      intro y1_2 y1_1 ls hk1 hb_y1_2 hb_y1_1 hl
      refine lv_iload_n hE.1 hE.2.1 dX8_slotsInUse_4 rfl (lv_at hl 0 rfl) ?_
      refine lv_iconst (v := iI (4)) hE.1 hE.2.1 dX8_slotsInUse_5 (by decide) ?_
      refine s_icmp_ge (a := y1_2) (b := 4) (tgt := 30) hE.1 hE.2.1 (by omega) (by omega) dX8_slotsInUse_6 (by decide) (fun c2 => ?_) (fun c2 => ?_)
      · skip
        refine lv_iload_n hE.1 hE.2.1 dX8_slotsInUse_30 rfl (lv_at hl 1 rfl) ?_
        exact kr _ _ _ rfl ⟨y1_1, by omega, rfl⟩ dX8_slotsInUse_31
      · skip
        refine lv_aload_n hE.1 hE.2.1 dX8_slotsInUse_9 rfl (lv_at hl 2 rfl) ?_
        refine x_get (x := .ref (ad 65)) hE hK hP 0 (Nat.lt_of_lt_of_le (by decide) hNN) (xG_8 rfl) rfl hin8 8 (by decide) mw_488 rfl dX8_slotsInUse_10 ?_
        refine lv_iload_n hE.1 hE.2.1 dX8_slotsInUse_13 rfl (lv_at hl 0 rfl) ?_
        rcases (show y1_2 = 0 ∨ y1_2 = 1 ∨ y1_2 = 2 ∨ y1_2 = 3 by omega) with rfl | rfl | rfl | rfl
        · skip
          refine x_aald (r := .ref (ad 67)) hE hK hP 65 4 (Nat.lt_of_lt_of_le (by decide) hNN) (xG_13 rfl) rfl (by unfold vp_in; decide) rfl dX8_slotsInUse_14 ?_
          obtain ⟨z3, hz3, ez3⟩ := XI_get hI 67 2 (-1) 60 (by decide)
          refine x_get (x := .int (v 67 2)) hE hK hP 67 (Nat.lt_of_lt_of_le (by decide) hNN) (xG_5 rfl) rfl hin5 2 (by decide) mw_451 rfl dX8_slotsInUse_15 ?_
          refine x_top (y := iI (z3)) ez3 ?_
          refine s_if_lt (a := z3) (tgt := 24) hE.1 hE.2.1 (by omega) dX8_slotsInUse_18 (by decide) (fun c4 => ?_) (fun c4 => ?_)
          · skip
            refine lv_iinc (v := iI (1)) (lv' := [(2, .int (iI (1))), (1, .int (iI (y1_1))), (0, .ref (ad 0))]) hE.1 hE.2.1 dX8_slotsInUse_24 hl (k := 0) rfl ((iI_add (0) (1)).trans (congrArg iI (by omega))) (by decide) rfl (fun ls hl => ?_)
            refine lv_goto (tgt := 4) hE.1 hE.2.1 dX8_slotsInUse_27 (by decide) ?_
            exact ih1 _ (by omega) (1) (y1_1) _ rfl (by omega) (by omega) (lv_sub hl [0, 1, 2] rfl)
          · skip
            obtain ⟨z5, hz5, ez5⟩ := iI_of (iI (y1_1) + iI (1))
            refine lv_iinc (v := iI (z5)) (lv' := [(1, .int (iI (z5))), (2, .int (iI (0))), (0, .ref (ad 0))]) hE.1 hE.2.1 dX8_slotsInUse_21 hl (k := 1) rfl ez5 (by decide) rfl (fun ls hl => ?_)
            refine lv_iinc (v := iI (1)) (lv' := [(2, .int (iI (1))), (1, .int (iI (z5))), (0, .ref (ad 0))]) hE.1 hE.2.1 dX8_slotsInUse_24 hl (k := 1) rfl ((iI_add (0) (1)).trans (congrArg iI (by omega))) (by decide) rfl (fun ls hl => ?_)
            refine lv_goto (tgt := 4) hE.1 hE.2.1 dX8_slotsInUse_27 (by decide) ?_
            exact ih1 _ (by omega) (1) (z5) _ rfl (by omega) (by omega) (lv_sub hl [0, 1, 2] rfl)
        · skip
          refine x_aald (r := .ref (ad 69)) hE hK hP 65 4 (Nat.lt_of_lt_of_le (by decide) hNN) (xG_13 rfl) rfl (by unfold vp_in; decide) rfl dX8_slotsInUse_14 ?_
          obtain ⟨z6, hz6, ez6⟩ := XI_get hI 69 2 (-1) 60 (by decide)
          refine x_get (x := .int (v 69 2)) hE hK hP 69 (Nat.lt_of_lt_of_le (by decide) hNN) (xG_5 rfl) rfl hin5 2 (by decide) mw_451 rfl dX8_slotsInUse_15 ?_
          refine x_top (y := iI (z6)) ez6 ?_
          refine s_if_lt (a := z6) (tgt := 24) hE.1 hE.2.1 (by omega) dX8_slotsInUse_18 (by decide) (fun c7 => ?_) (fun c7 => ?_)
          · skip
            refine lv_iinc (v := iI (2)) (lv' := [(2, .int (iI (2))), (1, .int (iI (y1_1))), (0, .ref (ad 0))]) hE.1 hE.2.1 dX8_slotsInUse_24 hl (k := 0) rfl ((iI_add (1) (1)).trans (congrArg iI (by omega))) (by decide) rfl (fun ls hl => ?_)
            refine lv_goto (tgt := 4) hE.1 hE.2.1 dX8_slotsInUse_27 (by decide) ?_
            exact ih1 _ (by omega) (2) (y1_1) _ rfl (by omega) (by omega) (lv_sub hl [0, 1, 2] rfl)
          · skip
            obtain ⟨z8, hz8, ez8⟩ := iI_of (iI (y1_1) + iI (1))
            refine lv_iinc (v := iI (z8)) (lv' := [(1, .int (iI (z8))), (2, .int (iI (1))), (0, .ref (ad 0))]) hE.1 hE.2.1 dX8_slotsInUse_21 hl (k := 1) rfl ez8 (by decide) rfl (fun ls hl => ?_)
            refine lv_iinc (v := iI (2)) (lv' := [(2, .int (iI (2))), (1, .int (iI (z8))), (0, .ref (ad 0))]) hE.1 hE.2.1 dX8_slotsInUse_24 hl (k := 1) rfl ((iI_add (1) (1)).trans (congrArg iI (by omega))) (by decide) rfl (fun ls hl => ?_)
            refine lv_goto (tgt := 4) hE.1 hE.2.1 dX8_slotsInUse_27 (by decide) ?_
            exact ih1 _ (by omega) (2) (z8) _ rfl (by omega) (by omega) (lv_sub hl [0, 1, 2] rfl)
        · skip
          refine x_aald (r := .ref (ad 71)) hE hK hP 65 4 (Nat.lt_of_lt_of_le (by decide) hNN) (xG_13 rfl) rfl (by unfold vp_in; decide) rfl dX8_slotsInUse_14 ?_
          obtain ⟨z9, hz9, ez9⟩ := XI_get hI 71 2 (-1) 60 (by decide)
          refine x_get (x := .int (v 71 2)) hE hK hP 71 (Nat.lt_of_lt_of_le (by decide) hNN) (xG_5 rfl) rfl hin5 2 (by decide) mw_451 rfl dX8_slotsInUse_15 ?_
          refine x_top (y := iI (z9)) ez9 ?_
          refine s_if_lt (a := z9) (tgt := 24) hE.1 hE.2.1 (by omega) dX8_slotsInUse_18 (by decide) (fun c10 => ?_) (fun c10 => ?_)
          · skip
            refine lv_iinc (v := iI (3)) (lv' := [(2, .int (iI (3))), (1, .int (iI (y1_1))), (0, .ref (ad 0))]) hE.1 hE.2.1 dX8_slotsInUse_24 hl (k := 0) rfl ((iI_add (2) (1)).trans (congrArg iI (by omega))) (by decide) rfl (fun ls hl => ?_)
            refine lv_goto (tgt := 4) hE.1 hE.2.1 dX8_slotsInUse_27 (by decide) ?_
            exact ih1 _ (by omega) (3) (y1_1) _ rfl (by omega) (by omega) (lv_sub hl [0, 1, 2] rfl)
          · skip
            obtain ⟨z11, hz11, ez11⟩ := iI_of (iI (y1_1) + iI (1))
            refine lv_iinc (v := iI (z11)) (lv' := [(1, .int (iI (z11))), (2, .int (iI (2))), (0, .ref (ad 0))]) hE.1 hE.2.1 dX8_slotsInUse_21 hl (k := 1) rfl ez11 (by decide) rfl (fun ls hl => ?_)
            refine lv_iinc (v := iI (3)) (lv' := [(2, .int (iI (3))), (1, .int (iI (z11))), (0, .ref (ad 0))]) hE.1 hE.2.1 dX8_slotsInUse_24 hl (k := 1) rfl ((iI_add (2) (1)).trans (congrArg iI (by omega))) (by decide) rfl (fun ls hl => ?_)
            refine lv_goto (tgt := 4) hE.1 hE.2.1 dX8_slotsInUse_27 (by decide) ?_
            exact ih1 _ (by omega) (3) (z11) _ rfl (by omega) (by omega) (lv_sub hl [0, 1, 2] rfl)
        · skip
          refine x_aald (r := .ref (ad 73)) hE hK hP 65 4 (Nat.lt_of_lt_of_le (by decide) hNN) (xG_13 rfl) rfl (by unfold vp_in; decide) rfl dX8_slotsInUse_14 ?_
          obtain ⟨z12, hz12, ez12⟩ := XI_get hI 73 2 (-1) 60 (by decide)
          refine x_get (x := .int (v 73 2)) hE hK hP 73 (Nat.lt_of_lt_of_le (by decide) hNN) (xG_5 rfl) rfl hin5 2 (by decide) mw_451 rfl dX8_slotsInUse_15 ?_
          refine x_top (y := iI (z12)) ez12 ?_
          refine s_if_lt (a := z12) (tgt := 24) hE.1 hE.2.1 (by omega) dX8_slotsInUse_18 (by decide) (fun c13 => ?_) (fun c13 => ?_)
          · skip
            refine lv_iinc (v := iI (4)) (lv' := [(2, .int (iI (4))), (1, .int (iI (y1_1))), (0, .ref (ad 0))]) hE.1 hE.2.1 dX8_slotsInUse_24 hl (k := 0) rfl ((iI_add (3) (1)).trans (congrArg iI (by omega))) (by decide) rfl (fun ls hl => ?_)
            refine lv_goto (tgt := 4) hE.1 hE.2.1 dX8_slotsInUse_27 (by decide) ?_
            exact ih1 _ (by omega) (4) (y1_1) _ rfl (by omega) (by omega) (lv_sub hl [0, 1, 2] rfl)
          · skip
            obtain ⟨z14, hz14, ez14⟩ := iI_of (iI (y1_1) + iI (1))
            refine lv_iinc (v := iI (z14)) (lv' := [(1, .int (iI (z14))), (2, .int (iI (3))), (0, .ref (ad 0))]) hE.1 hE.2.1 dX8_slotsInUse_21 hl (k := 1) rfl ez14 (by decide) rfl (fun ls hl => ?_)
            refine lv_iinc (v := iI (4)) (lv' := [(2, .int (iI (4))), (1, .int (iI (z14))), (0, .ref (ad 0))]) hE.1 hE.2.1 dX8_slotsInUse_24 hl (k := 1) rfl ((iI_add (3) (1)).trans (congrArg iI (by omega))) (by decide) rfl (fun ls hl => ?_)
            refine lv_goto (tgt := 4) hE.1 hE.2.1 dX8_slotsInUse_27 (by decide) ?_
            exact ih1 _ (by omega) (4) (z14) _ rfl (by omega) (by omega) (lv_sub hl [0, 1, 2] rfl)
  exact loop1 _ (0) (0) _ rfl (by omega) (by omega) hl

theorem dX8_count_0 : decode cX8_count 0 = .ok (.iload_n 1, 1) := by decide +kernel
theorem dX8_count_1 : decode cX8_count 1 = .ok (.tableswitch 132 0 9 #[55, 63, 71, 79, 87, 95, 103, 111, 119, 127], 55) := by decide +kernel
theorem dX8_count_56 : decode cX8_count 56 = .ok (.aload_n 0, 1) := by decide +kernel
theorem dX8_count_57 : decode cX8_count 57 = .ok (.getfield 19, 3) := by decide +kernel
theorem dX8_count_60 : decode cX8_count 60 = .ok (.getfield 217, 3) := by decide +kernel
theorem dX8_count_63 : decode cX8_count 63 = .ok (.ireturn, 1) := by decide +kernel
theorem dX8_count_64 : decode cX8_count 64 = .ok (.aload_n 0, 1) := by decide +kernel
theorem dX8_count_65 : decode cX8_count 65 = .ok (.getfield 19, 3) := by decide +kernel
theorem dX8_count_68 : decode cX8_count 68 = .ok (.getfield 223, 3) := by decide +kernel
theorem dX8_count_71 : decode cX8_count 71 = .ok (.ireturn, 1) := by decide +kernel
theorem dX8_count_72 : decode cX8_count 72 = .ok (.aload_n 0, 1) := by decide +kernel
theorem dX8_count_73 : decode cX8_count 73 = .ok (.getfield 19, 3) := by decide +kernel
theorem dX8_count_76 : decode cX8_count 76 = .ok (.getfield 347, 3) := by decide +kernel
theorem dX8_count_79 : decode cX8_count 79 = .ok (.ireturn, 1) := by decide +kernel
theorem dX8_count_80 : decode cX8_count 80 = .ok (.aload_n 0, 1) := by decide +kernel
theorem dX8_count_81 : decode cX8_count 81 = .ok (.getfield 19, 3) := by decide +kernel
theorem dX8_count_84 : decode cX8_count 84 = .ok (.getfield 350, 3) := by decide +kernel
theorem dX8_count_87 : decode cX8_count 87 = .ok (.ireturn, 1) := by decide +kernel
theorem dX8_count_88 : decode cX8_count 88 = .ok (.aload_n 0, 1) := by decide +kernel
theorem dX8_count_89 : decode cX8_count 89 = .ok (.getfield 19, 3) := by decide +kernel
theorem dX8_count_92 : decode cX8_count 92 = .ok (.getfield 353, 3) := by decide +kernel
theorem dX8_count_95 : decode cX8_count 95 = .ok (.ireturn, 1) := by decide +kernel
theorem dX8_count_96 : decode cX8_count 96 = .ok (.aload_n 0, 1) := by decide +kernel
theorem dX8_count_97 : decode cX8_count 97 = .ok (.getfield 19, 3) := by decide +kernel
theorem dX8_count_100 : decode cX8_count 100 = .ok (.getfield 305, 3) := by decide +kernel
theorem dX8_count_103 : decode cX8_count 103 = .ok (.ireturn, 1) := by decide +kernel
theorem dX8_count_104 : decode cX8_count 104 = .ok (.aload_n 0, 1) := by decide +kernel
theorem dX8_count_105 : decode cX8_count 105 = .ok (.getfield 19, 3) := by decide +kernel
theorem dX8_count_108 : decode cX8_count 108 = .ok (.getfield 93, 3) := by decide +kernel
theorem dX8_count_111 : decode cX8_count 111 = .ok (.ireturn, 1) := by decide +kernel
theorem dX8_count_112 : decode cX8_count 112 = .ok (.aload_n 0, 1) := by decide +kernel
theorem dX8_count_113 : decode cX8_count 113 = .ok (.getfield 12, 3) := by decide +kernel
theorem dX8_count_116 : decode cX8_count 116 = .ok (.getfield 75, 3) := by decide +kernel
theorem dX8_count_119 : decode cX8_count 119 = .ok (.ireturn, 1) := by decide +kernel
theorem dX8_count_120 : decode cX8_count 120 = .ok (.aload_n 0, 1) := by decide +kernel
theorem dX8_count_121 : decode cX8_count 121 = .ok (.getfield 31, 3) := by decide +kernel
theorem dX8_count_124 : decode cX8_count 124 = .ok (.getfield 167, 3) := by decide +kernel
theorem dX8_count_127 : decode cX8_count 127 = .ok (.ireturn, 1) := by decide +kernel
theorem dX8_count_128 : decode cX8_count 128 = .ok (.aload_n 0, 1) := by decide +kernel
theorem dX8_count_129 : decode cX8_count 129 = .ok (.invokevirtual 356, 3) := by decide +kernel
theorem dX8_count_132 : decode cX8_count 132 = .ok (.ireturn, 1) := by decide +kernel
theorem dX8_count_133 : decode cX8_count 133 = .ok (.iconst (-1), 1) := by decide +kernel
theorem dX8_count_134 : decode cX8_count 134 = .ok (.ireturn, 1) := by decide +kernel
set_option maxHeartbeats 4000000 in
set_option maxRecDepth 100000 in
theorem s_X8_count_0 (l : Launch) (D : va_G) (K : Nat → ClassId) (ad : Nat → Nat) (mm : Option Nat) (N : Nat) (hNN : 132 ≤ N) (v ar : sI) (al : sL) (hI : XI v) (z_1 : Int) (hz_1 : -2147483648 ≤ z_1 ∧ z_1 ≤ 2147483647) : Met l yX8_count (wM yX8_count cX8_count 2 (some .int)) (rmD 1) (va_Pc [.ref (ad 0), .int (iI (z_1))] (wPre D K ad (xG ad K mm) N v ar al)) (vp_Si (fun r => ∃ z : Int, (-2147483648 ≤ z ∧ z ≤ 2147483647) ∧ r = iI z)) 0 0 (fun _ => False) := by
  refine s_metP (by decide) (Nat.le_of_ble_eq_true rfl) ?_
  intro p e s m below meth c ls args Q hE hB hl kr
  have hE : CallFix p m c cX8_count 2 s args tbG "TaleCourt" := hE
  obtain ⟨hP, hK, hN⟩ := hB
  have hl : lv_has ls 2 [(0, .ref (ad 0)), (1, .int (iI (z_1)))] := hl
  refine lv_iload_n hE.1 hE.2.1 dX8_count_0 rfl (lv_at hl 1 rfl) ?_
  by_cases ho1 : z_1 < 0 ∨ 9 < z_1
  · skip
    refine s_tabOut (a := z_1) (tgt := 133) hE.1 hE.2.1 (by omega) dX8_count_1 ho1 (by decide) ?_
    refine lv_iconst (v := iI (-1)) hE.1 hE.2.1 dX8_count_133 (by decide) ?_
    exact kr _ _ _ rfl ⟨-1, by omega, rfl⟩ dX8_count_134
  · skip
    rcases (show z_1 = 0 ∨ z_1 = 1 ∨ z_1 = 2 ∨ z_1 = 3 ∨ z_1 = 4 ∨ z_1 = 5 ∨ z_1 = 6 ∨ z_1 = 7 ∨ z_1 = 8 ∨ z_1 = 9 by omega) with rfl | rfl | rfl | rfl | rfl | rfl | rfl | rfl | rfl | rfl
    · skip
      refine lv_tableIn (off := 55) (tgt := 56) hE.1 hE.2.1 dX8_count_1 (by decide) (by decide) (by decide) (by decide) ?_
      refine lv_aload_n hE.1 hE.2.1 dX8_count_56 rfl (lv_at hl 0 rfl) ?_
      refine x_get (x := .ref (ad 3)) hE hK hP 0 (Nat.lt_of_lt_of_le (by decide) hNN) (xG_8 rfl) rfl hin8 1 (by decide) mw_481 rfl dX8_count_57 ?_
      obtain ⟨z2, hz2, ez2⟩ := XI_get hI 3 2 0 9 (by decide)
      refine x_get (x := .int (v 3 2)) hE hK hP 3 (Nat.lt_of_lt_of_le (by decide) hNN) (xG_1 rfl) rfl hin1 2 (by decide) mw_189 rfl dX8_count_60 ?_
      refine x_top (y := iI (z2)) ez2 ?_
      exact kr _ _ _ rfl ⟨z2, by omega, rfl⟩ dX8_count_63
    · skip
      refine lv_tableIn (off := 63) (tgt := 64) hE.1 hE.2.1 dX8_count_1 (by decide) (by decide) (by decide) (by decide) ?_
      refine lv_aload_n hE.1 hE.2.1 dX8_count_64 rfl (lv_at hl 0 rfl) ?_
      refine x_get (x := .ref (ad 3)) hE hK hP 0 (Nat.lt_of_lt_of_le (by decide) hNN) (xG_8 rfl) rfl hin8 1 (by decide) mw_481 rfl dX8_count_65 ?_
      obtain ⟨z3, hz3, ez3⟩ := XI_get hI 3 0 0 3 (by decide)
      refine x_get (x := .int (v 3 0)) hE hK hP 3 (Nat.lt_of_lt_of_le (by decide) hNN) (xG_1 rfl) rfl hin1 0 (by decide) mw_181 rfl dX8_count_68 ?_
      refine x_top (y := iI (z3)) ez3 ?_
      exact kr _ _ _ rfl ⟨z3, by omega, rfl⟩ dX8_count_71
    · skip
      refine lv_tableIn (off := 71) (tgt := 72) hE.1 hE.2.1 dX8_count_1 (by decide) (by decide) (by decide) (by decide) ?_
      refine lv_aload_n hE.1 hE.2.1 dX8_count_72 rfl (lv_at hl 0 rfl) ?_
      refine x_get (x := .ref (ad 3)) hE hK hP 0 (Nat.lt_of_lt_of_le (by decide) hNN) (xG_8 rfl) rfl hin8 1 (by decide) mw_481 rfl dX8_count_73 ?_
      obtain ⟨z4, hz4, ez4⟩ := iI_of (v 3 1)
      refine x_get (x := .int (v 3 1)) hE hK hP 3 (Nat.lt_of_lt_of_le (by decide) hNN) (xG_1 rfl) rfl hin1 1 (by decide) mw_186 rfl dX8_count_76 ?_
      refine x_top (y := iI (z4)) ez4 ?_
      exact kr _ _ _ rfl ⟨z4, by omega, rfl⟩ dX8_count_79
    · skip
      refine lv_tableIn (off := 79) (tgt := 80) hE.1 hE.2.1 dX8_count_1 (by decide) (by decide) (by decide) (by decide) ?_
      refine lv_aload_n hE.1 hE.2.1 dX8_count_80 rfl (lv_at hl 0 rfl) ?_
      refine x_get (x := .ref (ad 3)) hE hK hP 0 (Nat.lt_of_lt_of_le (by decide) hNN) (xG_8 rfl) rfl hin8 1 (by decide) mw_481 rfl dX8_count_81 ?_
      obtain ⟨z5, hz5, ez5⟩ := iI_of (v 3 5)
      refine x_get (x := .int (v 3 5)) hE hK hP 3 (Nat.lt_of_lt_of_le (by decide) hNN) (xG_1 rfl) rfl hin1 5 (by decide) mw_199 rfl dX8_count_84 ?_
      refine x_top (y := iI (z5)) ez5 ?_
      exact kr _ _ _ rfl ⟨z5, by omega, rfl⟩ dX8_count_87
    · skip
      refine lv_tableIn (off := 87) (tgt := 88) hE.1 hE.2.1 dX8_count_1 (by decide) (by decide) (by decide) (by decide) ?_
      refine lv_aload_n hE.1 hE.2.1 dX8_count_88 rfl (lv_at hl 0 rfl) ?_
      refine x_get (x := .ref (ad 3)) hE hK hP 0 (Nat.lt_of_lt_of_le (by decide) hNN) (xG_8 rfl) rfl hin8 1 (by decide) mw_481 rfl dX8_count_89 ?_
      obtain ⟨z6, hz6, ez6⟩ := iI_of (v 3 6)
      refine x_get (x := .int (v 3 6)) hE hK hP 3 (Nat.lt_of_lt_of_le (by decide) hNN) (xG_1 rfl) rfl hin1 6 (by decide) mw_202 rfl dX8_count_92 ?_
      refine x_top (y := iI (z6)) ez6 ?_
      exact kr _ _ _ rfl ⟨z6, by omega, rfl⟩ dX8_count_95
    · skip
      refine lv_tableIn (off := 95) (tgt := 96) hE.1 hE.2.1 dX8_count_1 (by decide) (by decide) (by decide) (by decide) ?_
      refine lv_aload_n hE.1 hE.2.1 dX8_count_96 rfl (lv_at hl 0 rfl) ?_
      refine x_get (x := .ref (ad 3)) hE hK hP 0 (Nat.lt_of_lt_of_le (by decide) hNN) (xG_8 rfl) rfl hin8 1 (by decide) mw_481 rfl dX8_count_97 ?_
      obtain ⟨z7, hz7, ez7⟩ := XI_get hI 3 3 0 8 (by decide)
      refine x_get (x := .int (v 3 3)) hE hK hP 3 (Nat.lt_of_lt_of_le (by decide) hNN) (xG_1 rfl) rfl hin1 3 (by decide) mw_193 rfl dX8_count_100 ?_
      refine x_top (y := iI (z7)) ez7 ?_
      exact kr _ _ _ rfl ⟨z7, by omega, rfl⟩ dX8_count_103
    · skip
      refine lv_tableIn (off := 103) (tgt := 104) hE.1 hE.2.1 dX8_count_1 (by decide) (by decide) (by decide) (by decide) ?_
      refine lv_aload_n hE.1 hE.2.1 dX8_count_104 rfl (lv_at hl 0 rfl) ?_
      refine x_get (x := .ref (ad 3)) hE hK hP 0 (Nat.lt_of_lt_of_le (by decide) hNN) (xG_8 rfl) rfl hin8 1 (by decide) mw_481 rfl dX8_count_105 ?_
      obtain ⟨z8, hz8, ez8⟩ := iI_of (v 3 4)
      refine x_get (x := .int (v 3 4)) hE hK hP 3 (Nat.lt_of_lt_of_le (by decide) hNN) (xG_1 rfl) rfl hin1 4 (by decide) mw_196 rfl dX8_count_108 ?_
      refine x_top (y := iI (z8)) ez8 ?_
      exact kr _ _ _ rfl ⟨z8, by omega, rfl⟩ dX8_count_111
    · skip
      refine lv_tableIn (off := 111) (tgt := 112) hE.1 hE.2.1 dX8_count_1 (by decide) (by decide) (by decide) (by decide) ?_
      refine lv_aload_n hE.1 hE.2.1 dX8_count_112 rfl (lv_at hl 0 rfl) ?_
      refine x_get (x := .ref (ad 1)) hE hK hP 0 (Nat.lt_of_lt_of_le (by decide) hNN) (xG_8 rfl) rfl hin8 0 (by decide) mw_480 rfl dX8_count_113 ?_
      obtain ⟨z9, hz9, ez9⟩ := XI_get hI 1 0 0 1600 (by decide)
      refine x_get (x := .int (v 1 0)) hE hK hP 1 (Nat.lt_of_lt_of_le (by decide) hNN) (xG_4 rfl) rfl hin4 0 (by decide) mw_147 rfl dX8_count_116 ?_
      refine x_top (y := iI (z9)) ez9 ?_
      exact kr _ _ _ rfl ⟨z9, by omega, rfl⟩ dX8_count_119
    · skip
      refine lv_tableIn (off := 119) (tgt := 120) hE.1 hE.2.1 dX8_count_1 (by decide) (by decide) (by decide) (by decide) ?_
      refine lv_aload_n hE.1 hE.2.1 dX8_count_120 rfl (lv_at hl 0 rfl) ?_
      refine x_get (x := .ref (ad 23)) hE hK hP 0 (Nat.lt_of_lt_of_le (by decide) hNN) (xG_8 rfl) rfl hin8 3 (by decide) mw_483 rfl dX8_count_121 ?_
      obtain ⟨z10, hz10, ez10⟩ := XI_get hI 23 2 0 18 (by decide)
      refine x_get (x := .int (v 23 2)) hE hK hP 23 (Nat.lt_of_lt_of_le (by decide) hNN) (xG_7 rfl) rfl hin7 2 (by decide) mw_304 rfl dX8_count_124 ?_
      refine x_top (y := iI (z10)) ez10 ?_
      exact kr _ _ _ rfl ⟨z10, by omega, rfl⟩ dX8_count_127
    · skip
      refine lv_tableIn (off := 127) (tgt := 128) hE.1 hE.2.1 dX8_count_1 (by decide) (by decide) (by decide) (by decide) ?_
      refine lv_aload_n hE.1 hE.2.1 dX8_count_128 rfl (lv_at hl 0 rfl) ?_
      refine x_vp (nn := 0) (As := []) (rest := []) hE (s_X8_slotsInUse_0 l D K ad mm N hNN v ar al hI  ) wPre_blind (wPre_now hK hN hP) (x_recv hK hP 0 (Nat.lt_of_lt_of_le (by decide) hNN) (xG_8 rfl) rfl) rfl mw_1287 mw_1289 mw_46 mw_114 mw_1290 (by decide +kernel) ⟨by decide, by decide⟩ hl.1 rfl (Nat.le_of_ble_eq_true rfl) ⟨Nat.zero_le _, Nat.zero_le _⟩ dX8_count_129 (fun r11 hr11 => ?_)
      obtain ⟨z11, hz11, rfl⟩ := hr11
      exact kr _ _ _ rfl ⟨z11, by omega, rfl⟩ dX8_count_132

theorem dX1_copyFrom_0 : decode cX1_copyFrom 0 = .ok (.aload_n 0, 1) := by decide +kernel
theorem dX1_copyFrom_1 : decode cX1_copyFrom 1 = .ok (.aload_n 1, 1) := by decide +kernel
theorem dX1_copyFrom_2 : decode cX1_copyFrom 2 = .ok (.getfield 39, 3) := by decide +kernel
theorem dX1_copyFrom_5 : decode cX1_copyFrom 5 = .ok (.putfield 39, 3) := by decide +kernel
theorem dX1_copyFrom_8 : decode cX1_copyFrom 8 = .ok (.aload_n 0, 1) := by decide +kernel
theorem dX1_copyFrom_9 : decode cX1_copyFrom 9 = .ok (.aload_n 1, 1) := by decide +kernel
theorem dX1_copyFrom_10 : decode cX1_copyFrom 10 = .ok (.getfield 43, 3) := by decide +kernel
theorem dX1_copyFrom_13 : decode cX1_copyFrom 13 = .ok (.putfield 43, 3) := by decide +kernel
theorem dX1_copyFrom_16 : decode cX1_copyFrom 16 = .ok (.aload_n 0, 1) := by decide +kernel
theorem dX1_copyFrom_17 : decode cX1_copyFrom 17 = .ok (.aload_n 1, 1) := by decide +kernel
theorem dX1_copyFrom_18 : decode cX1_copyFrom 18 = .ok (.getfield 46, 3) := by decide +kernel
theorem dX1_copyFrom_21 : decode cX1_copyFrom 21 = .ok (.putfield 46, 3) := by decide +kernel
theorem dX1_copyFrom_24 : decode cX1_copyFrom 24 = .ok (.aload_n 0, 1) := by decide +kernel
theorem dX1_copyFrom_25 : decode cX1_copyFrom 25 = .ok (.aload_n 1, 1) := by decide +kernel
theorem dX1_copyFrom_26 : decode cX1_copyFrom 26 = .ok (.getfield 49, 3) := by decide +kernel
theorem dX1_copyFrom_29 : decode cX1_copyFrom 29 = .ok (.putfield 49, 3) := by decide +kernel
theorem dX1_copyFrom_32 : decode cX1_copyFrom 32 = .ok (.aload_n 0, 1) := by decide +kernel
theorem dX1_copyFrom_33 : decode cX1_copyFrom 33 = .ok (.aload_n 1, 1) := by decide +kernel
theorem dX1_copyFrom_34 : decode cX1_copyFrom 34 = .ok (.getfield 52, 3) := by decide +kernel
theorem dX1_copyFrom_37 : decode cX1_copyFrom 37 = .ok (.putfield 52, 3) := by decide +kernel
theorem dX1_copyFrom_40 : decode cX1_copyFrom 40 = .ok (.aload_n 0, 1) := by decide +kernel
theorem dX1_copyFrom_41 : decode cX1_copyFrom 41 = .ok (.aload_n 1, 1) := by decide +kernel
theorem dX1_copyFrom_42 : decode cX1_copyFrom 42 = .ok (.getfield 55, 3) := by decide +kernel
theorem dX1_copyFrom_45 : decode cX1_copyFrom 45 = .ok (.putfield 55, 3) := by decide +kernel
theorem dX1_copyFrom_48 : decode cX1_copyFrom 48 = .ok (.aload_n 0, 1) := by decide +kernel
theorem dX1_copyFrom_49 : decode cX1_copyFrom 49 = .ok (.aload_n 1, 1) := by decide +kernel
theorem dX1_copyFrom_50 : decode cX1_copyFrom 50 = .ok (.getfield 58, 3) := by decide +kernel
theorem dX1_copyFrom_53 : decode cX1_copyFrom 53 = .ok (.putfield 58, 3) := by decide +kernel
theorem dX1_copyFrom_56 : decode cX1_copyFrom 56 = .ok (.aload_n 0, 1) := by decide +kernel
theorem dX1_copyFrom_57 : decode cX1_copyFrom 57 = .ok (.aload_n 1, 1) := by decide +kernel
theorem dX1_copyFrom_58 : decode cX1_copyFrom 58 = .ok (.getfield 61, 3) := by decide +kernel
theorem dX1_copyFrom_61 : decode cX1_copyFrom 61 = .ok (.putfield 61, 3) := by decide +kernel
theorem dX1_copyFrom_64 : decode cX1_copyFrom 64 = .ok (.aload_n 0, 1) := by decide +kernel
theorem dX1_copyFrom_65 : decode cX1_copyFrom 65 = .ok (.aload_n 1, 1) := by decide +kernel
theorem dX1_copyFrom_66 : decode cX1_copyFrom 66 = .ok (.getfield 64, 3) := by decide +kernel
theorem dX1_copyFrom_69 : decode cX1_copyFrom 69 = .ok (.putfield 64, 3) := by decide +kernel
theorem dX1_copyFrom_72 : decode cX1_copyFrom 72 = .ok (.aload_n 0, 1) := by decide +kernel
theorem dX1_copyFrom_73 : decode cX1_copyFrom 73 = .ok (.aload_n 1, 1) := by decide +kernel
theorem dX1_copyFrom_74 : decode cX1_copyFrom 74 = .ok (.getfield 67, 3) := by decide +kernel
theorem dX1_copyFrom_77 : decode cX1_copyFrom 77 = .ok (.putfield 67, 3) := by decide +kernel
theorem dX1_copyFrom_80 : decode cX1_copyFrom 80 = .ok (.aload_n 0, 1) := by decide +kernel
theorem dX1_copyFrom_81 : decode cX1_copyFrom 81 = .ok (.aload_n 1, 1) := by decide +kernel
theorem dX1_copyFrom_82 : decode cX1_copyFrom 82 = .ok (.getfield 70, 3) := by decide +kernel
theorem dX1_copyFrom_85 : decode cX1_copyFrom 85 = .ok (.putfield 70, 3) := by decide +kernel
theorem dX1_copyFrom_88 : decode cX1_copyFrom 88 = .ok (.aload_n 1, 1) := by decide +kernel
theorem dX1_copyFrom_89 : decode cX1_copyFrom 89 = .ok (.getfield 9, 3) := by decide +kernel
theorem dX1_copyFrom_92 : decode cX1_copyFrom 92 = .ok (.iconst 0, 1) := by decide +kernel
theorem dX1_copyFrom_93 : decode cX1_copyFrom 93 = .ok (.aload_n 0, 1) := by decide +kernel
theorem dX1_copyFrom_94 : decode cX1_copyFrom 94 = .ok (.getfield 9, 3) := by decide +kernel
theorem dX1_copyFrom_97 : decode cX1_copyFrom 97 = .ok (.iconst 0, 1) := by decide +kernel
theorem dX1_copyFrom_98 : decode cX1_copyFrom 98 = .ok (.bipush 9, 2) := by decide +kernel
theorem dX1_copyFrom_100 : decode cX1_copyFrom 100 = .ok (.invokestatic 79, 3) := by decide +kernel
theorem dX1_copyFrom_103 : decode cX1_copyFrom 103 = .ok (.aload_n 1, 1) := by decide +kernel
theorem dX1_copyFrom_104 : decode cX1_copyFrom 104 = .ok (.getfield 15, 3) := by decide +kernel
theorem dX1_copyFrom_107 : decode cX1_copyFrom 107 = .ok (.iconst 0, 1) := by decide +kernel
theorem dX1_copyFrom_108 : decode cX1_copyFrom 108 = .ok (.aload_n 0, 1) := by decide +kernel
theorem dX1_copyFrom_109 : decode cX1_copyFrom 109 = .ok (.getfield 15, 3) := by decide +kernel
theorem dX1_copyFrom_112 : decode cX1_copyFrom 112 = .ok (.iconst 0, 1) := by decide +kernel
theorem dX1_copyFrom_113 : decode cX1_copyFrom 113 = .ok (.bipush 9, 2) := by decide +kernel
theorem dX1_copyFrom_115 : decode cX1_copyFrom 115 = .ok (.invokestatic 79, 3) := by decide +kernel
theorem dX1_copyFrom_118 : decode cX1_copyFrom 118 = .ok (.aload_n 1, 1) := by decide +kernel
theorem dX1_copyFrom_119 : decode cX1_copyFrom 119 = .ok (.getfield 18, 3) := by decide +kernel
theorem dX1_copyFrom_122 : decode cX1_copyFrom 122 = .ok (.iconst 0, 1) := by decide +kernel
theorem dX1_copyFrom_123 : decode cX1_copyFrom 123 = .ok (.aload_n 0, 1) := by decide +kernel
theorem dX1_copyFrom_124 : decode cX1_copyFrom 124 = .ok (.getfield 18, 3) := by decide +kernel
theorem dX1_copyFrom_127 : decode cX1_copyFrom 127 = .ok (.iconst 0, 1) := by decide +kernel
theorem dX1_copyFrom_128 : decode cX1_copyFrom 128 = .ok (.bipush 9, 2) := by decide +kernel
theorem dX1_copyFrom_130 : decode cX1_copyFrom 130 = .ok (.invokestatic 79, 3) := by decide +kernel
theorem dX1_copyFrom_133 : decode cX1_copyFrom 133 = .ok (.aload_n 1, 1) := by decide +kernel
theorem dX1_copyFrom_134 : decode cX1_copyFrom 134 = .ok (.getfield 21, 3) := by decide +kernel
theorem dX1_copyFrom_137 : decode cX1_copyFrom 137 = .ok (.iconst 0, 1) := by decide +kernel
theorem dX1_copyFrom_138 : decode cX1_copyFrom 138 = .ok (.aload_n 0, 1) := by decide +kernel
theorem dX1_copyFrom_139 : decode cX1_copyFrom 139 = .ok (.getfield 21, 3) := by decide +kernel
theorem dX1_copyFrom_142 : decode cX1_copyFrom 142 = .ok (.iconst 0, 1) := by decide +kernel
theorem dX1_copyFrom_143 : decode cX1_copyFrom 143 = .ok (.bipush 9, 2) := by decide +kernel
theorem dX1_copyFrom_145 : decode cX1_copyFrom 145 = .ok (.invokestatic 79, 3) := by decide +kernel
theorem dX1_copyFrom_148 : decode cX1_copyFrom 148 = .ok (.aload_n 1, 1) := by decide +kernel
theorem dX1_copyFrom_149 : decode cX1_copyFrom 149 = .ok (.getfield 24, 3) := by decide +kernel
theorem dX1_copyFrom_152 : decode cX1_copyFrom 152 = .ok (.iconst 0, 1) := by decide +kernel
theorem dX1_copyFrom_153 : decode cX1_copyFrom 153 = .ok (.aload_n 0, 1) := by decide +kernel
theorem dX1_copyFrom_154 : decode cX1_copyFrom 154 = .ok (.getfield 24, 3) := by decide +kernel
theorem dX1_copyFrom_157 : decode cX1_copyFrom 157 = .ok (.iconst 0, 1) := by decide +kernel
theorem dX1_copyFrom_158 : decode cX1_copyFrom 158 = .ok (.bipush 9, 2) := by decide +kernel
theorem dX1_copyFrom_160 : decode cX1_copyFrom 160 = .ok (.invokestatic 79, 3) := by decide +kernel
theorem dX1_copyFrom_163 : decode cX1_copyFrom 163 = .ok (.aload_n 1, 1) := by decide +kernel
theorem dX1_copyFrom_164 : decode cX1_copyFrom 164 = .ok (.getfield 27, 3) := by decide +kernel
theorem dX1_copyFrom_167 : decode cX1_copyFrom 167 = .ok (.iconst 0, 1) := by decide +kernel
theorem dX1_copyFrom_168 : decode cX1_copyFrom 168 = .ok (.aload_n 0, 1) := by decide +kernel
theorem dX1_copyFrom_169 : decode cX1_copyFrom 169 = .ok (.getfield 27, 3) := by decide +kernel
theorem dX1_copyFrom_172 : decode cX1_copyFrom 172 = .ok (.iconst 0, 1) := by decide +kernel
theorem dX1_copyFrom_173 : decode cX1_copyFrom 173 = .ok (.bipush 9, 2) := by decide +kernel
theorem dX1_copyFrom_175 : decode cX1_copyFrom 175 = .ok (.invokestatic 79, 3) := by decide +kernel
theorem dX1_copyFrom_178 : decode cX1_copyFrom 178 = .ok (.aload_n 1, 1) := by decide +kernel
theorem dX1_copyFrom_179 : decode cX1_copyFrom 179 = .ok (.getfield 30, 3) := by decide +kernel
theorem dX1_copyFrom_182 : decode cX1_copyFrom 182 = .ok (.iconst 0, 1) := by decide +kernel
theorem dX1_copyFrom_183 : decode cX1_copyFrom 183 = .ok (.aload_n 0, 1) := by decide +kernel
theorem dX1_copyFrom_184 : decode cX1_copyFrom 184 = .ok (.getfield 30, 3) := by decide +kernel
theorem dX1_copyFrom_187 : decode cX1_copyFrom 187 = .ok (.iconst 0, 1) := by decide +kernel
theorem dX1_copyFrom_188 : decode cX1_copyFrom 188 = .ok (.iconst 3, 1) := by decide +kernel
theorem dX1_copyFrom_189 : decode cX1_copyFrom 189 = .ok (.invokestatic 79, 3) := by decide +kernel
theorem dX1_copyFrom_192 : decode cX1_copyFrom 192 = .ok (.aload_n 1, 1) := by decide +kernel
theorem dX1_copyFrom_193 : decode cX1_copyFrom 193 = .ok (.getfield 33, 3) := by decide +kernel
theorem dX1_copyFrom_196 : decode cX1_copyFrom 196 = .ok (.iconst 0, 1) := by decide +kernel
theorem dX1_copyFrom_197 : decode cX1_copyFrom 197 = .ok (.aload_n 0, 1) := by decide +kernel
theorem dX1_copyFrom_198 : decode cX1_copyFrom 198 = .ok (.getfield 33, 3) := by decide +kernel
theorem dX1_copyFrom_201 : decode cX1_copyFrom 201 = .ok (.iconst 0, 1) := by decide +kernel
theorem dX1_copyFrom_202 : decode cX1_copyFrom 202 = .ok (.bipush 8, 2) := by decide +kernel
theorem dX1_copyFrom_204 : decode cX1_copyFrom 204 = .ok (.invokestatic 79, 3) := by decide +kernel
theorem dX1_copyFrom_207 : decode cX1_copyFrom 207 = .ok (.aload_n 1, 1) := by decide +kernel
theorem dX1_copyFrom_208 : decode cX1_copyFrom 208 = .ok (.getfield 36, 3) := by decide +kernel
theorem dX1_copyFrom_211 : decode cX1_copyFrom 211 = .ok (.iconst 0, 1) := by decide +kernel
theorem dX1_copyFrom_212 : decode cX1_copyFrom 212 = .ok (.aload_n 0, 1) := by decide +kernel
theorem dX1_copyFrom_213 : decode cX1_copyFrom 213 = .ok (.getfield 36, 3) := by decide +kernel
theorem dX1_copyFrom_216 : decode cX1_copyFrom 216 = .ok (.iconst 0, 1) := by decide +kernel
theorem dX1_copyFrom_217 : decode cX1_copyFrom 217 = .ok (.bipush 8, 2) := by decide +kernel
theorem dX1_copyFrom_219 : decode cX1_copyFrom 219 = .ok (.invokestatic 79, 3) := by decide +kernel
theorem dX1_copyFrom_222 : decode cX1_copyFrom 222 = .ok (.return_, 1) := by decide +kernel
set_option maxHeartbeats 4000000 in
set_option maxRecDepth 100000 in
theorem s_X1_copyFrom_76_3 (l : Launch) (D : va_G) (K : Nat → ClassId) (ad : Nat → Nat) (mm : Option Nat) (N : Nat) (hNN : 132 ≤ N) (v ar : sI) (al : sL) (hI : XI v) : Met l yX1_copyFrom (wM yX1_copyFrom cX1_copyFrom 2 none) (rmD 1) (va_Pc [.ref (ad 76), .ref (ad 3)] (wPre D K ad (xG ad K mm) N v ar al)) (va_Qv (fun u : sT => XI u.1 ∧ (∀ i j : Nat, (i, j) ∉ ([(76, 0), (76, 1), (76, 2), (76, 3), (76, 4), (76, 5), (76, 6), (76, 7), (76, 8), (76, 9), (76, 10)] : List (Nat × Nat)) → u.1 i j = v i j)) (wB D ad (xG ad K mm) N) (inW ad N)) 0 0 (inW ad N) := by
  refine s_metV (by decide) (Nat.le_of_ble_eq_true rfl) ?_
  intro p e s m below meth c ls args Q hE hB hl kr
  have hE : CallFix p m c cX1_copyFrom 2 s args tbG "TaleCourt$Court" := hE
  obtain ⟨hP, hK, hN⟩ := hB
  have hS : va_S (inW ad N) s.heap s.heap [] := va_S.rf
  have hl : lv_has ls 2 [(0, .ref (ad 76)), (1, .ref (ad 3))] := hl
  refine lv_aload_n hE.1 hE.2.1 dX1_copyFrom_0 rfl (lv_at hl 0 rfl) ?_
  refine lv_aload_n hE.1 hE.2.1 dX1_copyFrom_1 rfl (lv_at hl 1 rfl) ?_
  obtain ⟨z1, hz1, ez1⟩ := XI_get hI 3 0 0 3 (by decide)
  refine x_get (x := .int (v 3 0)) hE hK hP 3 (Nat.lt_of_lt_of_le (by decide) hNN) (xG_1 rfl) rfl hin1 0 (by decide) mw_178 rfl dX1_copyFrom_2 ?_
  refine x_top (y := iI (z1)) ez1 ?_
  refine x_put (x := iI (z1)) hE hK hN hP hS 76 (Nat.lt_of_lt_of_le (by decide) hNN) (xG_1 rfl) rfl hin1 tyX1 tyX1_ok nmX1 0 (by decide) mw_178 rfl rfl rfl (Nat.le_of_ble_eq_true rfl) (xG_1 rfl) dX1_copyFrom_5 (fun v2 H locs hv2 hP hS => ?_)
  have hI := XI_putB (z := z1) hI hv2 0 3 (by omega) (by decide) (by omega)
  refine lv_aload_n hE.1 hE.2.1 dX1_copyFrom_8 rfl (lv_at hl 0 rfl) ?_
  refine lv_aload_n hE.1 hE.2.1 dX1_copyFrom_9 rfl (lv_at hl 1 rfl) ?_
  obtain ⟨z3, hz3, ez3⟩ := iI_of (v2 3 1)
  refine x_get (x := .int (v2 3 1)) hE hK hP 3 (Nat.lt_of_lt_of_le (by decide) hNN) (xG_1 rfl) rfl hin1 1 (by decide) mw_182 rfl dX1_copyFrom_10 ?_
  refine x_top (y := iI (z3)) ez3 ?_
  refine x_put (x := iI (z3)) hE hK hN hP hS 76 (Nat.lt_of_lt_of_le (by decide) hNN) (xG_1 rfl) rfl hin1 tyX1 tyX1_ok nmX1 1 (by decide) mw_182 rfl rfl rfl (Nat.le_of_ble_eq_true rfl) (xG_1 rfl) dX1_copyFrom_13 (fun v4 H locs hv4 hP hS => ?_)
  have hI := XI_putN hI hv4 (by decide)
  refine lv_aload_n hE.1 hE.2.1 dX1_copyFrom_16 rfl (lv_at hl 0 rfl) ?_
  refine lv_aload_n hE.1 hE.2.1 dX1_copyFrom_17 rfl (lv_at hl 1 rfl) ?_
  obtain ⟨z5, hz5, ez5⟩ := XI_get hI 3 2 0 9 (by decide)
  refine x_get (x := .int (v4 3 2)) hE hK hP 3 (Nat.lt_of_lt_of_le (by decide) hNN) (xG_1 rfl) rfl hin1 2 (by decide) mw_187 rfl dX1_copyFrom_18 ?_
  refine x_top (y := iI (z5)) ez5 ?_
  refine x_put (x := iI (z5)) hE hK hN hP hS 76 (Nat.lt_of_lt_of_le (by decide) hNN) (xG_1 rfl) rfl hin1 tyX1 tyX1_ok nmX1 2 (by decide) mw_187 rfl rfl rfl (Nat.le_of_ble_eq_true rfl) (xG_1 rfl) dX1_copyFrom_21 (fun v6 H locs hv6 hP hS => ?_)
  have hI := XI_putB (z := z5) hI hv6 0 9 (by omega) (by decide) (by omega)
  refine lv_aload_n hE.1 hE.2.1 dX1_copyFrom_24 rfl (lv_at hl 0 rfl) ?_
  refine lv_aload_n hE.1 hE.2.1 dX1_copyFrom_25 rfl (lv_at hl 1 rfl) ?_
  obtain ⟨z7, hz7, ez7⟩ := XI_get hI 3 3 0 8 (by decide)
  refine x_get (x := .int (v6 3 3)) hE hK hP 3 (Nat.lt_of_lt_of_le (by decide) hNN) (xG_1 rfl) rfl hin1 3 (by decide) mw_190 rfl dX1_copyFrom_26 ?_
  refine x_top (y := iI (z7)) ez7 ?_
  refine x_put (x := iI (z7)) hE hK hN hP hS 76 (Nat.lt_of_lt_of_le (by decide) hNN) (xG_1 rfl) rfl hin1 tyX1 tyX1_ok nmX1 3 (by decide) mw_190 rfl rfl rfl (Nat.le_of_ble_eq_true rfl) (xG_1 rfl) dX1_copyFrom_29 (fun v8 H locs hv8 hP hS => ?_)
  have hI := XI_putB (z := z7) hI hv8 0 8 (by omega) (by decide) (by omega)
  refine lv_aload_n hE.1 hE.2.1 dX1_copyFrom_32 rfl (lv_at hl 0 rfl) ?_
  refine lv_aload_n hE.1 hE.2.1 dX1_copyFrom_33 rfl (lv_at hl 1 rfl) ?_
  obtain ⟨z9, hz9, ez9⟩ := iI_of (v8 3 4)
  refine x_get (x := .int (v8 3 4)) hE hK hP 3 (Nat.lt_of_lt_of_le (by decide) hNN) (xG_1 rfl) rfl hin1 4 (by decide) mw_194 rfl dX1_copyFrom_34 ?_
  refine x_top (y := iI (z9)) ez9 ?_
  refine x_put (x := iI (z9)) hE hK hN hP hS 76 (Nat.lt_of_lt_of_le (by decide) hNN) (xG_1 rfl) rfl hin1 tyX1 tyX1_ok nmX1 4 (by decide) mw_194 rfl rfl rfl (Nat.le_of_ble_eq_true rfl) (xG_1 rfl) dX1_copyFrom_37 (fun v10 H locs hv10 hP hS => ?_)
  have hI := XI_putN hI hv10 (by decide)
  refine lv_aload_n hE.1 hE.2.1 dX1_copyFrom_40 rfl (lv_at hl 0 rfl) ?_
  refine lv_aload_n hE.1 hE.2.1 dX1_copyFrom_41 rfl (lv_at hl 1 rfl) ?_
  obtain ⟨z11, hz11, ez11⟩ := iI_of (v10 3 5)
  refine x_get (x := .int (v10 3 5)) hE hK hP 3 (Nat.lt_of_lt_of_le (by decide) hNN) (xG_1 rfl) rfl hin1 5 (by decide) mw_197 rfl dX1_copyFrom_42 ?_
  refine x_top (y := iI (z11)) ez11 ?_
  refine x_put (x := iI (z11)) hE hK hN hP hS 76 (Nat.lt_of_lt_of_le (by decide) hNN) (xG_1 rfl) rfl hin1 tyX1 tyX1_ok nmX1 5 (by decide) mw_197 rfl rfl rfl (Nat.le_of_ble_eq_true rfl) (xG_1 rfl) dX1_copyFrom_45 (fun v12 H locs hv12 hP hS => ?_)
  have hI := XI_putN hI hv12 (by decide)
  refine lv_aload_n hE.1 hE.2.1 dX1_copyFrom_48 rfl (lv_at hl 0 rfl) ?_
  refine lv_aload_n hE.1 hE.2.1 dX1_copyFrom_49 rfl (lv_at hl 1 rfl) ?_
  obtain ⟨z13, hz13, ez13⟩ := iI_of (v12 3 6)
  refine x_get (x := .int (v12 3 6)) hE hK hP 3 (Nat.lt_of_lt_of_le (by decide) hNN) (xG_1 rfl) rfl hin1 6 (by decide) mw_200 rfl dX1_copyFrom_50 ?_
  refine x_top (y := iI (z13)) ez13 ?_
  refine x_put (x := iI (z13)) hE hK hN hP hS 76 (Nat.lt_of_lt_of_le (by decide) hNN) (xG_1 rfl) rfl hin1 tyX1 tyX1_ok nmX1 6 (by decide) mw_200 rfl rfl rfl (Nat.le_of_ble_eq_true rfl) (xG_1 rfl) dX1_copyFrom_53 (fun v14 H locs hv14 hP hS => ?_)
  have hI := XI_putN hI hv14 (by decide)
  refine lv_aload_n hE.1 hE.2.1 dX1_copyFrom_56 rfl (lv_at hl 0 rfl) ?_
  refine lv_aload_n hE.1 hE.2.1 dX1_copyFrom_57 rfl (lv_at hl 1 rfl) ?_
  obtain ⟨z15, hz15, ez15⟩ := iI_of (v14 3 7)
  refine x_get (x := .int (v14 3 7)) hE hK hP 3 (Nat.lt_of_lt_of_le (by decide) hNN) (xG_1 rfl) rfl hin1 7 (by decide) mw_203 rfl dX1_copyFrom_58 ?_
  refine x_top (y := iI (z15)) ez15 ?_
  refine x_put (x := iI (z15)) hE hK hN hP hS 76 (Nat.lt_of_lt_of_le (by decide) hNN) (xG_1 rfl) rfl hin1 tyX1 tyX1_ok nmX1 7 (by decide) mw_203 rfl rfl rfl (Nat.le_of_ble_eq_true rfl) (xG_1 rfl) dX1_copyFrom_61 (fun v16 H locs hv16 hP hS => ?_)
  have hI := XI_putN hI hv16 (by decide)
  refine lv_aload_n hE.1 hE.2.1 dX1_copyFrom_64 rfl (lv_at hl 0 rfl) ?_
  refine lv_aload_n hE.1 hE.2.1 dX1_copyFrom_65 rfl (lv_at hl 1 rfl) ?_
  obtain ⟨z17, hz17, ez17⟩ := iI_of (v16 3 8)
  refine x_get (x := .int (v16 3 8)) hE hK hP 3 (Nat.lt_of_lt_of_le (by decide) hNN) (xG_1 rfl) rfl hin1 8 (by decide) mw_207 rfl dX1_copyFrom_66 ?_
  refine x_top (y := iI (z17)) ez17 ?_
  refine x_put (x := iI (z17)) hE hK hN hP hS 76 (Nat.lt_of_lt_of_le (by decide) hNN) (xG_1 rfl) rfl hin1 tyX1 tyX1_ok nmX1 8 (by decide) mw_207 rfl rfl rfl (Nat.le_of_ble_eq_true rfl) (xG_1 rfl) dX1_copyFrom_69 (fun v18 H locs hv18 hP hS => ?_)
  have hI := XI_putN hI hv18 (by decide)
  refine lv_aload_n hE.1 hE.2.1 dX1_copyFrom_72 rfl (lv_at hl 0 rfl) ?_
  refine lv_aload_n hE.1 hE.2.1 dX1_copyFrom_73 rfl (lv_at hl 1 rfl) ?_
  obtain ⟨z19, hz19, ez19⟩ := iI_of (v18 3 9)
  refine x_get (x := .int (v18 3 9)) hE hK hP 3 (Nat.lt_of_lt_of_le (by decide) hNN) (xG_1 rfl) rfl hin1 9 (by decide) mw_211 rfl dX1_copyFrom_74 ?_
  refine x_top (y := iI (z19)) ez19 ?_
  refine x_put (x := iI (z19)) hE hK hN hP hS 76 (Nat.lt_of_lt_of_le (by decide) hNN) (xG_1 rfl) rfl hin1 tyX1 tyX1_ok nmX1 9 (by decide) mw_211 rfl rfl rfl (Nat.le_of_ble_eq_true rfl) (xG_1 rfl) dX1_copyFrom_77 (fun v20 H locs hv20 hP hS => ?_)
  have hI := XI_putN hI hv20 (by decide)
  refine lv_aload_n hE.1 hE.2.1 dX1_copyFrom_80 rfl (lv_at hl 0 rfl) ?_
  refine lv_aload_n hE.1 hE.2.1 dX1_copyFrom_81 rfl (lv_at hl 1 rfl) ?_
  obtain ⟨z21, hz21, ez21⟩ := iI_of (v20 3 10)
  refine x_get (x := .int (v20 3 10)) hE hK hP 3 (Nat.lt_of_lt_of_le (by decide) hNN) (xG_1 rfl) rfl hin1 10 (by decide) mw_214 rfl dX1_copyFrom_82 ?_
  refine x_top (y := iI (z21)) ez21 ?_
  refine x_put (x := iI (z21)) hE hK hN hP hS 76 (Nat.lt_of_lt_of_le (by decide) hNN) (xG_1 rfl) rfl hin1 tyX1 tyX1_ok nmX1 10 (by decide) mw_214 rfl rfl rfl (Nat.le_of_ble_eq_true rfl) (xG_1 rfl) dX1_copyFrom_85 (fun v22 H locs hv22 hP hS => ?_)
  have hI := XI_putN hI hv22 (by decide)
  refine lv_aload_n hE.1 hE.2.1 dX1_copyFrom_88 rfl (lv_at hl 1 rfl) ?_
  refine x_get (x := .ref (ad 4)) hE hK hP 3 (Nat.lt_of_lt_of_le (by decide) hNN) (xG_1 rfl) rfl hin1 11 (by decide) mw_218 rfl dX1_copyFrom_89 ?_
  refine lv_iconst (v := iI (0)) hE.1 hE.2.1 dX1_copyFrom_92 (by decide) ?_
  refine lv_aload_n hE.1 hE.2.1 dX1_copyFrom_93 rfl (lv_at hl 0 rfl) ?_
  refine x_get (x := .ref (ad 77)) hE hK hP 76 (Nat.lt_of_lt_of_le (by decide) hNN) (xG_1 rfl) rfl hin1 11 (by decide) mw_218 rfl dX1_copyFrom_94 ?_
  refine lv_iconst (v := iI (0)) hE.1 hE.2.1 dX1_copyFrom_97 (by decide) ?_
  refine lv_bipush (v := iI (9)) hE.1 hE.2.1 dX1_copyFrom_98 (by decide) ?_
  refine x_copyi (rest := []) (sp := iI (0)) (dp := iI (0)) (n := iI (9)) (n0 := 9) (n1 := 9) hE hl.1 hK hN hP hS mw_678 mw_680 mw_679 mw_130 4 77 (Nat.lt_of_lt_of_le (by decide) hNN) (Nat.lt_of_lt_of_le (by decide) hNN) (xG_10 rfl) (fun _ => xG_10 rfl) (by decide) (by decide) (by decide) (by decide) (by decide) (by decide) (by decide) dX1_copyFrom_100 (fun ar23 H locs ha23 hP hS => ?_)
  refine lv_aload_n hE.1 hE.2.1 dX1_copyFrom_103 rfl (lv_at hl 1 rfl) ?_
  refine x_get (x := .ref (ad 5)) hE hK hP 3 (Nat.lt_of_lt_of_le (by decide) hNN) (xG_1 rfl) rfl hin1 12 (by decide) mw_221 rfl dX1_copyFrom_104 ?_
  refine lv_iconst (v := iI (0)) hE.1 hE.2.1 dX1_copyFrom_107 (by decide) ?_
  refine lv_aload_n hE.1 hE.2.1 dX1_copyFrom_108 rfl (lv_at hl 0 rfl) ?_
  refine x_get (x := .ref (ad 78)) hE hK hP 76 (Nat.lt_of_lt_of_le (by decide) hNN) (xG_1 rfl) rfl hin1 12 (by decide) mw_221 rfl dX1_copyFrom_109 ?_
  refine lv_iconst (v := iI (0)) hE.1 hE.2.1 dX1_copyFrom_112 (by decide) ?_
  refine lv_bipush (v := iI (9)) hE.1 hE.2.1 dX1_copyFrom_113 (by decide) ?_
  refine x_copyi (rest := []) (sp := iI (0)) (dp := iI (0)) (n := iI (9)) (n0 := 9) (n1 := 9) hE hl.1 hK hN hP hS mw_678 mw_680 mw_679 mw_130 5 78 (Nat.lt_of_lt_of_le (by decide) hNN) (Nat.lt_of_lt_of_le (by decide) hNN) (xG_10 rfl) (fun _ => xG_10 rfl) (by decide) (by decide) (by decide) (by decide) (by decide) (by decide) (by decide) dX1_copyFrom_115 (fun ar24 H locs ha24 hP hS => ?_)
  refine lv_aload_n hE.1 hE.2.1 dX1_copyFrom_118 rfl (lv_at hl 1 rfl) ?_
  refine x_get (x := .ref (ad 6)) hE hK hP 3 (Nat.lt_of_lt_of_le (by decide) hNN) (xG_1 rfl) rfl hin1 13 (by decide) mw_225 rfl dX1_copyFrom_119 ?_
  refine lv_iconst (v := iI (0)) hE.1 hE.2.1 dX1_copyFrom_122 (by decide) ?_
  refine lv_aload_n hE.1 hE.2.1 dX1_copyFrom_123 rfl (lv_at hl 0 rfl) ?_
  refine x_get (x := .ref (ad 79)) hE hK hP 76 (Nat.lt_of_lt_of_le (by decide) hNN) (xG_1 rfl) rfl hin1 13 (by decide) mw_225 rfl dX1_copyFrom_124 ?_
  refine lv_iconst (v := iI (0)) hE.1 hE.2.1 dX1_copyFrom_127 (by decide) ?_
  refine lv_bipush (v := iI (9)) hE.1 hE.2.1 dX1_copyFrom_128 (by decide) ?_
  refine x_copyi (rest := []) (sp := iI (0)) (dp := iI (0)) (n := iI (9)) (n0 := 9) (n1 := 9) hE hl.1 hK hN hP hS mw_678 mw_680 mw_679 mw_130 6 79 (Nat.lt_of_lt_of_le (by decide) hNN) (Nat.lt_of_lt_of_le (by decide) hNN) (xG_10 rfl) (fun _ => xG_10 rfl) (by decide) (by decide) (by decide) (by decide) (by decide) (by decide) (by decide) dX1_copyFrom_130 (fun ar25 H locs ha25 hP hS => ?_)
  refine lv_aload_n hE.1 hE.2.1 dX1_copyFrom_133 rfl (lv_at hl 1 rfl) ?_
  refine x_get (x := .ref (ad 7)) hE hK hP 3 (Nat.lt_of_lt_of_le (by decide) hNN) (xG_1 rfl) rfl hin1 14 (by decide) mw_229 rfl dX1_copyFrom_134 ?_
  refine lv_iconst (v := iI (0)) hE.1 hE.2.1 dX1_copyFrom_137 (by decide) ?_
  refine lv_aload_n hE.1 hE.2.1 dX1_copyFrom_138 rfl (lv_at hl 0 rfl) ?_
  refine x_get (x := .ref (ad 80)) hE hK hP 76 (Nat.lt_of_lt_of_le (by decide) hNN) (xG_1 rfl) rfl hin1 14 (by decide) mw_229 rfl dX1_copyFrom_139 ?_
  refine lv_iconst (v := iI (0)) hE.1 hE.2.1 dX1_copyFrom_142 (by decide) ?_
  refine lv_bipush (v := iI (9)) hE.1 hE.2.1 dX1_copyFrom_143 (by decide) ?_
  refine x_copyi (rest := []) (sp := iI (0)) (dp := iI (0)) (n := iI (9)) (n0 := 9) (n1 := 9) hE hl.1 hK hN hP hS mw_678 mw_680 mw_679 mw_130 7 80 (Nat.lt_of_lt_of_le (by decide) hNN) (Nat.lt_of_lt_of_le (by decide) hNN) (xG_10 rfl) (fun _ => xG_10 rfl) (by decide) (by decide) (by decide) (by decide) (by decide) (by decide) (by decide) dX1_copyFrom_145 (fun ar26 H locs ha26 hP hS => ?_)
  refine lv_aload_n hE.1 hE.2.1 dX1_copyFrom_148 rfl (lv_at hl 1 rfl) ?_
  refine x_get (x := .ref (ad 8)) hE hK hP 3 (Nat.lt_of_lt_of_le (by decide) hNN) (xG_1 rfl) rfl hin1 15 (by decide) mw_231 rfl dX1_copyFrom_149 ?_
  refine lv_iconst (v := iI (0)) hE.1 hE.2.1 dX1_copyFrom_152 (by decide) ?_
  refine lv_aload_n hE.1 hE.2.1 dX1_copyFrom_153 rfl (lv_at hl 0 rfl) ?_
  refine x_get (x := .ref (ad 81)) hE hK hP 76 (Nat.lt_of_lt_of_le (by decide) hNN) (xG_1 rfl) rfl hin1 15 (by decide) mw_231 rfl dX1_copyFrom_154 ?_
  refine lv_iconst (v := iI (0)) hE.1 hE.2.1 dX1_copyFrom_157 (by decide) ?_
  refine lv_bipush (v := iI (9)) hE.1 hE.2.1 dX1_copyFrom_158 (by decide) ?_
  refine x_copyi (rest := []) (sp := iI (0)) (dp := iI (0)) (n := iI (9)) (n0 := 9) (n1 := 9) hE hl.1 hK hN hP hS mw_678 mw_680 mw_679 mw_130 8 81 (Nat.lt_of_lt_of_le (by decide) hNN) (Nat.lt_of_lt_of_le (by decide) hNN) (xG_10 rfl) (fun _ => xG_10 rfl) (by decide) (by decide) (by decide) (by decide) (by decide) (by decide) (by decide) dX1_copyFrom_160 (fun ar27 H locs ha27 hP hS => ?_)
  refine lv_aload_n hE.1 hE.2.1 dX1_copyFrom_163 rfl (lv_at hl 1 rfl) ?_
  refine x_get (x := .ref (ad 9)) hE hK hP 3 (Nat.lt_of_lt_of_le (by decide) hNN) (xG_1 rfl) rfl hin1 16 (by decide) mw_235 rfl dX1_copyFrom_164 ?_
  refine lv_iconst (v := iI (0)) hE.1 hE.2.1 dX1_copyFrom_167 (by decide) ?_
  refine lv_aload_n hE.1 hE.2.1 dX1_copyFrom_168 rfl (lv_at hl 0 rfl) ?_
  refine x_get (x := .ref (ad 82)) hE hK hP 76 (Nat.lt_of_lt_of_le (by decide) hNN) (xG_1 rfl) rfl hin1 16 (by decide) mw_235 rfl dX1_copyFrom_169 ?_
  refine lv_iconst (v := iI (0)) hE.1 hE.2.1 dX1_copyFrom_172 (by decide) ?_
  refine lv_bipush (v := iI (9)) hE.1 hE.2.1 dX1_copyFrom_173 (by decide) ?_
  refine x_copyi (rest := []) (sp := iI (0)) (dp := iI (0)) (n := iI (9)) (n0 := 9) (n1 := 9) hE hl.1 hK hN hP hS mw_678 mw_680 mw_679 mw_130 9 82 (Nat.lt_of_lt_of_le (by decide) hNN) (Nat.lt_of_lt_of_le (by decide) hNN) (xG_10 rfl) (fun _ => xG_10 rfl) (by decide) (by decide) (by decide) (by decide) (by decide) (by decide) (by decide) dX1_copyFrom_175 (fun ar28 H locs ha28 hP hS => ?_)
  refine lv_aload_n hE.1 hE.2.1 dX1_copyFrom_178 rfl (lv_at hl 1 rfl) ?_
  refine x_get (x := .ref (ad 10)) hE hK hP 3 (Nat.lt_of_lt_of_le (by decide) hNN) (xG_1 rfl) rfl hin1 17 (by decide) mw_239 rfl dX1_copyFrom_179 ?_
  refine lv_iconst (v := iI (0)) hE.1 hE.2.1 dX1_copyFrom_182 (by decide) ?_
  refine lv_aload_n hE.1 hE.2.1 dX1_copyFrom_183 rfl (lv_at hl 0 rfl) ?_
  refine x_get (x := .ref (ad 83)) hE hK hP 76 (Nat.lt_of_lt_of_le (by decide) hNN) (xG_1 rfl) rfl hin1 17 (by decide) mw_239 rfl dX1_copyFrom_184 ?_
  refine lv_iconst (v := iI (0)) hE.1 hE.2.1 dX1_copyFrom_187 (by decide) ?_
  refine lv_iconst (v := iI (3)) hE.1 hE.2.1 dX1_copyFrom_188 (by decide) ?_
  refine x_copyi (rest := []) (sp := iI (0)) (dp := iI (0)) (n := iI (3)) (n0 := 3) (n1 := 3) hE hl.1 hK hN hP hS mw_678 mw_680 mw_679 mw_130 10 83 (Nat.lt_of_lt_of_le (by decide) hNN) (Nat.lt_of_lt_of_le (by decide) hNN) (xG_10 rfl) (fun _ => xG_10 rfl) (by decide) (by decide) (by decide) (by decide) (by decide) (by decide) (by decide) dX1_copyFrom_189 (fun ar29 H locs ha29 hP hS => ?_)
  refine lv_aload_n hE.1 hE.2.1 dX1_copyFrom_192 rfl (lv_at hl 1 rfl) ?_
  refine x_get (x := .ref (ad 11)) hE hK hP 3 (Nat.lt_of_lt_of_le (by decide) hNN) (xG_1 rfl) rfl hin1 18 (by decide) mw_241 rfl dX1_copyFrom_193 ?_
  refine lv_iconst (v := iI (0)) hE.1 hE.2.1 dX1_copyFrom_196 (by decide) ?_
  refine lv_aload_n hE.1 hE.2.1 dX1_copyFrom_197 rfl (lv_at hl 0 rfl) ?_
  refine x_get (x := .ref (ad 84)) hE hK hP 76 (Nat.lt_of_lt_of_le (by decide) hNN) (xG_1 rfl) rfl hin1 18 (by decide) mw_241 rfl dX1_copyFrom_198 ?_
  refine lv_iconst (v := iI (0)) hE.1 hE.2.1 dX1_copyFrom_201 (by decide) ?_
  refine lv_bipush (v := iI (8)) hE.1 hE.2.1 dX1_copyFrom_202 (by decide) ?_
  refine x_copyi (rest := []) (sp := iI (0)) (dp := iI (0)) (n := iI (8)) (n0 := 8) (n1 := 8) hE hl.1 hK hN hP hS mw_678 mw_680 mw_679 mw_130 11 84 (Nat.lt_of_lt_of_le (by decide) hNN) (Nat.lt_of_lt_of_le (by decide) hNN) (xG_10 rfl) (fun _ => xG_10 rfl) (by decide) (by decide) (by decide) (by decide) (by decide) (by decide) (by decide) dX1_copyFrom_204 (fun ar30 H locs ha30 hP hS => ?_)
  refine lv_aload_n hE.1 hE.2.1 dX1_copyFrom_207 rfl (lv_at hl 1 rfl) ?_
  refine x_get (x := .ref (ad 12)) hE hK hP 3 (Nat.lt_of_lt_of_le (by decide) hNN) (xG_1 rfl) rfl hin1 19 (by decide) mw_244 rfl dX1_copyFrom_208 ?_
  refine lv_iconst (v := iI (0)) hE.1 hE.2.1 dX1_copyFrom_211 (by decide) ?_
  refine lv_aload_n hE.1 hE.2.1 dX1_copyFrom_212 rfl (lv_at hl 0 rfl) ?_
  refine x_get (x := .ref (ad 85)) hE hK hP 76 (Nat.lt_of_lt_of_le (by decide) hNN) (xG_1 rfl) rfl hin1 19 (by decide) mw_244 rfl dX1_copyFrom_213 ?_
  refine lv_iconst (v := iI (0)) hE.1 hE.2.1 dX1_copyFrom_216 (by decide) ?_
  refine lv_bipush (v := iI (8)) hE.1 hE.2.1 dX1_copyFrom_217 (by decide) ?_
  refine x_copyi (rest := []) (sp := iI (0)) (dp := iI (0)) (n := iI (8)) (n0 := 8) (n1 := 8) hE hl.1 hK hN hP hS mw_678 mw_680 mw_679 mw_130 12 85 (Nat.lt_of_lt_of_le (by decide) hNN) (Nat.lt_of_lt_of_le (by decide) hNN) (xG_10 rfl) (fun _ => xG_10 rfl) (by decide) (by decide) (by decide) (by decide) (by decide) (by decide) (by decide) dX1_copyFrom_219 (fun ar31 H locs ha31 hP hS => ?_)
  exact kr _ _ _ _ _ _ _ ⟨hI, fun i j h => ((up_oth hv22 (fun q => h (by rcases q with ⟨rfl, rfl⟩; decide))).trans ((up_oth hv20 (fun q => h (by rcases q with ⟨rfl, rfl⟩; decide))).trans ((up_oth hv18 (fun q => h (by rcases q with ⟨rfl, rfl⟩; decide))).trans ((up_oth hv16 (fun q => h (by rcases q with ⟨rfl, rfl⟩; decide))).trans ((up_oth hv14 (fun q => h (by rcases q with ⟨rfl, rfl⟩; decide))).trans ((up_oth hv12 (fun q => h (by rcases q with ⟨rfl, rfl⟩; decide))).trans ((up_oth hv10 (fun q => h (by rcases q with ⟨rfl, rfl⟩; decide))).trans ((up_oth hv8 (fun q => h (by rcases q with ⟨rfl, rfl⟩; decide))).trans ((up_oth hv6 (fun q => h (by rcases q with ⟨rfl, rfl⟩; decide))).trans ((up_oth hv4 (fun q => h (by rcases q with ⟨rfl, rfl⟩; decide))).trans (up_oth hv2 (fun q => h (by rcases q with ⟨rfl, rfl⟩; decide)))))))))))))⟩ hP hS dX1_copyFrom_222

theorem dX7_copyFrom_0 : decode cX7_copyFrom 0 = .ok (.aload_n 0, 1) := by decide +kernel
theorem dX7_copyFrom_1 : decode cX7_copyFrom 1 = .ok (.aload_n 1, 1) := by decide +kernel
theorem dX7_copyFrom_2 : decode cX7_copyFrom 2 = .ok (.getfield 41, 3) := by decide +kernel
theorem dX7_copyFrom_5 : decode cX7_copyFrom 5 = .ok (.putfield 41, 3) := by decide +kernel
theorem dX7_copyFrom_8 : decode cX7_copyFrom 8 = .ok (.aload_n 0, 1) := by decide +kernel
theorem dX7_copyFrom_9 : decode cX7_copyFrom 9 = .ok (.aload_n 1, 1) := by decide +kernel
theorem dX7_copyFrom_10 : decode cX7_copyFrom 10 = .ok (.getfield 44, 3) := by decide +kernel
theorem dX7_copyFrom_13 : decode cX7_copyFrom 13 = .ok (.putfield 44, 3) := by decide +kernel
theorem dX7_copyFrom_16 : decode cX7_copyFrom 16 = .ok (.aload_n 0, 1) := by decide +kernel
theorem dX7_copyFrom_17 : decode cX7_copyFrom 17 = .ok (.aload_n 1, 1) := by decide +kernel
theorem dX7_copyFrom_18 : decode cX7_copyFrom 18 = .ok (.getfield 18, 3) := by decide +kernel
theorem dX7_copyFrom_21 : decode cX7_copyFrom 21 = .ok (.putfield 18, 3) := by decide +kernel
theorem dX7_copyFrom_24 : decode cX7_copyFrom 24 = .ok (.aload_n 0, 1) := by decide +kernel
theorem dX7_copyFrom_25 : decode cX7_copyFrom 25 = .ok (.aload_n 1, 1) := by decide +kernel
theorem dX7_copyFrom_26 : decode cX7_copyFrom 26 = .ok (.getfield 47, 3) := by decide +kernel
theorem dX7_copyFrom_29 : decode cX7_copyFrom 29 = .ok (.putfield 47, 3) := by decide +kernel
theorem dX7_copyFrom_32 : decode cX7_copyFrom 32 = .ok (.aload_n 0, 1) := by decide +kernel
theorem dX7_copyFrom_33 : decode cX7_copyFrom 33 = .ok (.aload_n 1, 1) := by decide +kernel
theorem dX7_copyFrom_34 : decode cX7_copyFrom 34 = .ok (.getfield 50, 3) := by decide +kernel
theorem dX7_copyFrom_37 : decode cX7_copyFrom 37 = .ok (.putfield 50, 3) := by decide +kernel
theorem dX7_copyFrom_40 : decode cX7_copyFrom 40 = .ok (.aload_n 0, 1) := by decide +kernel
theorem dX7_copyFrom_41 : decode cX7_copyFrom 41 = .ok (.aload_n 1, 1) := by decide +kernel
theorem dX7_copyFrom_42 : decode cX7_copyFrom 42 = .ok (.getfield 53, 3) := by decide +kernel
theorem dX7_copyFrom_45 : decode cX7_copyFrom 45 = .ok (.putfield 53, 3) := by decide +kernel
theorem dX7_copyFrom_48 : decode cX7_copyFrom 48 = .ok (.aload_n 1, 1) := by decide +kernel
theorem dX7_copyFrom_49 : decode cX7_copyFrom 49 = .ok (.getfield 9, 3) := by decide +kernel
theorem dX7_copyFrom_52 : decode cX7_copyFrom 52 = .ok (.iconst 0, 1) := by decide +kernel
theorem dX7_copyFrom_53 : decode cX7_copyFrom 53 = .ok (.aload_n 0, 1) := by decide +kernel
theorem dX7_copyFrom_54 : decode cX7_copyFrom 54 = .ok (.getfield 9, 3) := by decide +kernel
theorem dX7_copyFrom_57 : decode cX7_copyFrom 57 = .ok (.iconst 0, 1) := by decide +kernel
theorem dX7_copyFrom_58 : decode cX7_copyFrom 58 = .ok (.bipush 18, 2) := by decide +kernel
theorem dX7_copyFrom_60 : decode cX7_copyFrom 60 = .ok (.invokestatic 62, 3) := by decide +kernel
theorem dX7_copyFrom_63 : decode cX7_copyFrom 63 = .ok (.aload_n 1, 1) := by decide +kernel
theorem dX7_copyFrom_64 : decode cX7_copyFrom 64 = .ok (.getfield 15, 3) := by decide +kernel
theorem dX7_copyFrom_67 : decode cX7_copyFrom 67 = .ok (.iconst 0, 1) := by decide +kernel
theorem dX7_copyFrom_68 : decode cX7_copyFrom 68 = .ok (.aload_n 0, 1) := by decide +kernel
theorem dX7_copyFrom_69 : decode cX7_copyFrom 69 = .ok (.getfield 15, 3) := by decide +kernel
theorem dX7_copyFrom_72 : decode cX7_copyFrom 72 = .ok (.iconst 0, 1) := by decide +kernel
theorem dX7_copyFrom_73 : decode cX7_copyFrom 73 = .ok (.bipush 9, 2) := by decide +kernel
theorem dX7_copyFrom_75 : decode cX7_copyFrom 75 = .ok (.invokestatic 62, 3) := by decide +kernel
theorem dX7_copyFrom_78 : decode cX7_copyFrom 78 = .ok (.aload_n 1, 1) := by decide +kernel
theorem dX7_copyFrom_79 : decode cX7_copyFrom 79 = .ok (.getfield 22, 3) := by decide +kernel
theorem dX7_copyFrom_82 : decode cX7_copyFrom 82 = .ok (.iconst 0, 1) := by decide +kernel
theorem dX7_copyFrom_83 : decode cX7_copyFrom 83 = .ok (.aload_n 0, 1) := by decide +kernel
theorem dX7_copyFrom_84 : decode cX7_copyFrom 84 = .ok (.getfield 22, 3) := by decide +kernel
theorem dX7_copyFrom_87 : decode cX7_copyFrom 87 = .ok (.iconst 0, 1) := by decide +kernel
theorem dX7_copyFrom_88 : decode cX7_copyFrom 88 = .ok (.iconst 3, 1) := by decide +kernel
theorem dX7_copyFrom_89 : decode cX7_copyFrom 89 = .ok (.invokestatic 62, 3) := by decide +kernel
theorem dX7_copyFrom_92 : decode cX7_copyFrom 92 = .ok (.aload_n 1, 1) := by decide +kernel
theorem dX7_copyFrom_93 : decode cX7_copyFrom 93 = .ok (.getfield 25, 3) := by decide +kernel
theorem dX7_copyFrom_96 : decode cX7_copyFrom 96 = .ok (.iconst 0, 1) := by decide +kernel
theorem dX7_copyFrom_97 : decode cX7_copyFrom 97 = .ok (.aload_n 0, 1) := by decide +kernel
theorem dX7_copyFrom_98 : decode cX7_copyFrom 98 = .ok (.getfield 25, 3) := by decide +kernel
theorem dX7_copyFrom_101 : decode cX7_copyFrom 101 = .ok (.iconst 0, 1) := by decide +kernel
theorem dX7_copyFrom_102 : decode cX7_copyFrom 102 = .ok (.bipush 18, 2) := by decide +kernel
theorem dX7_copyFrom_104 : decode cX7_copyFrom 104 = .ok (.invokestatic 62, 3) := by decide +kernel
theorem dX7_copyFrom_107 : decode cX7_copyFrom 107 = .ok (.aload_n 1, 1) := by decide +kernel
theorem dX7_copyFrom_108 : decode cX7_copyFrom 108 = .ok (.getfield 28, 3) := by decide +kernel
theorem dX7_copyFrom_111 : decode cX7_copyFrom 111 = .ok (.iconst 0, 1) := by decide +kernel
theorem dX7_copyFrom_112 : decode cX7_copyFrom 112 = .ok (.aload_n 0, 1) := by decide +kernel
theorem dX7_copyFrom_113 : decode cX7_copyFrom 113 = .ok (.getfield 28, 3) := by decide +kernel
theorem dX7_copyFrom_116 : decode cX7_copyFrom 116 = .ok (.iconst 0, 1) := by decide +kernel
theorem dX7_copyFrom_117 : decode cX7_copyFrom 117 = .ok (.bipush 18, 2) := by decide +kernel
theorem dX7_copyFrom_119 : decode cX7_copyFrom 119 = .ok (.invokestatic 62, 3) := by decide +kernel
theorem dX7_copyFrom_122 : decode cX7_copyFrom 122 = .ok (.aload_n 1, 1) := by decide +kernel
theorem dX7_copyFrom_123 : decode cX7_copyFrom 123 = .ok (.getfield 31, 3) := by decide +kernel
theorem dX7_copyFrom_126 : decode cX7_copyFrom 126 = .ok (.iconst 0, 1) := by decide +kernel
theorem dX7_copyFrom_127 : decode cX7_copyFrom 127 = .ok (.aload_n 0, 1) := by decide +kernel
theorem dX7_copyFrom_128 : decode cX7_copyFrom 128 = .ok (.getfield 31, 3) := by decide +kernel
theorem dX7_copyFrom_131 : decode cX7_copyFrom 131 = .ok (.iconst 0, 1) := by decide +kernel
theorem dX7_copyFrom_132 : decode cX7_copyFrom 132 = .ok (.bipush 18, 2) := by decide +kernel
theorem dX7_copyFrom_134 : decode cX7_copyFrom 134 = .ok (.invokestatic 62, 3) := by decide +kernel
theorem dX7_copyFrom_137 : decode cX7_copyFrom 137 = .ok (.aload_n 1, 1) := by decide +kernel
theorem dX7_copyFrom_138 : decode cX7_copyFrom 138 = .ok (.getfield 34, 3) := by decide +kernel
theorem dX7_copyFrom_141 : decode cX7_copyFrom 141 = .ok (.iconst 0, 1) := by decide +kernel
theorem dX7_copyFrom_142 : decode cX7_copyFrom 142 = .ok (.aload_n 0, 1) := by decide +kernel
theorem dX7_copyFrom_143 : decode cX7_copyFrom 143 = .ok (.getfield 34, 3) := by decide +kernel
theorem dX7_copyFrom_146 : decode cX7_copyFrom 146 = .ok (.iconst 0, 1) := by decide +kernel
theorem dX7_copyFrom_147 : decode cX7_copyFrom 147 = .ok (.bipush 18, 2) := by decide +kernel
theorem dX7_copyFrom_149 : decode cX7_copyFrom 149 = .ok (.invokestatic 62, 3) := by decide +kernel
theorem dX7_copyFrom_152 : decode cX7_copyFrom 152 = .ok (.return_, 1) := by decide +kernel
set_option maxHeartbeats 4000000 in
set_option maxRecDepth 100000 in
theorem s_X7_copyFrom_86_23 (l : Launch) (D : va_G) (K : Nat → ClassId) (ad : Nat → Nat) (mm : Option Nat) (N : Nat) (hNN : 132 ≤ N) (v ar : sI) (al : sL) (hI : XI v) : Met l yX7_copyFrom (wM yX7_copyFrom cX7_copyFrom 2 none) (rmD 1) (va_Pc [.ref (ad 86), .ref (ad 23)] (wPre D K ad (xG ad K mm) N v ar al)) (va_Qv (fun u : sT => XI u.1 ∧ (∀ i j : Nat, (i, j) ∉ ([(86, 2), (86, 3), (86, 4), (86, 5), (86, 8), (86, 9)] : List (Nat × Nat)) → u.1 i j = v i j)) (wB D ad (xG ad K mm) N) (inW ad N)) 0 0 (inW ad N) := by
  refine s_metV (by decide) (Nat.le_of_ble_eq_true rfl) ?_
  intro p e s m below meth c ls args Q hE hB hl kr
  have hE : CallFix p m c cX7_copyFrom 2 s args tbG "TaleCourt$Telling" := hE
  obtain ⟨hP, hK, hN⟩ := hB
  have hS : va_S (inW ad N) s.heap s.heap [] := va_S.rf
  have hl : lv_has ls 2 [(0, .ref (ad 86)), (1, .ref (ad 23))] := hl
  refine lv_aload_n hE.1 hE.2.1 dX7_copyFrom_0 rfl (lv_at hl 0 rfl) ?_
  refine lv_aload_n hE.1 hE.2.1 dX7_copyFrom_1 rfl (lv_at hl 1 rfl) ?_
  obtain ⟨z1, hz1, ez1⟩ := XI_get hI 23 2 0 18 (by decide)
  refine x_get (x := .int (v 23 2)) hE hK hP 23 (Nat.lt_of_lt_of_le (by decide) hNN) (xG_7 rfl) rfl hin7 2 (by decide) mw_301 rfl dX7_copyFrom_2 ?_
  refine x_top (y := iI (z1)) ez1 ?_
  refine x_put (x := iI (z1)) hE hK hN hP hS 86 (Nat.lt_of_lt_of_le (by decide) hNN) (xG_7 rfl) rfl hin7 tyX7 tyX7_ok nmX7 2 (by decide) mw_301 rfl rfl rfl (Nat.le_of_ble_eq_true rfl) (xG_7 rfl) dX7_copyFrom_5 (fun v2 H locs hv2 hP hS => ?_)
  have hI := XI_putB (z := z1) hI hv2 0 18 (by omega) (by decide) (by omega)
  refine lv_aload_n hE.1 hE.2.1 dX7_copyFrom_8 rfl (lv_at hl 0 rfl) ?_
  refine lv_aload_n hE.1 hE.2.1 dX7_copyFrom_9 rfl (lv_at hl 1 rfl) ?_
  obtain ⟨z3, hz3, ez3⟩ := iI_of (v2 23 3)
  refine x_get (x := .int (v2 23 3)) hE hK hP 23 (Nat.lt_of_lt_of_le (by decide) hNN) (xG_7 rfl) rfl hin7 3 (by decide) mw_305 rfl dX7_copyFrom_10 ?_
  refine x_top (y := iI (z3)) ez3 ?_
  refine x_put (x := iI (z3)) hE hK hN hP hS 86 (Nat.lt_of_lt_of_le (by decide) hNN) (xG_7 rfl) rfl hin7 tyX7 tyX7_ok nmX7 3 (by decide) mw_305 rfl rfl rfl (Nat.le_of_ble_eq_true rfl) (xG_7 rfl) dX7_copyFrom_13 (fun v4 H locs hv4 hP hS => ?_)
  have hI := XI_putN hI hv4 (by decide)
  refine lv_aload_n hE.1 hE.2.1 dX7_copyFrom_16 rfl (lv_at hl 0 rfl) ?_
  refine lv_aload_n hE.1 hE.2.1 dX7_copyFrom_17 rfl (lv_at hl 1 rfl) ?_
  obtain ⟨z5, hz5, ez5⟩ := iI_of (v4 23 4)
  refine x_get (x := .int (v4 23 4)) hE hK hP 23 (Nat.lt_of_lt_of_le (by decide) hNN) (xG_7 rfl) rfl hin7 4 (by decide) mw_309 rfl dX7_copyFrom_18 ?_
  refine x_top (y := iI (z5)) ez5 ?_
  refine x_put (x := iI (z5)) hE hK hN hP hS 86 (Nat.lt_of_lt_of_le (by decide) hNN) (xG_7 rfl) rfl hin7 tyX7 tyX7_ok nmX7 4 (by decide) mw_309 rfl rfl rfl (Nat.le_of_ble_eq_true rfl) (xG_7 rfl) dX7_copyFrom_21 (fun v6 H locs hv6 hP hS => ?_)
  have hI := XI_putN hI hv6 (by decide)
  refine lv_aload_n hE.1 hE.2.1 dX7_copyFrom_24 rfl (lv_at hl 0 rfl) ?_
  refine lv_aload_n hE.1 hE.2.1 dX7_copyFrom_25 rfl (lv_at hl 1 rfl) ?_
  obtain ⟨z7, hz7, ez7⟩ := iI_of (v6 23 5)
  refine x_get (x := .int (v6 23 5)) hE hK hP 23 (Nat.lt_of_lt_of_le (by decide) hNN) (xG_7 rfl) rfl hin7 5 (by decide) mw_312 rfl dX7_copyFrom_26 ?_
  refine x_top (y := iI (z7)) ez7 ?_
  refine x_put (x := iI (z7)) hE hK hN hP hS 86 (Nat.lt_of_lt_of_le (by decide) hNN) (xG_7 rfl) rfl hin7 tyX7 tyX7_ok nmX7 5 (by decide) mw_312 rfl rfl rfl (Nat.le_of_ble_eq_true rfl) (xG_7 rfl) dX7_copyFrom_29 (fun v8 H locs hv8 hP hS => ?_)
  have hI := XI_putN hI hv8 (by decide)
  refine lv_aload_n hE.1 hE.2.1 dX7_copyFrom_32 rfl (lv_at hl 0 rfl) ?_
  refine lv_aload_n hE.1 hE.2.1 dX7_copyFrom_33 rfl (lv_at hl 1 rfl) ?_
  obtain ⟨z9, hz9, ez9⟩ := iI_of (v8 23 8)
  refine x_get (x := .int (v8 23 8)) hE hK hP 23 (Nat.lt_of_lt_of_le (by decide) hNN) (xG_7 rfl) rfl hin7 8 (by decide) mw_317 rfl dX7_copyFrom_34 ?_
  refine x_top (y := iI (z9)) ez9 ?_
  refine x_put (x := iI (z9)) hE hK hN hP hS 86 (Nat.lt_of_lt_of_le (by decide) hNN) (xG_7 rfl) rfl hin7 tyX7 tyX7_ok nmX7 8 (by decide) mw_317 rfl rfl rfl (Nat.le_of_ble_eq_true rfl) (xG_7 rfl) dX7_copyFrom_37 (fun v10 H locs hv10 hP hS => ?_)
  have hI := XI_putN hI hv10 (by decide)
  refine lv_aload_n hE.1 hE.2.1 dX7_copyFrom_40 rfl (lv_at hl 0 rfl) ?_
  refine lv_aload_n hE.1 hE.2.1 dX7_copyFrom_41 rfl (lv_at hl 1 rfl) ?_
  obtain ⟨z11, hz11, ez11⟩ := iI_of (v10 23 9)
  refine x_get (x := .int (v10 23 9)) hE hK hP 23 (Nat.lt_of_lt_of_le (by decide) hNN) (xG_7 rfl) rfl hin7 9 (by decide) mw_318 rfl dX7_copyFrom_42 ?_
  refine x_top (y := iI (z11)) ez11 ?_
  refine x_put (x := iI (z11)) hE hK hN hP hS 86 (Nat.lt_of_lt_of_le (by decide) hNN) (xG_7 rfl) rfl hin7 tyX7 tyX7_ok nmX7 9 (by decide) mw_318 rfl rfl rfl (Nat.le_of_ble_eq_true rfl) (xG_7 rfl) dX7_copyFrom_45 (fun v12 H locs hv12 hP hS => ?_)
  have hI := XI_putN hI hv12 (by decide)
  refine lv_aload_n hE.1 hE.2.1 dX7_copyFrom_48 rfl (lv_at hl 1 rfl) ?_
  refine x_get (x := .ref (ad 24)) hE hK hP 23 (Nat.lt_of_lt_of_le (by decide) hNN) (xG_7 rfl) rfl hin7 0 (by decide) mw_295 rfl dX7_copyFrom_49 ?_
  refine lv_iconst (v := iI (0)) hE.1 hE.2.1 dX7_copyFrom_52 (by decide) ?_
  refine lv_aload_n hE.1 hE.2.1 dX7_copyFrom_53 rfl (lv_at hl 0 rfl) ?_
  refine x_get (x := .ref (ad 87)) hE hK hP 86 (Nat.lt_of_lt_of_le (by decide) hNN) (xG_7 rfl) rfl hin7 0 (by decide) mw_295 rfl dX7_copyFrom_54 ?_
  refine lv_iconst (v := iI (0)) hE.1 hE.2.1 dX7_copyFrom_57 (by decide) ?_
  refine lv_bipush (v := iI (18)) hE.1 hE.2.1 dX7_copyFrom_58 (by decide) ?_
  refine x_copyi (rest := []) (sp := iI (0)) (dp := iI (0)) (n := iI (18)) (n0 := 18) (n1 := 18) hE hl.1 hK hN hP hS mw_912 mw_680 mw_679 mw_130 24 87 (Nat.lt_of_lt_of_le (by decide) hNN) (Nat.lt_of_lt_of_le (by decide) hNN) (xG_10 rfl) (fun _ => xG_10 rfl) (by decide) (by decide) (by decide) (by decide) (by decide) (by decide) (by decide) dX7_copyFrom_60 (fun ar13 H locs ha13 hP hS => ?_)
  refine lv_aload_n hE.1 hE.2.1 dX7_copyFrom_63 rfl (lv_at hl 1 rfl) ?_
  refine x_get (x := .ref (ad 25)) hE hK hP 23 (Nat.lt_of_lt_of_le (by decide) hNN) (xG_7 rfl) rfl hin7 1 (by decide) mw_299 rfl dX7_copyFrom_64 ?_
  refine lv_iconst (v := iI (0)) hE.1 hE.2.1 dX7_copyFrom_67 (by decide) ?_
  refine lv_aload_n hE.1 hE.2.1 dX7_copyFrom_68 rfl (lv_at hl 0 rfl) ?_
  refine x_get (x := .ref (ad 88)) hE hK hP 86 (Nat.lt_of_lt_of_le (by decide) hNN) (xG_7 rfl) rfl hin7 1 (by decide) mw_299 rfl dX7_copyFrom_69 ?_
  refine lv_iconst (v := iI (0)) hE.1 hE.2.1 dX7_copyFrom_72 (by decide) ?_
  refine lv_bipush (v := iI (9)) hE.1 hE.2.1 dX7_copyFrom_73 (by decide) ?_
  refine x_copyi (rest := []) (sp := iI (0)) (dp := iI (0)) (n := iI (9)) (n0 := 9) (n1 := 9) hE hl.1 hK hN hP hS mw_912 mw_680 mw_679 mw_130 25 88 (Nat.lt_of_lt_of_le (by decide) hNN) (Nat.lt_of_lt_of_le (by decide) hNN) (xG_10 rfl) (fun _ => xG_10 rfl) (by decide) (by decide) (by decide) (by decide) (by decide) (by decide) (by decide) dX7_copyFrom_75 (fun ar14 H locs ha14 hP hS => ?_)
  refine lv_aload_n hE.1 hE.2.1 dX7_copyFrom_78 rfl (lv_at hl 1 rfl) ?_
  refine x_get (x := .ref (ad 26)) hE hK hP 23 (Nat.lt_of_lt_of_le (by decide) hNN) (xG_7 rfl) rfl hin7 7 (by decide) mw_316 rfl dX7_copyFrom_79 ?_
  refine lv_iconst (v := iI (0)) hE.1 hE.2.1 dX7_copyFrom_82 (by decide) ?_
  refine lv_aload_n hE.1 hE.2.1 dX7_copyFrom_83 rfl (lv_at hl 0 rfl) ?_
  refine x_get (x := .ref (ad 89)) hE hK hP 86 (Nat.lt_of_lt_of_le (by decide) hNN) (xG_7 rfl) rfl hin7 7 (by decide) mw_316 rfl dX7_copyFrom_84 ?_
  refine lv_iconst (v := iI (0)) hE.1 hE.2.1 dX7_copyFrom_87 (by decide) ?_
  refine lv_iconst (v := iI (3)) hE.1 hE.2.1 dX7_copyFrom_88 (by decide) ?_
  refine x_copyi (rest := []) (sp := iI (0)) (dp := iI (0)) (n := iI (3)) (n0 := 3) (n1 := 3) hE hl.1 hK hN hP hS mw_912 mw_680 mw_679 mw_130 26 89 (Nat.lt_of_lt_of_le (by decide) hNN) (Nat.lt_of_lt_of_le (by decide) hNN) (xG_10 rfl) (fun _ => xG_10 rfl) (by decide) (by decide) (by decide) (by decide) (by decide) (by decide) (by decide) dX7_copyFrom_89 (fun ar15 H locs ha15 hP hS => ?_)
  refine lv_aload_n hE.1 hE.2.1 dX7_copyFrom_92 rfl (lv_at hl 1 rfl) ?_
  refine x_get (x := .ref (ad 27)) hE hK hP 23 (Nat.lt_of_lt_of_le (by decide) hNN) (xG_7 rfl) rfl hin7 10 (by decide) mw_319 rfl dX7_copyFrom_93 ?_
  refine lv_iconst (v := iI (0)) hE.1 hE.2.1 dX7_copyFrom_96 (by decide) ?_
  refine lv_aload_n hE.1 hE.2.1 dX7_copyFrom_97 rfl (lv_at hl 0 rfl) ?_
  refine x_get (x := .ref (ad 90)) hE hK hP 86 (Nat.lt_of_lt_of_le (by decide) hNN) (xG_7 rfl) rfl hin7 10 (by decide) mw_319 rfl dX7_copyFrom_98 ?_
  refine lv_iconst (v := iI (0)) hE.1 hE.2.1 dX7_copyFrom_101 (by decide) ?_
  refine lv_bipush (v := iI (18)) hE.1 hE.2.1 dX7_copyFrom_102 (by decide) ?_
  refine x_copyi (rest := []) (sp := iI (0)) (dp := iI (0)) (n := iI (18)) (n0 := 18) (n1 := 18) hE hl.1 hK hN hP hS mw_912 mw_680 mw_679 mw_130 27 90 (Nat.lt_of_lt_of_le (by decide) hNN) (Nat.lt_of_lt_of_le (by decide) hNN) (xG_10 rfl) (fun _ => xG_10 rfl) (by decide) (by decide) (by decide) (by decide) (by decide) (by decide) (by decide) dX7_copyFrom_104 (fun ar16 H locs ha16 hP hS => ?_)
  refine lv_aload_n hE.1 hE.2.1 dX7_copyFrom_107 rfl (lv_at hl 1 rfl) ?_
  refine x_get (x := .ref (ad 28)) hE hK hP 23 (Nat.lt_of_lt_of_le (by decide) hNN) (xG_7 rfl) rfl hin7 11 (by decide) mw_320 rfl dX7_copyFrom_108 ?_
  refine lv_iconst (v := iI (0)) hE.1 hE.2.1 dX7_copyFrom_111 (by decide) ?_
  refine lv_aload_n hE.1 hE.2.1 dX7_copyFrom_112 rfl (lv_at hl 0 rfl) ?_
  refine x_get (x := .ref (ad 91)) hE hK hP 86 (Nat.lt_of_lt_of_le (by decide) hNN) (xG_7 rfl) rfl hin7 11 (by decide) mw_320 rfl dX7_copyFrom_113 ?_
  refine lv_iconst (v := iI (0)) hE.1 hE.2.1 dX7_copyFrom_116 (by decide) ?_
  refine lv_bipush (v := iI (18)) hE.1 hE.2.1 dX7_copyFrom_117 (by decide) ?_
  refine x_copyi (rest := []) (sp := iI (0)) (dp := iI (0)) (n := iI (18)) (n0 := 18) (n1 := 18) hE hl.1 hK hN hP hS mw_912 mw_680 mw_679 mw_130 28 91 (Nat.lt_of_lt_of_le (by decide) hNN) (Nat.lt_of_lt_of_le (by decide) hNN) (xG_10 rfl) (fun _ => xG_10 rfl) (by decide) (by decide) (by decide) (by decide) (by decide) (by decide) (by decide) dX7_copyFrom_119 (fun ar17 H locs ha17 hP hS => ?_)
  refine lv_aload_n hE.1 hE.2.1 dX7_copyFrom_122 rfl (lv_at hl 1 rfl) ?_
  refine x_get (x := .ref (ad 29)) hE hK hP 23 (Nat.lt_of_lt_of_le (by decide) hNN) (xG_7 rfl) rfl hin7 12 (by decide) mw_321 rfl dX7_copyFrom_123 ?_
  refine lv_iconst (v := iI (0)) hE.1 hE.2.1 dX7_copyFrom_126 (by decide) ?_
  refine lv_aload_n hE.1 hE.2.1 dX7_copyFrom_127 rfl (lv_at hl 0 rfl) ?_
  refine x_get (x := .ref (ad 92)) hE hK hP 86 (Nat.lt_of_lt_of_le (by decide) hNN) (xG_7 rfl) rfl hin7 12 (by decide) mw_321 rfl dX7_copyFrom_128 ?_
  refine lv_iconst (v := iI (0)) hE.1 hE.2.1 dX7_copyFrom_131 (by decide) ?_
  refine lv_bipush (v := iI (18)) hE.1 hE.2.1 dX7_copyFrom_132 (by decide) ?_
  refine x_copyi (rest := []) (sp := iI (0)) (dp := iI (0)) (n := iI (18)) (n0 := 18) (n1 := 18) hE hl.1 hK hN hP hS mw_912 mw_680 mw_679 mw_130 29 92 (Nat.lt_of_lt_of_le (by decide) hNN) (Nat.lt_of_lt_of_le (by decide) hNN) (xG_10 rfl) (fun _ => xG_10 rfl) (by decide) (by decide) (by decide) (by decide) (by decide) (by decide) (by decide) dX7_copyFrom_134 (fun ar18 H locs ha18 hP hS => ?_)
  refine lv_aload_n hE.1 hE.2.1 dX7_copyFrom_137 rfl (lv_at hl 1 rfl) ?_
  refine x_get (x := .ref (ad 30)) hE hK hP 23 (Nat.lt_of_lt_of_le (by decide) hNN) (xG_7 rfl) rfl hin7 13 (by decide) mw_322 rfl dX7_copyFrom_138 ?_
  refine lv_iconst (v := iI (0)) hE.1 hE.2.1 dX7_copyFrom_141 (by decide) ?_
  refine lv_aload_n hE.1 hE.2.1 dX7_copyFrom_142 rfl (lv_at hl 0 rfl) ?_
  refine x_get (x := .ref (ad 93)) hE hK hP 86 (Nat.lt_of_lt_of_le (by decide) hNN) (xG_7 rfl) rfl hin7 13 (by decide) mw_322 rfl dX7_copyFrom_143 ?_
  refine lv_iconst (v := iI (0)) hE.1 hE.2.1 dX7_copyFrom_146 (by decide) ?_
  refine lv_bipush (v := iI (18)) hE.1 hE.2.1 dX7_copyFrom_147 (by decide) ?_
  refine x_copyi (rest := []) (sp := iI (0)) (dp := iI (0)) (n := iI (18)) (n0 := 18) (n1 := 18) hE hl.1 hK hN hP hS mw_912 mw_680 mw_679 mw_130 30 93 (Nat.lt_of_lt_of_le (by decide) hNN) (Nat.lt_of_lt_of_le (by decide) hNN) (xG_10 rfl) (fun _ => xG_10 rfl) (by decide) (by decide) (by decide) (by decide) (by decide) (by decide) (by decide) dX7_copyFrom_149 (fun ar19 H locs ha19 hP hS => ?_)
  exact kr _ _ _ _ _ _ _ ⟨hI, fun i j h => ((up_oth hv12 (fun q => h (by rcases q with ⟨rfl, rfl⟩; decide))).trans ((up_oth hv10 (fun q => h (by rcases q with ⟨rfl, rfl⟩; decide))).trans ((up_oth hv8 (fun q => h (by rcases q with ⟨rfl, rfl⟩; decide))).trans ((up_oth hv6 (fun q => h (by rcases q with ⟨rfl, rfl⟩; decide))).trans ((up_oth hv4 (fun q => h (by rcases q with ⟨rfl, rfl⟩; decide))).trans (up_oth hv2 (fun q => h (by rcases q with ⟨rfl, rfl⟩; decide))))))))⟩ hP hS dX7_copyFrom_152

set_option maxHeartbeats 4000000 in
set_option maxRecDepth 100000 in
theorem s_X1_copyFrom_95_3 (l : Launch) (D : va_G) (K : Nat → ClassId) (ad : Nat → Nat) (mm : Option Nat) (N : Nat) (hNN : 132 ≤ N) (v ar : sI) (al : sL) (hI : XI v) : Met l yX1_copyFrom (wM yX1_copyFrom cX1_copyFrom 2 none) (rmD 1) (va_Pc [.ref (ad 95), .ref (ad 3)] (wPre D K ad (xG ad K mm) N v ar al)) (va_Qv (fun u : sT => XI u.1 ∧ (∀ i j : Nat, (i, j) ∉ ([(95, 0), (95, 1), (95, 2), (95, 3), (95, 4), (95, 5), (95, 6), (95, 7), (95, 8), (95, 9), (95, 10)] : List (Nat × Nat)) → u.1 i j = v i j)) (wB D ad (xG ad K mm) N) (inW ad N)) 0 0 (inW ad N) := by
  refine s_metV (by decide) (Nat.le_of_ble_eq_true rfl) ?_
  intro p e s m below meth c ls args Q hE hB hl kr
  have hE : CallFix p m c cX1_copyFrom 2 s args tbG "TaleCourt$Court" := hE
  obtain ⟨hP, hK, hN⟩ := hB
  have hS : va_S (inW ad N) s.heap s.heap [] := va_S.rf
  have hl : lv_has ls 2 [(0, .ref (ad 95)), (1, .ref (ad 3))] := hl
  refine lv_aload_n hE.1 hE.2.1 dX1_copyFrom_0 rfl (lv_at hl 0 rfl) ?_
  refine lv_aload_n hE.1 hE.2.1 dX1_copyFrom_1 rfl (lv_at hl 1 rfl) ?_
  obtain ⟨z1, hz1, ez1⟩ := XI_get hI 3 0 0 3 (by decide)
  refine x_get (x := .int (v 3 0)) hE hK hP 3 (Nat.lt_of_lt_of_le (by decide) hNN) (xG_1 rfl) rfl hin1 0 (by decide) mw_178 rfl dX1_copyFrom_2 ?_
  refine x_top (y := iI (z1)) ez1 ?_
  refine x_put (x := iI (z1)) hE hK hN hP hS 95 (Nat.lt_of_lt_of_le (by decide) hNN) (xG_1 rfl) rfl hin1 tyX1 tyX1_ok nmX1 0 (by decide) mw_178 rfl rfl rfl (Nat.le_of_ble_eq_true rfl) (xG_1 rfl) dX1_copyFrom_5 (fun v2 H locs hv2 hP hS => ?_)
  have hI := XI_putB (z := z1) hI hv2 0 3 (by omega) (by decide) (by omega)
  refine lv_aload_n hE.1 hE.2.1 dX1_copyFrom_8 rfl (lv_at hl 0 rfl) ?_
  refine lv_aload_n hE.1 hE.2.1 dX1_copyFrom_9 rfl (lv_at hl 1 rfl) ?_
  obtain ⟨z3, hz3, ez3⟩ := iI_of (v2 3 1)
  refine x_get (x := .int (v2 3 1)) hE hK hP 3 (Nat.lt_of_lt_of_le (by decide) hNN) (xG_1 rfl) rfl hin1 1 (by decide) mw_182 rfl dX1_copyFrom_10 ?_
  refine x_top (y := iI (z3)) ez3 ?_
  refine x_put (x := iI (z3)) hE hK hN hP hS 95 (Nat.lt_of_lt_of_le (by decide) hNN) (xG_1 rfl) rfl hin1 tyX1 tyX1_ok nmX1 1 (by decide) mw_182 rfl rfl rfl (Nat.le_of_ble_eq_true rfl) (xG_1 rfl) dX1_copyFrom_13 (fun v4 H locs hv4 hP hS => ?_)
  have hI := XI_putN hI hv4 (by decide)
  refine lv_aload_n hE.1 hE.2.1 dX1_copyFrom_16 rfl (lv_at hl 0 rfl) ?_
  refine lv_aload_n hE.1 hE.2.1 dX1_copyFrom_17 rfl (lv_at hl 1 rfl) ?_
  obtain ⟨z5, hz5, ez5⟩ := XI_get hI 3 2 0 9 (by decide)
  refine x_get (x := .int (v4 3 2)) hE hK hP 3 (Nat.lt_of_lt_of_le (by decide) hNN) (xG_1 rfl) rfl hin1 2 (by decide) mw_187 rfl dX1_copyFrom_18 ?_
  refine x_top (y := iI (z5)) ez5 ?_
  refine x_put (x := iI (z5)) hE hK hN hP hS 95 (Nat.lt_of_lt_of_le (by decide) hNN) (xG_1 rfl) rfl hin1 tyX1 tyX1_ok nmX1 2 (by decide) mw_187 rfl rfl rfl (Nat.le_of_ble_eq_true rfl) (xG_1 rfl) dX1_copyFrom_21 (fun v6 H locs hv6 hP hS => ?_)
  have hI := XI_putB (z := z5) hI hv6 0 9 (by omega) (by decide) (by omega)
  refine lv_aload_n hE.1 hE.2.1 dX1_copyFrom_24 rfl (lv_at hl 0 rfl) ?_
  refine lv_aload_n hE.1 hE.2.1 dX1_copyFrom_25 rfl (lv_at hl 1 rfl) ?_
  obtain ⟨z7, hz7, ez7⟩ := XI_get hI 3 3 0 8 (by decide)
  refine x_get (x := .int (v6 3 3)) hE hK hP 3 (Nat.lt_of_lt_of_le (by decide) hNN) (xG_1 rfl) rfl hin1 3 (by decide) mw_190 rfl dX1_copyFrom_26 ?_
  refine x_top (y := iI (z7)) ez7 ?_
  refine x_put (x := iI (z7)) hE hK hN hP hS 95 (Nat.lt_of_lt_of_le (by decide) hNN) (xG_1 rfl) rfl hin1 tyX1 tyX1_ok nmX1 3 (by decide) mw_190 rfl rfl rfl (Nat.le_of_ble_eq_true rfl) (xG_1 rfl) dX1_copyFrom_29 (fun v8 H locs hv8 hP hS => ?_)
  have hI := XI_putB (z := z7) hI hv8 0 8 (by omega) (by decide) (by omega)
  refine lv_aload_n hE.1 hE.2.1 dX1_copyFrom_32 rfl (lv_at hl 0 rfl) ?_
  refine lv_aload_n hE.1 hE.2.1 dX1_copyFrom_33 rfl (lv_at hl 1 rfl) ?_
  obtain ⟨z9, hz9, ez9⟩ := iI_of (v8 3 4)
  refine x_get (x := .int (v8 3 4)) hE hK hP 3 (Nat.lt_of_lt_of_le (by decide) hNN) (xG_1 rfl) rfl hin1 4 (by decide) mw_194 rfl dX1_copyFrom_34 ?_
  refine x_top (y := iI (z9)) ez9 ?_
  refine x_put (x := iI (z9)) hE hK hN hP hS 95 (Nat.lt_of_lt_of_le (by decide) hNN) (xG_1 rfl) rfl hin1 tyX1 tyX1_ok nmX1 4 (by decide) mw_194 rfl rfl rfl (Nat.le_of_ble_eq_true rfl) (xG_1 rfl) dX1_copyFrom_37 (fun v10 H locs hv10 hP hS => ?_)
  have hI := XI_putN hI hv10 (by decide)
  refine lv_aload_n hE.1 hE.2.1 dX1_copyFrom_40 rfl (lv_at hl 0 rfl) ?_
  refine lv_aload_n hE.1 hE.2.1 dX1_copyFrom_41 rfl (lv_at hl 1 rfl) ?_
  obtain ⟨z11, hz11, ez11⟩ := iI_of (v10 3 5)
  refine x_get (x := .int (v10 3 5)) hE hK hP 3 (Nat.lt_of_lt_of_le (by decide) hNN) (xG_1 rfl) rfl hin1 5 (by decide) mw_197 rfl dX1_copyFrom_42 ?_
  refine x_top (y := iI (z11)) ez11 ?_
  refine x_put (x := iI (z11)) hE hK hN hP hS 95 (Nat.lt_of_lt_of_le (by decide) hNN) (xG_1 rfl) rfl hin1 tyX1 tyX1_ok nmX1 5 (by decide) mw_197 rfl rfl rfl (Nat.le_of_ble_eq_true rfl) (xG_1 rfl) dX1_copyFrom_45 (fun v12 H locs hv12 hP hS => ?_)
  have hI := XI_putN hI hv12 (by decide)
  refine lv_aload_n hE.1 hE.2.1 dX1_copyFrom_48 rfl (lv_at hl 0 rfl) ?_
  refine lv_aload_n hE.1 hE.2.1 dX1_copyFrom_49 rfl (lv_at hl 1 rfl) ?_
  obtain ⟨z13, hz13, ez13⟩ := iI_of (v12 3 6)
  refine x_get (x := .int (v12 3 6)) hE hK hP 3 (Nat.lt_of_lt_of_le (by decide) hNN) (xG_1 rfl) rfl hin1 6 (by decide) mw_200 rfl dX1_copyFrom_50 ?_
  refine x_top (y := iI (z13)) ez13 ?_
  refine x_put (x := iI (z13)) hE hK hN hP hS 95 (Nat.lt_of_lt_of_le (by decide) hNN) (xG_1 rfl) rfl hin1 tyX1 tyX1_ok nmX1 6 (by decide) mw_200 rfl rfl rfl (Nat.le_of_ble_eq_true rfl) (xG_1 rfl) dX1_copyFrom_53 (fun v14 H locs hv14 hP hS => ?_)
  have hI := XI_putN hI hv14 (by decide)
  refine lv_aload_n hE.1 hE.2.1 dX1_copyFrom_56 rfl (lv_at hl 0 rfl) ?_
  refine lv_aload_n hE.1 hE.2.1 dX1_copyFrom_57 rfl (lv_at hl 1 rfl) ?_
  obtain ⟨z15, hz15, ez15⟩ := iI_of (v14 3 7)
  refine x_get (x := .int (v14 3 7)) hE hK hP 3 (Nat.lt_of_lt_of_le (by decide) hNN) (xG_1 rfl) rfl hin1 7 (by decide) mw_203 rfl dX1_copyFrom_58 ?_
  refine x_top (y := iI (z15)) ez15 ?_
  refine x_put (x := iI (z15)) hE hK hN hP hS 95 (Nat.lt_of_lt_of_le (by decide) hNN) (xG_1 rfl) rfl hin1 tyX1 tyX1_ok nmX1 7 (by decide) mw_203 rfl rfl rfl (Nat.le_of_ble_eq_true rfl) (xG_1 rfl) dX1_copyFrom_61 (fun v16 H locs hv16 hP hS => ?_)
  have hI := XI_putN hI hv16 (by decide)
  refine lv_aload_n hE.1 hE.2.1 dX1_copyFrom_64 rfl (lv_at hl 0 rfl) ?_
  refine lv_aload_n hE.1 hE.2.1 dX1_copyFrom_65 rfl (lv_at hl 1 rfl) ?_
  obtain ⟨z17, hz17, ez17⟩ := iI_of (v16 3 8)
  refine x_get (x := .int (v16 3 8)) hE hK hP 3 (Nat.lt_of_lt_of_le (by decide) hNN) (xG_1 rfl) rfl hin1 8 (by decide) mw_207 rfl dX1_copyFrom_66 ?_
  refine x_top (y := iI (z17)) ez17 ?_
  refine x_put (x := iI (z17)) hE hK hN hP hS 95 (Nat.lt_of_lt_of_le (by decide) hNN) (xG_1 rfl) rfl hin1 tyX1 tyX1_ok nmX1 8 (by decide) mw_207 rfl rfl rfl (Nat.le_of_ble_eq_true rfl) (xG_1 rfl) dX1_copyFrom_69 (fun v18 H locs hv18 hP hS => ?_)
  have hI := XI_putN hI hv18 (by decide)
  refine lv_aload_n hE.1 hE.2.1 dX1_copyFrom_72 rfl (lv_at hl 0 rfl) ?_
  refine lv_aload_n hE.1 hE.2.1 dX1_copyFrom_73 rfl (lv_at hl 1 rfl) ?_
  obtain ⟨z19, hz19, ez19⟩ := iI_of (v18 3 9)
  refine x_get (x := .int (v18 3 9)) hE hK hP 3 (Nat.lt_of_lt_of_le (by decide) hNN) (xG_1 rfl) rfl hin1 9 (by decide) mw_211 rfl dX1_copyFrom_74 ?_
  refine x_top (y := iI (z19)) ez19 ?_
  refine x_put (x := iI (z19)) hE hK hN hP hS 95 (Nat.lt_of_lt_of_le (by decide) hNN) (xG_1 rfl) rfl hin1 tyX1 tyX1_ok nmX1 9 (by decide) mw_211 rfl rfl rfl (Nat.le_of_ble_eq_true rfl) (xG_1 rfl) dX1_copyFrom_77 (fun v20 H locs hv20 hP hS => ?_)
  have hI := XI_putN hI hv20 (by decide)
  refine lv_aload_n hE.1 hE.2.1 dX1_copyFrom_80 rfl (lv_at hl 0 rfl) ?_
  refine lv_aload_n hE.1 hE.2.1 dX1_copyFrom_81 rfl (lv_at hl 1 rfl) ?_
  obtain ⟨z21, hz21, ez21⟩ := iI_of (v20 3 10)
  refine x_get (x := .int (v20 3 10)) hE hK hP 3 (Nat.lt_of_lt_of_le (by decide) hNN) (xG_1 rfl) rfl hin1 10 (by decide) mw_214 rfl dX1_copyFrom_82 ?_
  refine x_top (y := iI (z21)) ez21 ?_
  refine x_put (x := iI (z21)) hE hK hN hP hS 95 (Nat.lt_of_lt_of_le (by decide) hNN) (xG_1 rfl) rfl hin1 tyX1 tyX1_ok nmX1 10 (by decide) mw_214 rfl rfl rfl (Nat.le_of_ble_eq_true rfl) (xG_1 rfl) dX1_copyFrom_85 (fun v22 H locs hv22 hP hS => ?_)
  have hI := XI_putN hI hv22 (by decide)
  refine lv_aload_n hE.1 hE.2.1 dX1_copyFrom_88 rfl (lv_at hl 1 rfl) ?_
  refine x_get (x := .ref (ad 4)) hE hK hP 3 (Nat.lt_of_lt_of_le (by decide) hNN) (xG_1 rfl) rfl hin1 11 (by decide) mw_218 rfl dX1_copyFrom_89 ?_
  refine lv_iconst (v := iI (0)) hE.1 hE.2.1 dX1_copyFrom_92 (by decide) ?_
  refine lv_aload_n hE.1 hE.2.1 dX1_copyFrom_93 rfl (lv_at hl 0 rfl) ?_
  refine x_get (x := .ref (ad 96)) hE hK hP 95 (Nat.lt_of_lt_of_le (by decide) hNN) (xG_1 rfl) rfl hin1 11 (by decide) mw_218 rfl dX1_copyFrom_94 ?_
  refine lv_iconst (v := iI (0)) hE.1 hE.2.1 dX1_copyFrom_97 (by decide) ?_
  refine lv_bipush (v := iI (9)) hE.1 hE.2.1 dX1_copyFrom_98 (by decide) ?_
  refine x_copyi (rest := []) (sp := iI (0)) (dp := iI (0)) (n := iI (9)) (n0 := 9) (n1 := 9) hE hl.1 hK hN hP hS mw_678 mw_680 mw_679 mw_130 4 96 (Nat.lt_of_lt_of_le (by decide) hNN) (Nat.lt_of_lt_of_le (by decide) hNN) (xG_10 rfl) (fun _ => xG_10 rfl) (by decide) (by decide) (by decide) (by decide) (by decide) (by decide) (by decide) dX1_copyFrom_100 (fun ar23 H locs ha23 hP hS => ?_)
  refine lv_aload_n hE.1 hE.2.1 dX1_copyFrom_103 rfl (lv_at hl 1 rfl) ?_
  refine x_get (x := .ref (ad 5)) hE hK hP 3 (Nat.lt_of_lt_of_le (by decide) hNN) (xG_1 rfl) rfl hin1 12 (by decide) mw_221 rfl dX1_copyFrom_104 ?_
  refine lv_iconst (v := iI (0)) hE.1 hE.2.1 dX1_copyFrom_107 (by decide) ?_
  refine lv_aload_n hE.1 hE.2.1 dX1_copyFrom_108 rfl (lv_at hl 0 rfl) ?_
  refine x_get (x := .ref (ad 97)) hE hK hP 95 (Nat.lt_of_lt_of_le (by decide) hNN) (xG_1 rfl) rfl hin1 12 (by decide) mw_221 rfl dX1_copyFrom_109 ?_
  refine lv_iconst (v := iI (0)) hE.1 hE.2.1 dX1_copyFrom_112 (by decide) ?_
  refine lv_bipush (v := iI (9)) hE.1 hE.2.1 dX1_copyFrom_113 (by decide) ?_
  refine x_copyi (rest := []) (sp := iI (0)) (dp := iI (0)) (n := iI (9)) (n0 := 9) (n1 := 9) hE hl.1 hK hN hP hS mw_678 mw_680 mw_679 mw_130 5 97 (Nat.lt_of_lt_of_le (by decide) hNN) (Nat.lt_of_lt_of_le (by decide) hNN) (xG_10 rfl) (fun _ => xG_10 rfl) (by decide) (by decide) (by decide) (by decide) (by decide) (by decide) (by decide) dX1_copyFrom_115 (fun ar24 H locs ha24 hP hS => ?_)
  refine lv_aload_n hE.1 hE.2.1 dX1_copyFrom_118 rfl (lv_at hl 1 rfl) ?_
  refine x_get (x := .ref (ad 6)) hE hK hP 3 (Nat.lt_of_lt_of_le (by decide) hNN) (xG_1 rfl) rfl hin1 13 (by decide) mw_225 rfl dX1_copyFrom_119 ?_
  refine lv_iconst (v := iI (0)) hE.1 hE.2.1 dX1_copyFrom_122 (by decide) ?_
  refine lv_aload_n hE.1 hE.2.1 dX1_copyFrom_123 rfl (lv_at hl 0 rfl) ?_
  refine x_get (x := .ref (ad 98)) hE hK hP 95 (Nat.lt_of_lt_of_le (by decide) hNN) (xG_1 rfl) rfl hin1 13 (by decide) mw_225 rfl dX1_copyFrom_124 ?_
  refine lv_iconst (v := iI (0)) hE.1 hE.2.1 dX1_copyFrom_127 (by decide) ?_
  refine lv_bipush (v := iI (9)) hE.1 hE.2.1 dX1_copyFrom_128 (by decide) ?_
  refine x_copyi (rest := []) (sp := iI (0)) (dp := iI (0)) (n := iI (9)) (n0 := 9) (n1 := 9) hE hl.1 hK hN hP hS mw_678 mw_680 mw_679 mw_130 6 98 (Nat.lt_of_lt_of_le (by decide) hNN) (Nat.lt_of_lt_of_le (by decide) hNN) (xG_10 rfl) (fun _ => xG_10 rfl) (by decide) (by decide) (by decide) (by decide) (by decide) (by decide) (by decide) dX1_copyFrom_130 (fun ar25 H locs ha25 hP hS => ?_)
  refine lv_aload_n hE.1 hE.2.1 dX1_copyFrom_133 rfl (lv_at hl 1 rfl) ?_
  refine x_get (x := .ref (ad 7)) hE hK hP 3 (Nat.lt_of_lt_of_le (by decide) hNN) (xG_1 rfl) rfl hin1 14 (by decide) mw_229 rfl dX1_copyFrom_134 ?_
  refine lv_iconst (v := iI (0)) hE.1 hE.2.1 dX1_copyFrom_137 (by decide) ?_
  refine lv_aload_n hE.1 hE.2.1 dX1_copyFrom_138 rfl (lv_at hl 0 rfl) ?_
  refine x_get (x := .ref (ad 99)) hE hK hP 95 (Nat.lt_of_lt_of_le (by decide) hNN) (xG_1 rfl) rfl hin1 14 (by decide) mw_229 rfl dX1_copyFrom_139 ?_
  refine lv_iconst (v := iI (0)) hE.1 hE.2.1 dX1_copyFrom_142 (by decide) ?_
  refine lv_bipush (v := iI (9)) hE.1 hE.2.1 dX1_copyFrom_143 (by decide) ?_
  refine x_copyi (rest := []) (sp := iI (0)) (dp := iI (0)) (n := iI (9)) (n0 := 9) (n1 := 9) hE hl.1 hK hN hP hS mw_678 mw_680 mw_679 mw_130 7 99 (Nat.lt_of_lt_of_le (by decide) hNN) (Nat.lt_of_lt_of_le (by decide) hNN) (xG_10 rfl) (fun _ => xG_10 rfl) (by decide) (by decide) (by decide) (by decide) (by decide) (by decide) (by decide) dX1_copyFrom_145 (fun ar26 H locs ha26 hP hS => ?_)
  refine lv_aload_n hE.1 hE.2.1 dX1_copyFrom_148 rfl (lv_at hl 1 rfl) ?_
  refine x_get (x := .ref (ad 8)) hE hK hP 3 (Nat.lt_of_lt_of_le (by decide) hNN) (xG_1 rfl) rfl hin1 15 (by decide) mw_231 rfl dX1_copyFrom_149 ?_
  refine lv_iconst (v := iI (0)) hE.1 hE.2.1 dX1_copyFrom_152 (by decide) ?_
  refine lv_aload_n hE.1 hE.2.1 dX1_copyFrom_153 rfl (lv_at hl 0 rfl) ?_
  refine x_get (x := .ref (ad 100)) hE hK hP 95 (Nat.lt_of_lt_of_le (by decide) hNN) (xG_1 rfl) rfl hin1 15 (by decide) mw_231 rfl dX1_copyFrom_154 ?_
  refine lv_iconst (v := iI (0)) hE.1 hE.2.1 dX1_copyFrom_157 (by decide) ?_
  refine lv_bipush (v := iI (9)) hE.1 hE.2.1 dX1_copyFrom_158 (by decide) ?_
  refine x_copyi (rest := []) (sp := iI (0)) (dp := iI (0)) (n := iI (9)) (n0 := 9) (n1 := 9) hE hl.1 hK hN hP hS mw_678 mw_680 mw_679 mw_130 8 100 (Nat.lt_of_lt_of_le (by decide) hNN) (Nat.lt_of_lt_of_le (by decide) hNN) (xG_10 rfl) (fun _ => xG_10 rfl) (by decide) (by decide) (by decide) (by decide) (by decide) (by decide) (by decide) dX1_copyFrom_160 (fun ar27 H locs ha27 hP hS => ?_)
  refine lv_aload_n hE.1 hE.2.1 dX1_copyFrom_163 rfl (lv_at hl 1 rfl) ?_
  refine x_get (x := .ref (ad 9)) hE hK hP 3 (Nat.lt_of_lt_of_le (by decide) hNN) (xG_1 rfl) rfl hin1 16 (by decide) mw_235 rfl dX1_copyFrom_164 ?_
  refine lv_iconst (v := iI (0)) hE.1 hE.2.1 dX1_copyFrom_167 (by decide) ?_
  refine lv_aload_n hE.1 hE.2.1 dX1_copyFrom_168 rfl (lv_at hl 0 rfl) ?_
  refine x_get (x := .ref (ad 101)) hE hK hP 95 (Nat.lt_of_lt_of_le (by decide) hNN) (xG_1 rfl) rfl hin1 16 (by decide) mw_235 rfl dX1_copyFrom_169 ?_
  refine lv_iconst (v := iI (0)) hE.1 hE.2.1 dX1_copyFrom_172 (by decide) ?_
  refine lv_bipush (v := iI (9)) hE.1 hE.2.1 dX1_copyFrom_173 (by decide) ?_
  refine x_copyi (rest := []) (sp := iI (0)) (dp := iI (0)) (n := iI (9)) (n0 := 9) (n1 := 9) hE hl.1 hK hN hP hS mw_678 mw_680 mw_679 mw_130 9 101 (Nat.lt_of_lt_of_le (by decide) hNN) (Nat.lt_of_lt_of_le (by decide) hNN) (xG_10 rfl) (fun _ => xG_10 rfl) (by decide) (by decide) (by decide) (by decide) (by decide) (by decide) (by decide) dX1_copyFrom_175 (fun ar28 H locs ha28 hP hS => ?_)
  refine lv_aload_n hE.1 hE.2.1 dX1_copyFrom_178 rfl (lv_at hl 1 rfl) ?_
  refine x_get (x := .ref (ad 10)) hE hK hP 3 (Nat.lt_of_lt_of_le (by decide) hNN) (xG_1 rfl) rfl hin1 17 (by decide) mw_239 rfl dX1_copyFrom_179 ?_
  refine lv_iconst (v := iI (0)) hE.1 hE.2.1 dX1_copyFrom_182 (by decide) ?_
  refine lv_aload_n hE.1 hE.2.1 dX1_copyFrom_183 rfl (lv_at hl 0 rfl) ?_
  refine x_get (x := .ref (ad 102)) hE hK hP 95 (Nat.lt_of_lt_of_le (by decide) hNN) (xG_1 rfl) rfl hin1 17 (by decide) mw_239 rfl dX1_copyFrom_184 ?_
  refine lv_iconst (v := iI (0)) hE.1 hE.2.1 dX1_copyFrom_187 (by decide) ?_
  refine lv_iconst (v := iI (3)) hE.1 hE.2.1 dX1_copyFrom_188 (by decide) ?_
  refine x_copyi (rest := []) (sp := iI (0)) (dp := iI (0)) (n := iI (3)) (n0 := 3) (n1 := 3) hE hl.1 hK hN hP hS mw_678 mw_680 mw_679 mw_130 10 102 (Nat.lt_of_lt_of_le (by decide) hNN) (Nat.lt_of_lt_of_le (by decide) hNN) (xG_10 rfl) (fun _ => xG_10 rfl) (by decide) (by decide) (by decide) (by decide) (by decide) (by decide) (by decide) dX1_copyFrom_189 (fun ar29 H locs ha29 hP hS => ?_)
  refine lv_aload_n hE.1 hE.2.1 dX1_copyFrom_192 rfl (lv_at hl 1 rfl) ?_
  refine x_get (x := .ref (ad 11)) hE hK hP 3 (Nat.lt_of_lt_of_le (by decide) hNN) (xG_1 rfl) rfl hin1 18 (by decide) mw_241 rfl dX1_copyFrom_193 ?_
  refine lv_iconst (v := iI (0)) hE.1 hE.2.1 dX1_copyFrom_196 (by decide) ?_
  refine lv_aload_n hE.1 hE.2.1 dX1_copyFrom_197 rfl (lv_at hl 0 rfl) ?_
  refine x_get (x := .ref (ad 103)) hE hK hP 95 (Nat.lt_of_lt_of_le (by decide) hNN) (xG_1 rfl) rfl hin1 18 (by decide) mw_241 rfl dX1_copyFrom_198 ?_
  refine lv_iconst (v := iI (0)) hE.1 hE.2.1 dX1_copyFrom_201 (by decide) ?_
  refine lv_bipush (v := iI (8)) hE.1 hE.2.1 dX1_copyFrom_202 (by decide) ?_
  refine x_copyi (rest := []) (sp := iI (0)) (dp := iI (0)) (n := iI (8)) (n0 := 8) (n1 := 8) hE hl.1 hK hN hP hS mw_678 mw_680 mw_679 mw_130 11 103 (Nat.lt_of_lt_of_le (by decide) hNN) (Nat.lt_of_lt_of_le (by decide) hNN) (xG_10 rfl) (fun _ => xG_10 rfl) (by decide) (by decide) (by decide) (by decide) (by decide) (by decide) (by decide) dX1_copyFrom_204 (fun ar30 H locs ha30 hP hS => ?_)
  refine lv_aload_n hE.1 hE.2.1 dX1_copyFrom_207 rfl (lv_at hl 1 rfl) ?_
  refine x_get (x := .ref (ad 12)) hE hK hP 3 (Nat.lt_of_lt_of_le (by decide) hNN) (xG_1 rfl) rfl hin1 19 (by decide) mw_244 rfl dX1_copyFrom_208 ?_
  refine lv_iconst (v := iI (0)) hE.1 hE.2.1 dX1_copyFrom_211 (by decide) ?_
  refine lv_aload_n hE.1 hE.2.1 dX1_copyFrom_212 rfl (lv_at hl 0 rfl) ?_
  refine x_get (x := .ref (ad 104)) hE hK hP 95 (Nat.lt_of_lt_of_le (by decide) hNN) (xG_1 rfl) rfl hin1 19 (by decide) mw_244 rfl dX1_copyFrom_213 ?_
  refine lv_iconst (v := iI (0)) hE.1 hE.2.1 dX1_copyFrom_216 (by decide) ?_
  refine lv_bipush (v := iI (8)) hE.1 hE.2.1 dX1_copyFrom_217 (by decide) ?_
  refine x_copyi (rest := []) (sp := iI (0)) (dp := iI (0)) (n := iI (8)) (n0 := 8) (n1 := 8) hE hl.1 hK hN hP hS mw_678 mw_680 mw_679 mw_130 12 104 (Nat.lt_of_lt_of_le (by decide) hNN) (Nat.lt_of_lt_of_le (by decide) hNN) (xG_10 rfl) (fun _ => xG_10 rfl) (by decide) (by decide) (by decide) (by decide) (by decide) (by decide) (by decide) dX1_copyFrom_219 (fun ar31 H locs ha31 hP hS => ?_)
  exact kr _ _ _ _ _ _ _ ⟨hI, fun i j h => ((up_oth hv22 (fun q => h (by rcases q with ⟨rfl, rfl⟩; decide))).trans ((up_oth hv20 (fun q => h (by rcases q with ⟨rfl, rfl⟩; decide))).trans ((up_oth hv18 (fun q => h (by rcases q with ⟨rfl, rfl⟩; decide))).trans ((up_oth hv16 (fun q => h (by rcases q with ⟨rfl, rfl⟩; decide))).trans ((up_oth hv14 (fun q => h (by rcases q with ⟨rfl, rfl⟩; decide))).trans ((up_oth hv12 (fun q => h (by rcases q with ⟨rfl, rfl⟩; decide))).trans ((up_oth hv10 (fun q => h (by rcases q with ⟨rfl, rfl⟩; decide))).trans ((up_oth hv8 (fun q => h (by rcases q with ⟨rfl, rfl⟩; decide))).trans ((up_oth hv6 (fun q => h (by rcases q with ⟨rfl, rfl⟩; decide))).trans ((up_oth hv4 (fun q => h (by rcases q with ⟨rfl, rfl⟩; decide))).trans (up_oth hv2 (fun q => h (by rcases q with ⟨rfl, rfl⟩; decide)))))))))))))⟩ hP hS dX1_copyFrom_222

set_option maxHeartbeats 4000000 in
set_option maxRecDepth 100000 in
theorem s_X7_copyFrom_105_23 (l : Launch) (D : va_G) (K : Nat → ClassId) (ad : Nat → Nat) (mm : Option Nat) (N : Nat) (hNN : 132 ≤ N) (v ar : sI) (al : sL) (hI : XI v) : Met l yX7_copyFrom (wM yX7_copyFrom cX7_copyFrom 2 none) (rmD 1) (va_Pc [.ref (ad 105), .ref (ad 23)] (wPre D K ad (xG ad K mm) N v ar al)) (va_Qv (fun u : sT => XI u.1 ∧ (∀ i j : Nat, (i, j) ∉ ([(105, 2), (105, 3), (105, 4), (105, 5), (105, 8), (105, 9)] : List (Nat × Nat)) → u.1 i j = v i j)) (wB D ad (xG ad K mm) N) (inW ad N)) 0 0 (inW ad N) := by
  refine s_metV (by decide) (Nat.le_of_ble_eq_true rfl) ?_
  intro p e s m below meth c ls args Q hE hB hl kr
  have hE : CallFix p m c cX7_copyFrom 2 s args tbG "TaleCourt$Telling" := hE
  obtain ⟨hP, hK, hN⟩ := hB
  have hS : va_S (inW ad N) s.heap s.heap [] := va_S.rf
  have hl : lv_has ls 2 [(0, .ref (ad 105)), (1, .ref (ad 23))] := hl
  refine lv_aload_n hE.1 hE.2.1 dX7_copyFrom_0 rfl (lv_at hl 0 rfl) ?_
  refine lv_aload_n hE.1 hE.2.1 dX7_copyFrom_1 rfl (lv_at hl 1 rfl) ?_
  obtain ⟨z1, hz1, ez1⟩ := XI_get hI 23 2 0 18 (by decide)
  refine x_get (x := .int (v 23 2)) hE hK hP 23 (Nat.lt_of_lt_of_le (by decide) hNN) (xG_7 rfl) rfl hin7 2 (by decide) mw_301 rfl dX7_copyFrom_2 ?_
  refine x_top (y := iI (z1)) ez1 ?_
  refine x_put (x := iI (z1)) hE hK hN hP hS 105 (Nat.lt_of_lt_of_le (by decide) hNN) (xG_7 rfl) rfl hin7 tyX7 tyX7_ok nmX7 2 (by decide) mw_301 rfl rfl rfl (Nat.le_of_ble_eq_true rfl) (xG_7 rfl) dX7_copyFrom_5 (fun v2 H locs hv2 hP hS => ?_)
  have hI := XI_putB (z := z1) hI hv2 0 18 (by omega) (by decide) (by omega)
  refine lv_aload_n hE.1 hE.2.1 dX7_copyFrom_8 rfl (lv_at hl 0 rfl) ?_
  refine lv_aload_n hE.1 hE.2.1 dX7_copyFrom_9 rfl (lv_at hl 1 rfl) ?_
  obtain ⟨z3, hz3, ez3⟩ := iI_of (v2 23 3)
  refine x_get (x := .int (v2 23 3)) hE hK hP 23 (Nat.lt_of_lt_of_le (by decide) hNN) (xG_7 rfl) rfl hin7 3 (by decide) mw_305 rfl dX7_copyFrom_10 ?_
  refine x_top (y := iI (z3)) ez3 ?_
  refine x_put (x := iI (z3)) hE hK hN hP hS 105 (Nat.lt_of_lt_of_le (by decide) hNN) (xG_7 rfl) rfl hin7 tyX7 tyX7_ok nmX7 3 (by decide) mw_305 rfl rfl rfl (Nat.le_of_ble_eq_true rfl) (xG_7 rfl) dX7_copyFrom_13 (fun v4 H locs hv4 hP hS => ?_)
  have hI := XI_putN hI hv4 (by decide)
  refine lv_aload_n hE.1 hE.2.1 dX7_copyFrom_16 rfl (lv_at hl 0 rfl) ?_
  refine lv_aload_n hE.1 hE.2.1 dX7_copyFrom_17 rfl (lv_at hl 1 rfl) ?_
  obtain ⟨z5, hz5, ez5⟩ := iI_of (v4 23 4)
  refine x_get (x := .int (v4 23 4)) hE hK hP 23 (Nat.lt_of_lt_of_le (by decide) hNN) (xG_7 rfl) rfl hin7 4 (by decide) mw_309 rfl dX7_copyFrom_18 ?_
  refine x_top (y := iI (z5)) ez5 ?_
  refine x_put (x := iI (z5)) hE hK hN hP hS 105 (Nat.lt_of_lt_of_le (by decide) hNN) (xG_7 rfl) rfl hin7 tyX7 tyX7_ok nmX7 4 (by decide) mw_309 rfl rfl rfl (Nat.le_of_ble_eq_true rfl) (xG_7 rfl) dX7_copyFrom_21 (fun v6 H locs hv6 hP hS => ?_)
  have hI := XI_putN hI hv6 (by decide)
  refine lv_aload_n hE.1 hE.2.1 dX7_copyFrom_24 rfl (lv_at hl 0 rfl) ?_
  refine lv_aload_n hE.1 hE.2.1 dX7_copyFrom_25 rfl (lv_at hl 1 rfl) ?_
  obtain ⟨z7, hz7, ez7⟩ := iI_of (v6 23 5)
  refine x_get (x := .int (v6 23 5)) hE hK hP 23 (Nat.lt_of_lt_of_le (by decide) hNN) (xG_7 rfl) rfl hin7 5 (by decide) mw_312 rfl dX7_copyFrom_26 ?_
  refine x_top (y := iI (z7)) ez7 ?_
  refine x_put (x := iI (z7)) hE hK hN hP hS 105 (Nat.lt_of_lt_of_le (by decide) hNN) (xG_7 rfl) rfl hin7 tyX7 tyX7_ok nmX7 5 (by decide) mw_312 rfl rfl rfl (Nat.le_of_ble_eq_true rfl) (xG_7 rfl) dX7_copyFrom_29 (fun v8 H locs hv8 hP hS => ?_)
  have hI := XI_putN hI hv8 (by decide)
  refine lv_aload_n hE.1 hE.2.1 dX7_copyFrom_32 rfl (lv_at hl 0 rfl) ?_
  refine lv_aload_n hE.1 hE.2.1 dX7_copyFrom_33 rfl (lv_at hl 1 rfl) ?_
  obtain ⟨z9, hz9, ez9⟩ := iI_of (v8 23 8)
  refine x_get (x := .int (v8 23 8)) hE hK hP 23 (Nat.lt_of_lt_of_le (by decide) hNN) (xG_7 rfl) rfl hin7 8 (by decide) mw_317 rfl dX7_copyFrom_34 ?_
  refine x_top (y := iI (z9)) ez9 ?_
  refine x_put (x := iI (z9)) hE hK hN hP hS 105 (Nat.lt_of_lt_of_le (by decide) hNN) (xG_7 rfl) rfl hin7 tyX7 tyX7_ok nmX7 8 (by decide) mw_317 rfl rfl rfl (Nat.le_of_ble_eq_true rfl) (xG_7 rfl) dX7_copyFrom_37 (fun v10 H locs hv10 hP hS => ?_)
  have hI := XI_putN hI hv10 (by decide)
  refine lv_aload_n hE.1 hE.2.1 dX7_copyFrom_40 rfl (lv_at hl 0 rfl) ?_
  refine lv_aload_n hE.1 hE.2.1 dX7_copyFrom_41 rfl (lv_at hl 1 rfl) ?_
  obtain ⟨z11, hz11, ez11⟩ := iI_of (v10 23 9)
  refine x_get (x := .int (v10 23 9)) hE hK hP 23 (Nat.lt_of_lt_of_le (by decide) hNN) (xG_7 rfl) rfl hin7 9 (by decide) mw_318 rfl dX7_copyFrom_42 ?_
  refine x_top (y := iI (z11)) ez11 ?_
  refine x_put (x := iI (z11)) hE hK hN hP hS 105 (Nat.lt_of_lt_of_le (by decide) hNN) (xG_7 rfl) rfl hin7 tyX7 tyX7_ok nmX7 9 (by decide) mw_318 rfl rfl rfl (Nat.le_of_ble_eq_true rfl) (xG_7 rfl) dX7_copyFrom_45 (fun v12 H locs hv12 hP hS => ?_)
  have hI := XI_putN hI hv12 (by decide)
  refine lv_aload_n hE.1 hE.2.1 dX7_copyFrom_48 rfl (lv_at hl 1 rfl) ?_
  refine x_get (x := .ref (ad 24)) hE hK hP 23 (Nat.lt_of_lt_of_le (by decide) hNN) (xG_7 rfl) rfl hin7 0 (by decide) mw_295 rfl dX7_copyFrom_49 ?_
  refine lv_iconst (v := iI (0)) hE.1 hE.2.1 dX7_copyFrom_52 (by decide) ?_
  refine lv_aload_n hE.1 hE.2.1 dX7_copyFrom_53 rfl (lv_at hl 0 rfl) ?_
  refine x_get (x := .ref (ad 106)) hE hK hP 105 (Nat.lt_of_lt_of_le (by decide) hNN) (xG_7 rfl) rfl hin7 0 (by decide) mw_295 rfl dX7_copyFrom_54 ?_
  refine lv_iconst (v := iI (0)) hE.1 hE.2.1 dX7_copyFrom_57 (by decide) ?_
  refine lv_bipush (v := iI (18)) hE.1 hE.2.1 dX7_copyFrom_58 (by decide) ?_
  refine x_copyi (rest := []) (sp := iI (0)) (dp := iI (0)) (n := iI (18)) (n0 := 18) (n1 := 18) hE hl.1 hK hN hP hS mw_912 mw_680 mw_679 mw_130 24 106 (Nat.lt_of_lt_of_le (by decide) hNN) (Nat.lt_of_lt_of_le (by decide) hNN) (xG_10 rfl) (fun _ => xG_10 rfl) (by decide) (by decide) (by decide) (by decide) (by decide) (by decide) (by decide) dX7_copyFrom_60 (fun ar13 H locs ha13 hP hS => ?_)
  refine lv_aload_n hE.1 hE.2.1 dX7_copyFrom_63 rfl (lv_at hl 1 rfl) ?_
  refine x_get (x := .ref (ad 25)) hE hK hP 23 (Nat.lt_of_lt_of_le (by decide) hNN) (xG_7 rfl) rfl hin7 1 (by decide) mw_299 rfl dX7_copyFrom_64 ?_
  refine lv_iconst (v := iI (0)) hE.1 hE.2.1 dX7_copyFrom_67 (by decide) ?_
  refine lv_aload_n hE.1 hE.2.1 dX7_copyFrom_68 rfl (lv_at hl 0 rfl) ?_
  refine x_get (x := .ref (ad 107)) hE hK hP 105 (Nat.lt_of_lt_of_le (by decide) hNN) (xG_7 rfl) rfl hin7 1 (by decide) mw_299 rfl dX7_copyFrom_69 ?_
  refine lv_iconst (v := iI (0)) hE.1 hE.2.1 dX7_copyFrom_72 (by decide) ?_
  refine lv_bipush (v := iI (9)) hE.1 hE.2.1 dX7_copyFrom_73 (by decide) ?_
  refine x_copyi (rest := []) (sp := iI (0)) (dp := iI (0)) (n := iI (9)) (n0 := 9) (n1 := 9) hE hl.1 hK hN hP hS mw_912 mw_680 mw_679 mw_130 25 107 (Nat.lt_of_lt_of_le (by decide) hNN) (Nat.lt_of_lt_of_le (by decide) hNN) (xG_10 rfl) (fun _ => xG_10 rfl) (by decide) (by decide) (by decide) (by decide) (by decide) (by decide) (by decide) dX7_copyFrom_75 (fun ar14 H locs ha14 hP hS => ?_)
  refine lv_aload_n hE.1 hE.2.1 dX7_copyFrom_78 rfl (lv_at hl 1 rfl) ?_
  refine x_get (x := .ref (ad 26)) hE hK hP 23 (Nat.lt_of_lt_of_le (by decide) hNN) (xG_7 rfl) rfl hin7 7 (by decide) mw_316 rfl dX7_copyFrom_79 ?_
  refine lv_iconst (v := iI (0)) hE.1 hE.2.1 dX7_copyFrom_82 (by decide) ?_
  refine lv_aload_n hE.1 hE.2.1 dX7_copyFrom_83 rfl (lv_at hl 0 rfl) ?_
  refine x_get (x := .ref (ad 108)) hE hK hP 105 (Nat.lt_of_lt_of_le (by decide) hNN) (xG_7 rfl) rfl hin7 7 (by decide) mw_316 rfl dX7_copyFrom_84 ?_
  refine lv_iconst (v := iI (0)) hE.1 hE.2.1 dX7_copyFrom_87 (by decide) ?_
  refine lv_iconst (v := iI (3)) hE.1 hE.2.1 dX7_copyFrom_88 (by decide) ?_
  refine x_copyi (rest := []) (sp := iI (0)) (dp := iI (0)) (n := iI (3)) (n0 := 3) (n1 := 3) hE hl.1 hK hN hP hS mw_912 mw_680 mw_679 mw_130 26 108 (Nat.lt_of_lt_of_le (by decide) hNN) (Nat.lt_of_lt_of_le (by decide) hNN) (xG_10 rfl) (fun _ => xG_10 rfl) (by decide) (by decide) (by decide) (by decide) (by decide) (by decide) (by decide) dX7_copyFrom_89 (fun ar15 H locs ha15 hP hS => ?_)
  refine lv_aload_n hE.1 hE.2.1 dX7_copyFrom_92 rfl (lv_at hl 1 rfl) ?_
  refine x_get (x := .ref (ad 27)) hE hK hP 23 (Nat.lt_of_lt_of_le (by decide) hNN) (xG_7 rfl) rfl hin7 10 (by decide) mw_319 rfl dX7_copyFrom_93 ?_
  refine lv_iconst (v := iI (0)) hE.1 hE.2.1 dX7_copyFrom_96 (by decide) ?_
  refine lv_aload_n hE.1 hE.2.1 dX7_copyFrom_97 rfl (lv_at hl 0 rfl) ?_
  refine x_get (x := .ref (ad 109)) hE hK hP 105 (Nat.lt_of_lt_of_le (by decide) hNN) (xG_7 rfl) rfl hin7 10 (by decide) mw_319 rfl dX7_copyFrom_98 ?_
  refine lv_iconst (v := iI (0)) hE.1 hE.2.1 dX7_copyFrom_101 (by decide) ?_
  refine lv_bipush (v := iI (18)) hE.1 hE.2.1 dX7_copyFrom_102 (by decide) ?_
  refine x_copyi (rest := []) (sp := iI (0)) (dp := iI (0)) (n := iI (18)) (n0 := 18) (n1 := 18) hE hl.1 hK hN hP hS mw_912 mw_680 mw_679 mw_130 27 109 (Nat.lt_of_lt_of_le (by decide) hNN) (Nat.lt_of_lt_of_le (by decide) hNN) (xG_10 rfl) (fun _ => xG_10 rfl) (by decide) (by decide) (by decide) (by decide) (by decide) (by decide) (by decide) dX7_copyFrom_104 (fun ar16 H locs ha16 hP hS => ?_)
  refine lv_aload_n hE.1 hE.2.1 dX7_copyFrom_107 rfl (lv_at hl 1 rfl) ?_
  refine x_get (x := .ref (ad 28)) hE hK hP 23 (Nat.lt_of_lt_of_le (by decide) hNN) (xG_7 rfl) rfl hin7 11 (by decide) mw_320 rfl dX7_copyFrom_108 ?_
  refine lv_iconst (v := iI (0)) hE.1 hE.2.1 dX7_copyFrom_111 (by decide) ?_
  refine lv_aload_n hE.1 hE.2.1 dX7_copyFrom_112 rfl (lv_at hl 0 rfl) ?_
  refine x_get (x := .ref (ad 110)) hE hK hP 105 (Nat.lt_of_lt_of_le (by decide) hNN) (xG_7 rfl) rfl hin7 11 (by decide) mw_320 rfl dX7_copyFrom_113 ?_
  refine lv_iconst (v := iI (0)) hE.1 hE.2.1 dX7_copyFrom_116 (by decide) ?_
  refine lv_bipush (v := iI (18)) hE.1 hE.2.1 dX7_copyFrom_117 (by decide) ?_
  refine x_copyi (rest := []) (sp := iI (0)) (dp := iI (0)) (n := iI (18)) (n0 := 18) (n1 := 18) hE hl.1 hK hN hP hS mw_912 mw_680 mw_679 mw_130 28 110 (Nat.lt_of_lt_of_le (by decide) hNN) (Nat.lt_of_lt_of_le (by decide) hNN) (xG_10 rfl) (fun _ => xG_10 rfl) (by decide) (by decide) (by decide) (by decide) (by decide) (by decide) (by decide) dX7_copyFrom_119 (fun ar17 H locs ha17 hP hS => ?_)
  refine lv_aload_n hE.1 hE.2.1 dX7_copyFrom_122 rfl (lv_at hl 1 rfl) ?_
  refine x_get (x := .ref (ad 29)) hE hK hP 23 (Nat.lt_of_lt_of_le (by decide) hNN) (xG_7 rfl) rfl hin7 12 (by decide) mw_321 rfl dX7_copyFrom_123 ?_
  refine lv_iconst (v := iI (0)) hE.1 hE.2.1 dX7_copyFrom_126 (by decide) ?_
  refine lv_aload_n hE.1 hE.2.1 dX7_copyFrom_127 rfl (lv_at hl 0 rfl) ?_
  refine x_get (x := .ref (ad 111)) hE hK hP 105 (Nat.lt_of_lt_of_le (by decide) hNN) (xG_7 rfl) rfl hin7 12 (by decide) mw_321 rfl dX7_copyFrom_128 ?_
  refine lv_iconst (v := iI (0)) hE.1 hE.2.1 dX7_copyFrom_131 (by decide) ?_
  refine lv_bipush (v := iI (18)) hE.1 hE.2.1 dX7_copyFrom_132 (by decide) ?_
  refine x_copyi (rest := []) (sp := iI (0)) (dp := iI (0)) (n := iI (18)) (n0 := 18) (n1 := 18) hE hl.1 hK hN hP hS mw_912 mw_680 mw_679 mw_130 29 111 (Nat.lt_of_lt_of_le (by decide) hNN) (Nat.lt_of_lt_of_le (by decide) hNN) (xG_10 rfl) (fun _ => xG_10 rfl) (by decide) (by decide) (by decide) (by decide) (by decide) (by decide) (by decide) dX7_copyFrom_134 (fun ar18 H locs ha18 hP hS => ?_)
  refine lv_aload_n hE.1 hE.2.1 dX7_copyFrom_137 rfl (lv_at hl 1 rfl) ?_
  refine x_get (x := .ref (ad 30)) hE hK hP 23 (Nat.lt_of_lt_of_le (by decide) hNN) (xG_7 rfl) rfl hin7 13 (by decide) mw_322 rfl dX7_copyFrom_138 ?_
  refine lv_iconst (v := iI (0)) hE.1 hE.2.1 dX7_copyFrom_141 (by decide) ?_
  refine lv_aload_n hE.1 hE.2.1 dX7_copyFrom_142 rfl (lv_at hl 0 rfl) ?_
  refine x_get (x := .ref (ad 112)) hE hK hP 105 (Nat.lt_of_lt_of_le (by decide) hNN) (xG_7 rfl) rfl hin7 13 (by decide) mw_322 rfl dX7_copyFrom_143 ?_
  refine lv_iconst (v := iI (0)) hE.1 hE.2.1 dX7_copyFrom_146 (by decide) ?_
  refine lv_bipush (v := iI (18)) hE.1 hE.2.1 dX7_copyFrom_147 (by decide) ?_
  refine x_copyi (rest := []) (sp := iI (0)) (dp := iI (0)) (n := iI (18)) (n0 := 18) (n1 := 18) hE hl.1 hK hN hP hS mw_912 mw_680 mw_679 mw_130 30 112 (Nat.lt_of_lt_of_le (by decide) hNN) (Nat.lt_of_lt_of_le (by decide) hNN) (xG_10 rfl) (fun _ => xG_10 rfl) (by decide) (by decide) (by decide) (by decide) (by decide) (by decide) (by decide) dX7_copyFrom_149 (fun ar19 H locs ha19 hP hS => ?_)
  exact kr _ _ _ _ _ _ _ ⟨hI, fun i j h => ((up_oth hv12 (fun q => h (by rcases q with ⟨rfl, rfl⟩; decide))).trans ((up_oth hv10 (fun q => h (by rcases q with ⟨rfl, rfl⟩; decide))).trans ((up_oth hv8 (fun q => h (by rcases q with ⟨rfl, rfl⟩; decide))).trans ((up_oth hv6 (fun q => h (by rcases q with ⟨rfl, rfl⟩; decide))).trans ((up_oth hv4 (fun q => h (by rcases q with ⟨rfl, rfl⟩; decide))).trans (up_oth hv2 (fun q => h (by rcases q with ⟨rfl, rfl⟩; decide))))))))⟩ hP hS dX7_copyFrom_152

set_option maxHeartbeats 4000000 in
set_option maxRecDepth 100000 in
theorem s_X1_copyFrom_114_3 (l : Launch) (D : va_G) (K : Nat → ClassId) (ad : Nat → Nat) (mm : Option Nat) (N : Nat) (hNN : 132 ≤ N) (v ar : sI) (al : sL) (hI : XI v) : Met l yX1_copyFrom (wM yX1_copyFrom cX1_copyFrom 2 none) (rmD 1) (va_Pc [.ref (ad 114), .ref (ad 3)] (wPre D K ad (xG ad K mm) N v ar al)) (va_Qv (fun u : sT => XI u.1 ∧ (∀ i j : Nat, (i, j) ∉ ([(114, 0), (114, 1), (114, 2), (114, 3), (114, 4), (114, 5), (114, 6), (114, 7), (114, 8), (114, 9), (114, 10)] : List (Nat × Nat)) → u.1 i j = v i j)) (wB D ad (xG ad K mm) N) (inW ad N)) 0 0 (inW ad N) := by
  refine s_metV (by decide) (Nat.le_of_ble_eq_true rfl) ?_
  intro p e s m below meth c ls args Q hE hB hl kr
  have hE : CallFix p m c cX1_copyFrom 2 s args tbG "TaleCourt$Court" := hE
  obtain ⟨hP, hK, hN⟩ := hB
  have hS : va_S (inW ad N) s.heap s.heap [] := va_S.rf
  have hl : lv_has ls 2 [(0, .ref (ad 114)), (1, .ref (ad 3))] := hl
  refine lv_aload_n hE.1 hE.2.1 dX1_copyFrom_0 rfl (lv_at hl 0 rfl) ?_
  refine lv_aload_n hE.1 hE.2.1 dX1_copyFrom_1 rfl (lv_at hl 1 rfl) ?_
  obtain ⟨z1, hz1, ez1⟩ := XI_get hI 3 0 0 3 (by decide)
  refine x_get (x := .int (v 3 0)) hE hK hP 3 (Nat.lt_of_lt_of_le (by decide) hNN) (xG_1 rfl) rfl hin1 0 (by decide) mw_178 rfl dX1_copyFrom_2 ?_
  refine x_top (y := iI (z1)) ez1 ?_
  refine x_put (x := iI (z1)) hE hK hN hP hS 114 (Nat.lt_of_lt_of_le (by decide) hNN) (xG_1 rfl) rfl hin1 tyX1 tyX1_ok nmX1 0 (by decide) mw_178 rfl rfl rfl (Nat.le_of_ble_eq_true rfl) (xG_1 rfl) dX1_copyFrom_5 (fun v2 H locs hv2 hP hS => ?_)
  have hI := XI_putB (z := z1) hI hv2 0 3 (by omega) (by decide) (by omega)
  refine lv_aload_n hE.1 hE.2.1 dX1_copyFrom_8 rfl (lv_at hl 0 rfl) ?_
  refine lv_aload_n hE.1 hE.2.1 dX1_copyFrom_9 rfl (lv_at hl 1 rfl) ?_
  obtain ⟨z3, hz3, ez3⟩ := iI_of (v2 3 1)
  refine x_get (x := .int (v2 3 1)) hE hK hP 3 (Nat.lt_of_lt_of_le (by decide) hNN) (xG_1 rfl) rfl hin1 1 (by decide) mw_182 rfl dX1_copyFrom_10 ?_
  refine x_top (y := iI (z3)) ez3 ?_
  refine x_put (x := iI (z3)) hE hK hN hP hS 114 (Nat.lt_of_lt_of_le (by decide) hNN) (xG_1 rfl) rfl hin1 tyX1 tyX1_ok nmX1 1 (by decide) mw_182 rfl rfl rfl (Nat.le_of_ble_eq_true rfl) (xG_1 rfl) dX1_copyFrom_13 (fun v4 H locs hv4 hP hS => ?_)
  have hI := XI_putN hI hv4 (by decide)
  refine lv_aload_n hE.1 hE.2.1 dX1_copyFrom_16 rfl (lv_at hl 0 rfl) ?_
  refine lv_aload_n hE.1 hE.2.1 dX1_copyFrom_17 rfl (lv_at hl 1 rfl) ?_
  obtain ⟨z5, hz5, ez5⟩ := XI_get hI 3 2 0 9 (by decide)
  refine x_get (x := .int (v4 3 2)) hE hK hP 3 (Nat.lt_of_lt_of_le (by decide) hNN) (xG_1 rfl) rfl hin1 2 (by decide) mw_187 rfl dX1_copyFrom_18 ?_
  refine x_top (y := iI (z5)) ez5 ?_
  refine x_put (x := iI (z5)) hE hK hN hP hS 114 (Nat.lt_of_lt_of_le (by decide) hNN) (xG_1 rfl) rfl hin1 tyX1 tyX1_ok nmX1 2 (by decide) mw_187 rfl rfl rfl (Nat.le_of_ble_eq_true rfl) (xG_1 rfl) dX1_copyFrom_21 (fun v6 H locs hv6 hP hS => ?_)
  have hI := XI_putB (z := z5) hI hv6 0 9 (by omega) (by decide) (by omega)
  refine lv_aload_n hE.1 hE.2.1 dX1_copyFrom_24 rfl (lv_at hl 0 rfl) ?_
  refine lv_aload_n hE.1 hE.2.1 dX1_copyFrom_25 rfl (lv_at hl 1 rfl) ?_
  obtain ⟨z7, hz7, ez7⟩ := XI_get hI 3 3 0 8 (by decide)
  refine x_get (x := .int (v6 3 3)) hE hK hP 3 (Nat.lt_of_lt_of_le (by decide) hNN) (xG_1 rfl) rfl hin1 3 (by decide) mw_190 rfl dX1_copyFrom_26 ?_
  refine x_top (y := iI (z7)) ez7 ?_
  refine x_put (x := iI (z7)) hE hK hN hP hS 114 (Nat.lt_of_lt_of_le (by decide) hNN) (xG_1 rfl) rfl hin1 tyX1 tyX1_ok nmX1 3 (by decide) mw_190 rfl rfl rfl (Nat.le_of_ble_eq_true rfl) (xG_1 rfl) dX1_copyFrom_29 (fun v8 H locs hv8 hP hS => ?_)
  have hI := XI_putB (z := z7) hI hv8 0 8 (by omega) (by decide) (by omega)
  refine lv_aload_n hE.1 hE.2.1 dX1_copyFrom_32 rfl (lv_at hl 0 rfl) ?_
  refine lv_aload_n hE.1 hE.2.1 dX1_copyFrom_33 rfl (lv_at hl 1 rfl) ?_
  obtain ⟨z9, hz9, ez9⟩ := iI_of (v8 3 4)
  refine x_get (x := .int (v8 3 4)) hE hK hP 3 (Nat.lt_of_lt_of_le (by decide) hNN) (xG_1 rfl) rfl hin1 4 (by decide) mw_194 rfl dX1_copyFrom_34 ?_
  refine x_top (y := iI (z9)) ez9 ?_
  refine x_put (x := iI (z9)) hE hK hN hP hS 114 (Nat.lt_of_lt_of_le (by decide) hNN) (xG_1 rfl) rfl hin1 tyX1 tyX1_ok nmX1 4 (by decide) mw_194 rfl rfl rfl (Nat.le_of_ble_eq_true rfl) (xG_1 rfl) dX1_copyFrom_37 (fun v10 H locs hv10 hP hS => ?_)
  have hI := XI_putN hI hv10 (by decide)
  refine lv_aload_n hE.1 hE.2.1 dX1_copyFrom_40 rfl (lv_at hl 0 rfl) ?_
  refine lv_aload_n hE.1 hE.2.1 dX1_copyFrom_41 rfl (lv_at hl 1 rfl) ?_
  obtain ⟨z11, hz11, ez11⟩ := iI_of (v10 3 5)
  refine x_get (x := .int (v10 3 5)) hE hK hP 3 (Nat.lt_of_lt_of_le (by decide) hNN) (xG_1 rfl) rfl hin1 5 (by decide) mw_197 rfl dX1_copyFrom_42 ?_
  refine x_top (y := iI (z11)) ez11 ?_
  refine x_put (x := iI (z11)) hE hK hN hP hS 114 (Nat.lt_of_lt_of_le (by decide) hNN) (xG_1 rfl) rfl hin1 tyX1 tyX1_ok nmX1 5 (by decide) mw_197 rfl rfl rfl (Nat.le_of_ble_eq_true rfl) (xG_1 rfl) dX1_copyFrom_45 (fun v12 H locs hv12 hP hS => ?_)
  have hI := XI_putN hI hv12 (by decide)
  refine lv_aload_n hE.1 hE.2.1 dX1_copyFrom_48 rfl (lv_at hl 0 rfl) ?_
  refine lv_aload_n hE.1 hE.2.1 dX1_copyFrom_49 rfl (lv_at hl 1 rfl) ?_
  obtain ⟨z13, hz13, ez13⟩ := iI_of (v12 3 6)
  refine x_get (x := .int (v12 3 6)) hE hK hP 3 (Nat.lt_of_lt_of_le (by decide) hNN) (xG_1 rfl) rfl hin1 6 (by decide) mw_200 rfl dX1_copyFrom_50 ?_
  refine x_top (y := iI (z13)) ez13 ?_
  refine x_put (x := iI (z13)) hE hK hN hP hS 114 (Nat.lt_of_lt_of_le (by decide) hNN) (xG_1 rfl) rfl hin1 tyX1 tyX1_ok nmX1 6 (by decide) mw_200 rfl rfl rfl (Nat.le_of_ble_eq_true rfl) (xG_1 rfl) dX1_copyFrom_53 (fun v14 H locs hv14 hP hS => ?_)
  have hI := XI_putN hI hv14 (by decide)
  refine lv_aload_n hE.1 hE.2.1 dX1_copyFrom_56 rfl (lv_at hl 0 rfl) ?_
  refine lv_aload_n hE.1 hE.2.1 dX1_copyFrom_57 rfl (lv_at hl 1 rfl) ?_
  obtain ⟨z15, hz15, ez15⟩ := iI_of (v14 3 7)
  refine x_get (x := .int (v14 3 7)) hE hK hP 3 (Nat.lt_of_lt_of_le (by decide) hNN) (xG_1 rfl) rfl hin1 7 (by decide) mw_203 rfl dX1_copyFrom_58 ?_
  refine x_top (y := iI (z15)) ez15 ?_
  refine x_put (x := iI (z15)) hE hK hN hP hS 114 (Nat.lt_of_lt_of_le (by decide) hNN) (xG_1 rfl) rfl hin1 tyX1 tyX1_ok nmX1 7 (by decide) mw_203 rfl rfl rfl (Nat.le_of_ble_eq_true rfl) (xG_1 rfl) dX1_copyFrom_61 (fun v16 H locs hv16 hP hS => ?_)
  have hI := XI_putN hI hv16 (by decide)
  refine lv_aload_n hE.1 hE.2.1 dX1_copyFrom_64 rfl (lv_at hl 0 rfl) ?_
  refine lv_aload_n hE.1 hE.2.1 dX1_copyFrom_65 rfl (lv_at hl 1 rfl) ?_
  obtain ⟨z17, hz17, ez17⟩ := iI_of (v16 3 8)
  refine x_get (x := .int (v16 3 8)) hE hK hP 3 (Nat.lt_of_lt_of_le (by decide) hNN) (xG_1 rfl) rfl hin1 8 (by decide) mw_207 rfl dX1_copyFrom_66 ?_
  refine x_top (y := iI (z17)) ez17 ?_
  refine x_put (x := iI (z17)) hE hK hN hP hS 114 (Nat.lt_of_lt_of_le (by decide) hNN) (xG_1 rfl) rfl hin1 tyX1 tyX1_ok nmX1 8 (by decide) mw_207 rfl rfl rfl (Nat.le_of_ble_eq_true rfl) (xG_1 rfl) dX1_copyFrom_69 (fun v18 H locs hv18 hP hS => ?_)
  have hI := XI_putN hI hv18 (by decide)
  refine lv_aload_n hE.1 hE.2.1 dX1_copyFrom_72 rfl (lv_at hl 0 rfl) ?_
  refine lv_aload_n hE.1 hE.2.1 dX1_copyFrom_73 rfl (lv_at hl 1 rfl) ?_
  obtain ⟨z19, hz19, ez19⟩ := iI_of (v18 3 9)
  refine x_get (x := .int (v18 3 9)) hE hK hP 3 (Nat.lt_of_lt_of_le (by decide) hNN) (xG_1 rfl) rfl hin1 9 (by decide) mw_211 rfl dX1_copyFrom_74 ?_
  refine x_top (y := iI (z19)) ez19 ?_
  refine x_put (x := iI (z19)) hE hK hN hP hS 114 (Nat.lt_of_lt_of_le (by decide) hNN) (xG_1 rfl) rfl hin1 tyX1 tyX1_ok nmX1 9 (by decide) mw_211 rfl rfl rfl (Nat.le_of_ble_eq_true rfl) (xG_1 rfl) dX1_copyFrom_77 (fun v20 H locs hv20 hP hS => ?_)
  have hI := XI_putN hI hv20 (by decide)
  refine lv_aload_n hE.1 hE.2.1 dX1_copyFrom_80 rfl (lv_at hl 0 rfl) ?_
  refine lv_aload_n hE.1 hE.2.1 dX1_copyFrom_81 rfl (lv_at hl 1 rfl) ?_
  obtain ⟨z21, hz21, ez21⟩ := iI_of (v20 3 10)
  refine x_get (x := .int (v20 3 10)) hE hK hP 3 (Nat.lt_of_lt_of_le (by decide) hNN) (xG_1 rfl) rfl hin1 10 (by decide) mw_214 rfl dX1_copyFrom_82 ?_
  refine x_top (y := iI (z21)) ez21 ?_
  refine x_put (x := iI (z21)) hE hK hN hP hS 114 (Nat.lt_of_lt_of_le (by decide) hNN) (xG_1 rfl) rfl hin1 tyX1 tyX1_ok nmX1 10 (by decide) mw_214 rfl rfl rfl (Nat.le_of_ble_eq_true rfl) (xG_1 rfl) dX1_copyFrom_85 (fun v22 H locs hv22 hP hS => ?_)
  have hI := XI_putN hI hv22 (by decide)
  refine lv_aload_n hE.1 hE.2.1 dX1_copyFrom_88 rfl (lv_at hl 1 rfl) ?_
  refine x_get (x := .ref (ad 4)) hE hK hP 3 (Nat.lt_of_lt_of_le (by decide) hNN) (xG_1 rfl) rfl hin1 11 (by decide) mw_218 rfl dX1_copyFrom_89 ?_
  refine lv_iconst (v := iI (0)) hE.1 hE.2.1 dX1_copyFrom_92 (by decide) ?_
  refine lv_aload_n hE.1 hE.2.1 dX1_copyFrom_93 rfl (lv_at hl 0 rfl) ?_
  refine x_get (x := .ref (ad 115)) hE hK hP 114 (Nat.lt_of_lt_of_le (by decide) hNN) (xG_1 rfl) rfl hin1 11 (by decide) mw_218 rfl dX1_copyFrom_94 ?_
  refine lv_iconst (v := iI (0)) hE.1 hE.2.1 dX1_copyFrom_97 (by decide) ?_
  refine lv_bipush (v := iI (9)) hE.1 hE.2.1 dX1_copyFrom_98 (by decide) ?_
  refine x_copyi (rest := []) (sp := iI (0)) (dp := iI (0)) (n := iI (9)) (n0 := 9) (n1 := 9) hE hl.1 hK hN hP hS mw_678 mw_680 mw_679 mw_130 4 115 (Nat.lt_of_lt_of_le (by decide) hNN) (Nat.lt_of_lt_of_le (by decide) hNN) (xG_10 rfl) (fun _ => xG_10 rfl) (by decide) (by decide) (by decide) (by decide) (by decide) (by decide) (by decide) dX1_copyFrom_100 (fun ar23 H locs ha23 hP hS => ?_)
  refine lv_aload_n hE.1 hE.2.1 dX1_copyFrom_103 rfl (lv_at hl 1 rfl) ?_
  refine x_get (x := .ref (ad 5)) hE hK hP 3 (Nat.lt_of_lt_of_le (by decide) hNN) (xG_1 rfl) rfl hin1 12 (by decide) mw_221 rfl dX1_copyFrom_104 ?_
  refine lv_iconst (v := iI (0)) hE.1 hE.2.1 dX1_copyFrom_107 (by decide) ?_
  refine lv_aload_n hE.1 hE.2.1 dX1_copyFrom_108 rfl (lv_at hl 0 rfl) ?_
  refine x_get (x := .ref (ad 116)) hE hK hP 114 (Nat.lt_of_lt_of_le (by decide) hNN) (xG_1 rfl) rfl hin1 12 (by decide) mw_221 rfl dX1_copyFrom_109 ?_
  refine lv_iconst (v := iI (0)) hE.1 hE.2.1 dX1_copyFrom_112 (by decide) ?_
  refine lv_bipush (v := iI (9)) hE.1 hE.2.1 dX1_copyFrom_113 (by decide) ?_
  refine x_copyi (rest := []) (sp := iI (0)) (dp := iI (0)) (n := iI (9)) (n0 := 9) (n1 := 9) hE hl.1 hK hN hP hS mw_678 mw_680 mw_679 mw_130 5 116 (Nat.lt_of_lt_of_le (by decide) hNN) (Nat.lt_of_lt_of_le (by decide) hNN) (xG_10 rfl) (fun _ => xG_10 rfl) (by decide) (by decide) (by decide) (by decide) (by decide) (by decide) (by decide) dX1_copyFrom_115 (fun ar24 H locs ha24 hP hS => ?_)
  refine lv_aload_n hE.1 hE.2.1 dX1_copyFrom_118 rfl (lv_at hl 1 rfl) ?_
  refine x_get (x := .ref (ad 6)) hE hK hP 3 (Nat.lt_of_lt_of_le (by decide) hNN) (xG_1 rfl) rfl hin1 13 (by decide) mw_225 rfl dX1_copyFrom_119 ?_
  refine lv_iconst (v := iI (0)) hE.1 hE.2.1 dX1_copyFrom_122 (by decide) ?_
  refine lv_aload_n hE.1 hE.2.1 dX1_copyFrom_123 rfl (lv_at hl 0 rfl) ?_
  refine x_get (x := .ref (ad 117)) hE hK hP 114 (Nat.lt_of_lt_of_le (by decide) hNN) (xG_1 rfl) rfl hin1 13 (by decide) mw_225 rfl dX1_copyFrom_124 ?_
  refine lv_iconst (v := iI (0)) hE.1 hE.2.1 dX1_copyFrom_127 (by decide) ?_
  refine lv_bipush (v := iI (9)) hE.1 hE.2.1 dX1_copyFrom_128 (by decide) ?_
  refine x_copyi (rest := []) (sp := iI (0)) (dp := iI (0)) (n := iI (9)) (n0 := 9) (n1 := 9) hE hl.1 hK hN hP hS mw_678 mw_680 mw_679 mw_130 6 117 (Nat.lt_of_lt_of_le (by decide) hNN) (Nat.lt_of_lt_of_le (by decide) hNN) (xG_10 rfl) (fun _ => xG_10 rfl) (by decide) (by decide) (by decide) (by decide) (by decide) (by decide) (by decide) dX1_copyFrom_130 (fun ar25 H locs ha25 hP hS => ?_)
  refine lv_aload_n hE.1 hE.2.1 dX1_copyFrom_133 rfl (lv_at hl 1 rfl) ?_
  refine x_get (x := .ref (ad 7)) hE hK hP 3 (Nat.lt_of_lt_of_le (by decide) hNN) (xG_1 rfl) rfl hin1 14 (by decide) mw_229 rfl dX1_copyFrom_134 ?_
  refine lv_iconst (v := iI (0)) hE.1 hE.2.1 dX1_copyFrom_137 (by decide) ?_
  refine lv_aload_n hE.1 hE.2.1 dX1_copyFrom_138 rfl (lv_at hl 0 rfl) ?_
  refine x_get (x := .ref (ad 118)) hE hK hP 114 (Nat.lt_of_lt_of_le (by decide) hNN) (xG_1 rfl) rfl hin1 14 (by decide) mw_229 rfl dX1_copyFrom_139 ?_
  refine lv_iconst (v := iI (0)) hE.1 hE.2.1 dX1_copyFrom_142 (by decide) ?_
  refine lv_bipush (v := iI (9)) hE.1 hE.2.1 dX1_copyFrom_143 (by decide) ?_
  refine x_copyi (rest := []) (sp := iI (0)) (dp := iI (0)) (n := iI (9)) (n0 := 9) (n1 := 9) hE hl.1 hK hN hP hS mw_678 mw_680 mw_679 mw_130 7 118 (Nat.lt_of_lt_of_le (by decide) hNN) (Nat.lt_of_lt_of_le (by decide) hNN) (xG_10 rfl) (fun _ => xG_10 rfl) (by decide) (by decide) (by decide) (by decide) (by decide) (by decide) (by decide) dX1_copyFrom_145 (fun ar26 H locs ha26 hP hS => ?_)
  refine lv_aload_n hE.1 hE.2.1 dX1_copyFrom_148 rfl (lv_at hl 1 rfl) ?_
  refine x_get (x := .ref (ad 8)) hE hK hP 3 (Nat.lt_of_lt_of_le (by decide) hNN) (xG_1 rfl) rfl hin1 15 (by decide) mw_231 rfl dX1_copyFrom_149 ?_
  refine lv_iconst (v := iI (0)) hE.1 hE.2.1 dX1_copyFrom_152 (by decide) ?_
  refine lv_aload_n hE.1 hE.2.1 dX1_copyFrom_153 rfl (lv_at hl 0 rfl) ?_
  refine x_get (x := .ref (ad 119)) hE hK hP 114 (Nat.lt_of_lt_of_le (by decide) hNN) (xG_1 rfl) rfl hin1 15 (by decide) mw_231 rfl dX1_copyFrom_154 ?_
  refine lv_iconst (v := iI (0)) hE.1 hE.2.1 dX1_copyFrom_157 (by decide) ?_
  refine lv_bipush (v := iI (9)) hE.1 hE.2.1 dX1_copyFrom_158 (by decide) ?_
  refine x_copyi (rest := []) (sp := iI (0)) (dp := iI (0)) (n := iI (9)) (n0 := 9) (n1 := 9) hE hl.1 hK hN hP hS mw_678 mw_680 mw_679 mw_130 8 119 (Nat.lt_of_lt_of_le (by decide) hNN) (Nat.lt_of_lt_of_le (by decide) hNN) (xG_10 rfl) (fun _ => xG_10 rfl) (by decide) (by decide) (by decide) (by decide) (by decide) (by decide) (by decide) dX1_copyFrom_160 (fun ar27 H locs ha27 hP hS => ?_)
  refine lv_aload_n hE.1 hE.2.1 dX1_copyFrom_163 rfl (lv_at hl 1 rfl) ?_
  refine x_get (x := .ref (ad 9)) hE hK hP 3 (Nat.lt_of_lt_of_le (by decide) hNN) (xG_1 rfl) rfl hin1 16 (by decide) mw_235 rfl dX1_copyFrom_164 ?_
  refine lv_iconst (v := iI (0)) hE.1 hE.2.1 dX1_copyFrom_167 (by decide) ?_
  refine lv_aload_n hE.1 hE.2.1 dX1_copyFrom_168 rfl (lv_at hl 0 rfl) ?_
  refine x_get (x := .ref (ad 120)) hE hK hP 114 (Nat.lt_of_lt_of_le (by decide) hNN) (xG_1 rfl) rfl hin1 16 (by decide) mw_235 rfl dX1_copyFrom_169 ?_
  refine lv_iconst (v := iI (0)) hE.1 hE.2.1 dX1_copyFrom_172 (by decide) ?_
  refine lv_bipush (v := iI (9)) hE.1 hE.2.1 dX1_copyFrom_173 (by decide) ?_
  refine x_copyi (rest := []) (sp := iI (0)) (dp := iI (0)) (n := iI (9)) (n0 := 9) (n1 := 9) hE hl.1 hK hN hP hS mw_678 mw_680 mw_679 mw_130 9 120 (Nat.lt_of_lt_of_le (by decide) hNN) (Nat.lt_of_lt_of_le (by decide) hNN) (xG_10 rfl) (fun _ => xG_10 rfl) (by decide) (by decide) (by decide) (by decide) (by decide) (by decide) (by decide) dX1_copyFrom_175 (fun ar28 H locs ha28 hP hS => ?_)
  refine lv_aload_n hE.1 hE.2.1 dX1_copyFrom_178 rfl (lv_at hl 1 rfl) ?_
  refine x_get (x := .ref (ad 10)) hE hK hP 3 (Nat.lt_of_lt_of_le (by decide) hNN) (xG_1 rfl) rfl hin1 17 (by decide) mw_239 rfl dX1_copyFrom_179 ?_
  refine lv_iconst (v := iI (0)) hE.1 hE.2.1 dX1_copyFrom_182 (by decide) ?_
  refine lv_aload_n hE.1 hE.2.1 dX1_copyFrom_183 rfl (lv_at hl 0 rfl) ?_
  refine x_get (x := .ref (ad 121)) hE hK hP 114 (Nat.lt_of_lt_of_le (by decide) hNN) (xG_1 rfl) rfl hin1 17 (by decide) mw_239 rfl dX1_copyFrom_184 ?_
  refine lv_iconst (v := iI (0)) hE.1 hE.2.1 dX1_copyFrom_187 (by decide) ?_
  refine lv_iconst (v := iI (3)) hE.1 hE.2.1 dX1_copyFrom_188 (by decide) ?_
  refine x_copyi (rest := []) (sp := iI (0)) (dp := iI (0)) (n := iI (3)) (n0 := 3) (n1 := 3) hE hl.1 hK hN hP hS mw_678 mw_680 mw_679 mw_130 10 121 (Nat.lt_of_lt_of_le (by decide) hNN) (Nat.lt_of_lt_of_le (by decide) hNN) (xG_10 rfl) (fun _ => xG_10 rfl) (by decide) (by decide) (by decide) (by decide) (by decide) (by decide) (by decide) dX1_copyFrom_189 (fun ar29 H locs ha29 hP hS => ?_)
  refine lv_aload_n hE.1 hE.2.1 dX1_copyFrom_192 rfl (lv_at hl 1 rfl) ?_
  refine x_get (x := .ref (ad 11)) hE hK hP 3 (Nat.lt_of_lt_of_le (by decide) hNN) (xG_1 rfl) rfl hin1 18 (by decide) mw_241 rfl dX1_copyFrom_193 ?_
  refine lv_iconst (v := iI (0)) hE.1 hE.2.1 dX1_copyFrom_196 (by decide) ?_
  refine lv_aload_n hE.1 hE.2.1 dX1_copyFrom_197 rfl (lv_at hl 0 rfl) ?_
  refine x_get (x := .ref (ad 122)) hE hK hP 114 (Nat.lt_of_lt_of_le (by decide) hNN) (xG_1 rfl) rfl hin1 18 (by decide) mw_241 rfl dX1_copyFrom_198 ?_
  refine lv_iconst (v := iI (0)) hE.1 hE.2.1 dX1_copyFrom_201 (by decide) ?_
  refine lv_bipush (v := iI (8)) hE.1 hE.2.1 dX1_copyFrom_202 (by decide) ?_
  refine x_copyi (rest := []) (sp := iI (0)) (dp := iI (0)) (n := iI (8)) (n0 := 8) (n1 := 8) hE hl.1 hK hN hP hS mw_678 mw_680 mw_679 mw_130 11 122 (Nat.lt_of_lt_of_le (by decide) hNN) (Nat.lt_of_lt_of_le (by decide) hNN) (xG_10 rfl) (fun _ => xG_10 rfl) (by decide) (by decide) (by decide) (by decide) (by decide) (by decide) (by decide) dX1_copyFrom_204 (fun ar30 H locs ha30 hP hS => ?_)
  refine lv_aload_n hE.1 hE.2.1 dX1_copyFrom_207 rfl (lv_at hl 1 rfl) ?_
  refine x_get (x := .ref (ad 12)) hE hK hP 3 (Nat.lt_of_lt_of_le (by decide) hNN) (xG_1 rfl) rfl hin1 19 (by decide) mw_244 rfl dX1_copyFrom_208 ?_
  refine lv_iconst (v := iI (0)) hE.1 hE.2.1 dX1_copyFrom_211 (by decide) ?_
  refine lv_aload_n hE.1 hE.2.1 dX1_copyFrom_212 rfl (lv_at hl 0 rfl) ?_
  refine x_get (x := .ref (ad 123)) hE hK hP 114 (Nat.lt_of_lt_of_le (by decide) hNN) (xG_1 rfl) rfl hin1 19 (by decide) mw_244 rfl dX1_copyFrom_213 ?_
  refine lv_iconst (v := iI (0)) hE.1 hE.2.1 dX1_copyFrom_216 (by decide) ?_
  refine lv_bipush (v := iI (8)) hE.1 hE.2.1 dX1_copyFrom_217 (by decide) ?_
  refine x_copyi (rest := []) (sp := iI (0)) (dp := iI (0)) (n := iI (8)) (n0 := 8) (n1 := 8) hE hl.1 hK hN hP hS mw_678 mw_680 mw_679 mw_130 12 123 (Nat.lt_of_lt_of_le (by decide) hNN) (Nat.lt_of_lt_of_le (by decide) hNN) (xG_10 rfl) (fun _ => xG_10 rfl) (by decide) (by decide) (by decide) (by decide) (by decide) (by decide) (by decide) dX1_copyFrom_219 (fun ar31 H locs ha31 hP hS => ?_)
  exact kr _ _ _ _ _ _ _ ⟨hI, fun i j h => ((up_oth hv22 (fun q => h (by rcases q with ⟨rfl, rfl⟩; decide))).trans ((up_oth hv20 (fun q => h (by rcases q with ⟨rfl, rfl⟩; decide))).trans ((up_oth hv18 (fun q => h (by rcases q with ⟨rfl, rfl⟩; decide))).trans ((up_oth hv16 (fun q => h (by rcases q with ⟨rfl, rfl⟩; decide))).trans ((up_oth hv14 (fun q => h (by rcases q with ⟨rfl, rfl⟩; decide))).trans ((up_oth hv12 (fun q => h (by rcases q with ⟨rfl, rfl⟩; decide))).trans ((up_oth hv10 (fun q => h (by rcases q with ⟨rfl, rfl⟩; decide))).trans ((up_oth hv8 (fun q => h (by rcases q with ⟨rfl, rfl⟩; decide))).trans ((up_oth hv6 (fun q => h (by rcases q with ⟨rfl, rfl⟩; decide))).trans ((up_oth hv4 (fun q => h (by rcases q with ⟨rfl, rfl⟩; decide))).trans (up_oth hv2 (fun q => h (by rcases q with ⟨rfl, rfl⟩; decide)))))))))))))⟩ hP hS dX1_copyFrom_222

set_option maxHeartbeats 4000000 in
set_option maxRecDepth 100000 in
theorem s_X7_copyFrom_124_23 (l : Launch) (D : va_G) (K : Nat → ClassId) (ad : Nat → Nat) (mm : Option Nat) (N : Nat) (hNN : 132 ≤ N) (v ar : sI) (al : sL) (hI : XI v) : Met l yX7_copyFrom (wM yX7_copyFrom cX7_copyFrom 2 none) (rmD 1) (va_Pc [.ref (ad 124), .ref (ad 23)] (wPre D K ad (xG ad K mm) N v ar al)) (va_Qv (fun u : sT => XI u.1 ∧ (∀ i j : Nat, (i, j) ∉ ([(124, 2), (124, 3), (124, 4), (124, 5), (124, 8), (124, 9)] : List (Nat × Nat)) → u.1 i j = v i j)) (wB D ad (xG ad K mm) N) (inW ad N)) 0 0 (inW ad N) := by
  refine s_metV (by decide) (Nat.le_of_ble_eq_true rfl) ?_
  intro p e s m below meth c ls args Q hE hB hl kr
  have hE : CallFix p m c cX7_copyFrom 2 s args tbG "TaleCourt$Telling" := hE
  obtain ⟨hP, hK, hN⟩ := hB
  have hS : va_S (inW ad N) s.heap s.heap [] := va_S.rf
  have hl : lv_has ls 2 [(0, .ref (ad 124)), (1, .ref (ad 23))] := hl
  refine lv_aload_n hE.1 hE.2.1 dX7_copyFrom_0 rfl (lv_at hl 0 rfl) ?_
  refine lv_aload_n hE.1 hE.2.1 dX7_copyFrom_1 rfl (lv_at hl 1 rfl) ?_
  obtain ⟨z1, hz1, ez1⟩ := XI_get hI 23 2 0 18 (by decide)
  refine x_get (x := .int (v 23 2)) hE hK hP 23 (Nat.lt_of_lt_of_le (by decide) hNN) (xG_7 rfl) rfl hin7 2 (by decide) mw_301 rfl dX7_copyFrom_2 ?_
  refine x_top (y := iI (z1)) ez1 ?_
  refine x_put (x := iI (z1)) hE hK hN hP hS 124 (Nat.lt_of_lt_of_le (by decide) hNN) (xG_7 rfl) rfl hin7 tyX7 tyX7_ok nmX7 2 (by decide) mw_301 rfl rfl rfl (Nat.le_of_ble_eq_true rfl) (xG_7 rfl) dX7_copyFrom_5 (fun v2 H locs hv2 hP hS => ?_)
  have hI := XI_putB (z := z1) hI hv2 0 18 (by omega) (by decide) (by omega)
  refine lv_aload_n hE.1 hE.2.1 dX7_copyFrom_8 rfl (lv_at hl 0 rfl) ?_
  refine lv_aload_n hE.1 hE.2.1 dX7_copyFrom_9 rfl (lv_at hl 1 rfl) ?_
  obtain ⟨z3, hz3, ez3⟩ := iI_of (v2 23 3)
  refine x_get (x := .int (v2 23 3)) hE hK hP 23 (Nat.lt_of_lt_of_le (by decide) hNN) (xG_7 rfl) rfl hin7 3 (by decide) mw_305 rfl dX7_copyFrom_10 ?_
  refine x_top (y := iI (z3)) ez3 ?_
  refine x_put (x := iI (z3)) hE hK hN hP hS 124 (Nat.lt_of_lt_of_le (by decide) hNN) (xG_7 rfl) rfl hin7 tyX7 tyX7_ok nmX7 3 (by decide) mw_305 rfl rfl rfl (Nat.le_of_ble_eq_true rfl) (xG_7 rfl) dX7_copyFrom_13 (fun v4 H locs hv4 hP hS => ?_)
  have hI := XI_putN hI hv4 (by decide)
  refine lv_aload_n hE.1 hE.2.1 dX7_copyFrom_16 rfl (lv_at hl 0 rfl) ?_
  refine lv_aload_n hE.1 hE.2.1 dX7_copyFrom_17 rfl (lv_at hl 1 rfl) ?_
  obtain ⟨z5, hz5, ez5⟩ := iI_of (v4 23 4)
  refine x_get (x := .int (v4 23 4)) hE hK hP 23 (Nat.lt_of_lt_of_le (by decide) hNN) (xG_7 rfl) rfl hin7 4 (by decide) mw_309 rfl dX7_copyFrom_18 ?_
  refine x_top (y := iI (z5)) ez5 ?_
  refine x_put (x := iI (z5)) hE hK hN hP hS 124 (Nat.lt_of_lt_of_le (by decide) hNN) (xG_7 rfl) rfl hin7 tyX7 tyX7_ok nmX7 4 (by decide) mw_309 rfl rfl rfl (Nat.le_of_ble_eq_true rfl) (xG_7 rfl) dX7_copyFrom_21 (fun v6 H locs hv6 hP hS => ?_)
  have hI := XI_putN hI hv6 (by decide)
  refine lv_aload_n hE.1 hE.2.1 dX7_copyFrom_24 rfl (lv_at hl 0 rfl) ?_
  refine lv_aload_n hE.1 hE.2.1 dX7_copyFrom_25 rfl (lv_at hl 1 rfl) ?_
  obtain ⟨z7, hz7, ez7⟩ := iI_of (v6 23 5)
  refine x_get (x := .int (v6 23 5)) hE hK hP 23 (Nat.lt_of_lt_of_le (by decide) hNN) (xG_7 rfl) rfl hin7 5 (by decide) mw_312 rfl dX7_copyFrom_26 ?_
  refine x_top (y := iI (z7)) ez7 ?_
  refine x_put (x := iI (z7)) hE hK hN hP hS 124 (Nat.lt_of_lt_of_le (by decide) hNN) (xG_7 rfl) rfl hin7 tyX7 tyX7_ok nmX7 5 (by decide) mw_312 rfl rfl rfl (Nat.le_of_ble_eq_true rfl) (xG_7 rfl) dX7_copyFrom_29 (fun v8 H locs hv8 hP hS => ?_)
  have hI := XI_putN hI hv8 (by decide)
  refine lv_aload_n hE.1 hE.2.1 dX7_copyFrom_32 rfl (lv_at hl 0 rfl) ?_
  refine lv_aload_n hE.1 hE.2.1 dX7_copyFrom_33 rfl (lv_at hl 1 rfl) ?_
  obtain ⟨z9, hz9, ez9⟩ := iI_of (v8 23 8)
  refine x_get (x := .int (v8 23 8)) hE hK hP 23 (Nat.lt_of_lt_of_le (by decide) hNN) (xG_7 rfl) rfl hin7 8 (by decide) mw_317 rfl dX7_copyFrom_34 ?_
  refine x_top (y := iI (z9)) ez9 ?_
  refine x_put (x := iI (z9)) hE hK hN hP hS 124 (Nat.lt_of_lt_of_le (by decide) hNN) (xG_7 rfl) rfl hin7 tyX7 tyX7_ok nmX7 8 (by decide) mw_317 rfl rfl rfl (Nat.le_of_ble_eq_true rfl) (xG_7 rfl) dX7_copyFrom_37 (fun v10 H locs hv10 hP hS => ?_)
  have hI := XI_putN hI hv10 (by decide)
  refine lv_aload_n hE.1 hE.2.1 dX7_copyFrom_40 rfl (lv_at hl 0 rfl) ?_
  refine lv_aload_n hE.1 hE.2.1 dX7_copyFrom_41 rfl (lv_at hl 1 rfl) ?_
  obtain ⟨z11, hz11, ez11⟩ := iI_of (v10 23 9)
  refine x_get (x := .int (v10 23 9)) hE hK hP 23 (Nat.lt_of_lt_of_le (by decide) hNN) (xG_7 rfl) rfl hin7 9 (by decide) mw_318 rfl dX7_copyFrom_42 ?_
  refine x_top (y := iI (z11)) ez11 ?_
  refine x_put (x := iI (z11)) hE hK hN hP hS 124 (Nat.lt_of_lt_of_le (by decide) hNN) (xG_7 rfl) rfl hin7 tyX7 tyX7_ok nmX7 9 (by decide) mw_318 rfl rfl rfl (Nat.le_of_ble_eq_true rfl) (xG_7 rfl) dX7_copyFrom_45 (fun v12 H locs hv12 hP hS => ?_)
  have hI := XI_putN hI hv12 (by decide)
  refine lv_aload_n hE.1 hE.2.1 dX7_copyFrom_48 rfl (lv_at hl 1 rfl) ?_
  refine x_get (x := .ref (ad 24)) hE hK hP 23 (Nat.lt_of_lt_of_le (by decide) hNN) (xG_7 rfl) rfl hin7 0 (by decide) mw_295 rfl dX7_copyFrom_49 ?_
  refine lv_iconst (v := iI (0)) hE.1 hE.2.1 dX7_copyFrom_52 (by decide) ?_
  refine lv_aload_n hE.1 hE.2.1 dX7_copyFrom_53 rfl (lv_at hl 0 rfl) ?_
  refine x_get (x := .ref (ad 125)) hE hK hP 124 (Nat.lt_of_lt_of_le (by decide) hNN) (xG_7 rfl) rfl hin7 0 (by decide) mw_295 rfl dX7_copyFrom_54 ?_
  refine lv_iconst (v := iI (0)) hE.1 hE.2.1 dX7_copyFrom_57 (by decide) ?_
  refine lv_bipush (v := iI (18)) hE.1 hE.2.1 dX7_copyFrom_58 (by decide) ?_
  refine x_copyi (rest := []) (sp := iI (0)) (dp := iI (0)) (n := iI (18)) (n0 := 18) (n1 := 18) hE hl.1 hK hN hP hS mw_912 mw_680 mw_679 mw_130 24 125 (Nat.lt_of_lt_of_le (by decide) hNN) (Nat.lt_of_lt_of_le (by decide) hNN) (xG_10 rfl) (fun _ => xG_10 rfl) (by decide) (by decide) (by decide) (by decide) (by decide) (by decide) (by decide) dX7_copyFrom_60 (fun ar13 H locs ha13 hP hS => ?_)
  refine lv_aload_n hE.1 hE.2.1 dX7_copyFrom_63 rfl (lv_at hl 1 rfl) ?_
  refine x_get (x := .ref (ad 25)) hE hK hP 23 (Nat.lt_of_lt_of_le (by decide) hNN) (xG_7 rfl) rfl hin7 1 (by decide) mw_299 rfl dX7_copyFrom_64 ?_
  refine lv_iconst (v := iI (0)) hE.1 hE.2.1 dX7_copyFrom_67 (by decide) ?_
  refine lv_aload_n hE.1 hE.2.1 dX7_copyFrom_68 rfl (lv_at hl 0 rfl) ?_
  refine x_get (x := .ref (ad 126)) hE hK hP 124 (Nat.lt_of_lt_of_le (by decide) hNN) (xG_7 rfl) rfl hin7 1 (by decide) mw_299 rfl dX7_copyFrom_69 ?_
  refine lv_iconst (v := iI (0)) hE.1 hE.2.1 dX7_copyFrom_72 (by decide) ?_
  refine lv_bipush (v := iI (9)) hE.1 hE.2.1 dX7_copyFrom_73 (by decide) ?_
  refine x_copyi (rest := []) (sp := iI (0)) (dp := iI (0)) (n := iI (9)) (n0 := 9) (n1 := 9) hE hl.1 hK hN hP hS mw_912 mw_680 mw_679 mw_130 25 126 (Nat.lt_of_lt_of_le (by decide) hNN) (Nat.lt_of_lt_of_le (by decide) hNN) (xG_10 rfl) (fun _ => xG_10 rfl) (by decide) (by decide) (by decide) (by decide) (by decide) (by decide) (by decide) dX7_copyFrom_75 (fun ar14 H locs ha14 hP hS => ?_)
  refine lv_aload_n hE.1 hE.2.1 dX7_copyFrom_78 rfl (lv_at hl 1 rfl) ?_
  refine x_get (x := .ref (ad 26)) hE hK hP 23 (Nat.lt_of_lt_of_le (by decide) hNN) (xG_7 rfl) rfl hin7 7 (by decide) mw_316 rfl dX7_copyFrom_79 ?_
  refine lv_iconst (v := iI (0)) hE.1 hE.2.1 dX7_copyFrom_82 (by decide) ?_
  refine lv_aload_n hE.1 hE.2.1 dX7_copyFrom_83 rfl (lv_at hl 0 rfl) ?_
  refine x_get (x := .ref (ad 127)) hE hK hP 124 (Nat.lt_of_lt_of_le (by decide) hNN) (xG_7 rfl) rfl hin7 7 (by decide) mw_316 rfl dX7_copyFrom_84 ?_
  refine lv_iconst (v := iI (0)) hE.1 hE.2.1 dX7_copyFrom_87 (by decide) ?_
  refine lv_iconst (v := iI (3)) hE.1 hE.2.1 dX7_copyFrom_88 (by decide) ?_
  refine x_copyi (rest := []) (sp := iI (0)) (dp := iI (0)) (n := iI (3)) (n0 := 3) (n1 := 3) hE hl.1 hK hN hP hS mw_912 mw_680 mw_679 mw_130 26 127 (Nat.lt_of_lt_of_le (by decide) hNN) (Nat.lt_of_lt_of_le (by decide) hNN) (xG_10 rfl) (fun _ => xG_10 rfl) (by decide) (by decide) (by decide) (by decide) (by decide) (by decide) (by decide) dX7_copyFrom_89 (fun ar15 H locs ha15 hP hS => ?_)
  refine lv_aload_n hE.1 hE.2.1 dX7_copyFrom_92 rfl (lv_at hl 1 rfl) ?_
  refine x_get (x := .ref (ad 27)) hE hK hP 23 (Nat.lt_of_lt_of_le (by decide) hNN) (xG_7 rfl) rfl hin7 10 (by decide) mw_319 rfl dX7_copyFrom_93 ?_
  refine lv_iconst (v := iI (0)) hE.1 hE.2.1 dX7_copyFrom_96 (by decide) ?_
  refine lv_aload_n hE.1 hE.2.1 dX7_copyFrom_97 rfl (lv_at hl 0 rfl) ?_
  refine x_get (x := .ref (ad 128)) hE hK hP 124 (Nat.lt_of_lt_of_le (by decide) hNN) (xG_7 rfl) rfl hin7 10 (by decide) mw_319 rfl dX7_copyFrom_98 ?_
  refine lv_iconst (v := iI (0)) hE.1 hE.2.1 dX7_copyFrom_101 (by decide) ?_
  refine lv_bipush (v := iI (18)) hE.1 hE.2.1 dX7_copyFrom_102 (by decide) ?_
  refine x_copyi (rest := []) (sp := iI (0)) (dp := iI (0)) (n := iI (18)) (n0 := 18) (n1 := 18) hE hl.1 hK hN hP hS mw_912 mw_680 mw_679 mw_130 27 128 (Nat.lt_of_lt_of_le (by decide) hNN) (Nat.lt_of_lt_of_le (by decide) hNN) (xG_10 rfl) (fun _ => xG_10 rfl) (by decide) (by decide) (by decide) (by decide) (by decide) (by decide) (by decide) dX7_copyFrom_104 (fun ar16 H locs ha16 hP hS => ?_)
  refine lv_aload_n hE.1 hE.2.1 dX7_copyFrom_107 rfl (lv_at hl 1 rfl) ?_
  refine x_get (x := .ref (ad 28)) hE hK hP 23 (Nat.lt_of_lt_of_le (by decide) hNN) (xG_7 rfl) rfl hin7 11 (by decide) mw_320 rfl dX7_copyFrom_108 ?_
  refine lv_iconst (v := iI (0)) hE.1 hE.2.1 dX7_copyFrom_111 (by decide) ?_
  refine lv_aload_n hE.1 hE.2.1 dX7_copyFrom_112 rfl (lv_at hl 0 rfl) ?_
  refine x_get (x := .ref (ad 129)) hE hK hP 124 (Nat.lt_of_lt_of_le (by decide) hNN) (xG_7 rfl) rfl hin7 11 (by decide) mw_320 rfl dX7_copyFrom_113 ?_
  refine lv_iconst (v := iI (0)) hE.1 hE.2.1 dX7_copyFrom_116 (by decide) ?_
  refine lv_bipush (v := iI (18)) hE.1 hE.2.1 dX7_copyFrom_117 (by decide) ?_
  refine x_copyi (rest := []) (sp := iI (0)) (dp := iI (0)) (n := iI (18)) (n0 := 18) (n1 := 18) hE hl.1 hK hN hP hS mw_912 mw_680 mw_679 mw_130 28 129 (Nat.lt_of_lt_of_le (by decide) hNN) (Nat.lt_of_lt_of_le (by decide) hNN) (xG_10 rfl) (fun _ => xG_10 rfl) (by decide) (by decide) (by decide) (by decide) (by decide) (by decide) (by decide) dX7_copyFrom_119 (fun ar17 H locs ha17 hP hS => ?_)
  refine lv_aload_n hE.1 hE.2.1 dX7_copyFrom_122 rfl (lv_at hl 1 rfl) ?_
  refine x_get (x := .ref (ad 29)) hE hK hP 23 (Nat.lt_of_lt_of_le (by decide) hNN) (xG_7 rfl) rfl hin7 12 (by decide) mw_321 rfl dX7_copyFrom_123 ?_
  refine lv_iconst (v := iI (0)) hE.1 hE.2.1 dX7_copyFrom_126 (by decide) ?_
  refine lv_aload_n hE.1 hE.2.1 dX7_copyFrom_127 rfl (lv_at hl 0 rfl) ?_
  refine x_get (x := .ref (ad 130)) hE hK hP 124 (Nat.lt_of_lt_of_le (by decide) hNN) (xG_7 rfl) rfl hin7 12 (by decide) mw_321 rfl dX7_copyFrom_128 ?_
  refine lv_iconst (v := iI (0)) hE.1 hE.2.1 dX7_copyFrom_131 (by decide) ?_
  refine lv_bipush (v := iI (18)) hE.1 hE.2.1 dX7_copyFrom_132 (by decide) ?_
  refine x_copyi (rest := []) (sp := iI (0)) (dp := iI (0)) (n := iI (18)) (n0 := 18) (n1 := 18) hE hl.1 hK hN hP hS mw_912 mw_680 mw_679 mw_130 29 130 (Nat.lt_of_lt_of_le (by decide) hNN) (Nat.lt_of_lt_of_le (by decide) hNN) (xG_10 rfl) (fun _ => xG_10 rfl) (by decide) (by decide) (by decide) (by decide) (by decide) (by decide) (by decide) dX7_copyFrom_134 (fun ar18 H locs ha18 hP hS => ?_)
  refine lv_aload_n hE.1 hE.2.1 dX7_copyFrom_137 rfl (lv_at hl 1 rfl) ?_
  refine x_get (x := .ref (ad 30)) hE hK hP 23 (Nat.lt_of_lt_of_le (by decide) hNN) (xG_7 rfl) rfl hin7 13 (by decide) mw_322 rfl dX7_copyFrom_138 ?_
  refine lv_iconst (v := iI (0)) hE.1 hE.2.1 dX7_copyFrom_141 (by decide) ?_
  refine lv_aload_n hE.1 hE.2.1 dX7_copyFrom_142 rfl (lv_at hl 0 rfl) ?_
  refine x_get (x := .ref (ad 131)) hE hK hP 124 (Nat.lt_of_lt_of_le (by decide) hNN) (xG_7 rfl) rfl hin7 13 (by decide) mw_322 rfl dX7_copyFrom_143 ?_
  refine lv_iconst (v := iI (0)) hE.1 hE.2.1 dX7_copyFrom_146 (by decide) ?_
  refine lv_bipush (v := iI (18)) hE.1 hE.2.1 dX7_copyFrom_147 (by decide) ?_
  refine x_copyi (rest := []) (sp := iI (0)) (dp := iI (0)) (n := iI (18)) (n0 := 18) (n1 := 18) hE hl.1 hK hN hP hS mw_912 mw_680 mw_679 mw_130 30 131 (Nat.lt_of_lt_of_le (by decide) hNN) (Nat.lt_of_lt_of_le (by decide) hNN) (xG_10 rfl) (fun _ => xG_10 rfl) (by decide) (by decide) (by decide) (by decide) (by decide) (by decide) (by decide) dX7_copyFrom_149 (fun ar19 H locs ha19 hP hS => ?_)
  exact kr _ _ _ _ _ _ _ ⟨hI, fun i j h => ((up_oth hv12 (fun q => h (by rcases q with ⟨rfl, rfl⟩; decide))).trans ((up_oth hv10 (fun q => h (by rcases q with ⟨rfl, rfl⟩; decide))).trans ((up_oth hv8 (fun q => h (by rcases q with ⟨rfl, rfl⟩; decide))).trans ((up_oth hv6 (fun q => h (by rcases q with ⟨rfl, rfl⟩; decide))).trans ((up_oth hv4 (fun q => h (by rcases q with ⟨rfl, rfl⟩; decide))).trans (up_oth hv2 (fun q => h (by rcases q with ⟨rfl, rfl⟩; decide))))))))⟩ hP hS dX7_copyFrom_152

theorem dX8_keep_0 : decode cX8_keep 0 = .ok (.iload_n 1, 1) := by decide +kernel
theorem dX8_keep_1 : decode cX8_keep 1 = .ok (.ifCond .lt 8, 3) := by decide +kernel
theorem dX8_keep_4 : decode cX8_keep 4 = .ok (.iload_n 1, 1) := by decide +kernel
theorem dX8_keep_5 : decode cX8_keep 5 = .ok (.iconst 3, 1) := by decide +kernel
theorem dX8_keep_6 : decode cX8_keep 6 = .ok (.if_icmp .lt 6, 3) := by decide +kernel
theorem dX8_keep_9 : decode cX8_keep 9 = .ok (.bipush (-2), 2) := by decide +kernel
theorem dX8_keep_11 : decode cX8_keep 11 = .ok (.ireturn, 1) := by decide +kernel
theorem dX8_keep_12 : decode cX8_keep 12 = .ok (.aload_n 0, 1) := by decide +kernel
theorem dX8_keep_13 : decode cX8_keep 13 = .ok (.getfield 69, 3) := by decide +kernel
theorem dX8_keep_16 : decode cX8_keep 16 = .ok (.iload_n 1, 1) := by decide +kernel
theorem dX8_keep_17 : decode cX8_keep 17 = .ok (.aaload, 1) := by decide +kernel
theorem dX8_keep_18 : decode cX8_keep 18 = .ok (.astore_n 2, 1) := by decide +kernel
theorem dX8_keep_19 : decode cX8_keep 19 = .ok (.aload_n 2, 1) := by decide +kernel
theorem dX8_keep_20 : decode cX8_keep 20 = .ok (.getfield 359, 3) := by decide +kernel
theorem dX8_keep_23 : decode cX8_keep 23 = .ok (.aload_n 0, 1) := by decide +kernel
theorem dX8_keep_24 : decode cX8_keep 24 = .ok (.getfield 19, 3) := by decide +kernel
theorem dX8_keep_27 : decode cX8_keep 27 = .ok (.invokevirtual 87, 3) := by decide +kernel
theorem dX8_keep_30 : decode cX8_keep 30 = .ok (.aload_n 2, 1) := by decide +kernel
theorem dX8_keep_31 : decode cX8_keep 31 = .ok (.getfield 360, 3) := by decide +kernel
theorem dX8_keep_34 : decode cX8_keep 34 = .ok (.aload_n 0, 1) := by decide +kernel
theorem dX8_keep_35 : decode cX8_keep 35 = .ok (.getfield 31, 3) := by decide +kernel
theorem dX8_keep_38 : decode cX8_keep 38 = .ok (.invokevirtual 327, 3) := by decide +kernel
theorem dX8_keep_41 : decode cX8_keep 41 = .ok (.aload_n 2, 1) := by decide +kernel
theorem dX8_keep_42 : decode cX8_keep 42 = .ok (.iconst 1, 1) := by decide +kernel
theorem dX8_keep_43 : decode cX8_keep 43 = .ok (.putfield 363, 3) := by decide +kernel
theorem dX8_keep_46 : decode cX8_keep 46 = .ok (.iconst 0, 1) := by decide +kernel
theorem dX8_keep_47 : decode cX8_keep 47 = .ok (.ireturn, 1) := by decide +kernel
set_option maxHeartbeats 4000000 in
set_option maxRecDepth 100000 in
theorem s_X8_keep_0 (l : Launch) (D : va_G) (K : Nat → ClassId) (ad : Nat → Nat) (mm : Option Nat) (N : Nat) (hNN : 132 ≤ N) (v ar : sI) (al : sL) (hI : XI v) (z_1 : Int) (hz_1 : -2147483648 ≤ z_1 ∧ z_1 ≤ 2147483647) : Met l yX8_keep (wM yX8_keep cX8_keep 3 (some .int)) (rmD 2) (va_Pc [.ref (ad 0), .int (iI (z_1))] (wPre D K ad (xG ad K mm) N v ar al)) (va_Qi (fun (r : Int32) (u : sT) => (∃ z : Int, ((0 ≤ z_1 ∧ z_1 ≤ 2 ∧ z = 0) ∨ ((z_1 < 0 ∨ 2 < z_1) ∧ z = -2)) ∧ r = iI z) ∧ XI u.1 ∧ (∀ i j : Nat, (i, j) ∉ ([(75, 2), (76, 0), (76, 1), (76, 2), (76, 3), (76, 4), (76, 5), (76, 6), (76, 7), (76, 8), (76, 9), (76, 10), (86, 2), (86, 3), (86, 4), (86, 5), (86, 8), (86, 9), (94, 2), (95, 0), (95, 1), (95, 2), (95, 3), (95, 4), (95, 5), (95, 6), (95, 7), (95, 8), (95, 9), (95, 10), (105, 2), (105, 3), (105, 4), (105, 5), (105, 8), (105, 9), (113, 2), (114, 0), (114, 1), (114, 2), (114, 3), (114, 4), (114, 5), (114, 6), (114, 7), (114, 8), (114, 9), (114, 10), (124, 2), (124, 3), (124, 4), (124, 5), (124, 8), (124, 9)] : List (Nat × Nat)) → u.1 i j = v i j)) (wB D ad (xG ad K mm) N) (inW ad N)) 0 0 (inW ad N) := by
  refine s_metI (by decide) (Nat.le_of_ble_eq_true rfl) ?_
  intro p e s m below meth c ls args Q hE hB hl kr
  have hE : CallFix p m c cX8_keep 3 s args tbG "TaleCourt" := hE
  obtain ⟨hP, hK, hN⟩ := hB
  have hS : va_S (inW ad N) s.heap s.heap [] := va_S.rf
  have hl : lv_has ls 3 [(0, .ref (ad 0)), (1, .int (iI (z_1)))] := hl
  refine lv_iload_n hE.1 hE.2.1 dX8_keep_0 rfl (lv_at hl 1 rfl) ?_
  refine s_if_lt (a := z_1) (tgt := 9) hE.1 hE.2.1 (by omega) dX8_keep_1 (by decide) (fun c1 => ?_) (fun c1 => ?_)
  · skip
    refine lv_bipush (v := iI (-2)) hE.1 hE.2.1 dX8_keep_9 (by decide) ?_
    exact kr _ _ _ _ _ _ _ _ rfl ⟨⟨-2, by omega, rfl⟩, hI, fun i j h => rfl⟩ hP hS dX8_keep_11
  · skip
    refine lv_iload_n hE.1 hE.2.1 dX8_keep_4 rfl (lv_at hl 1 rfl) ?_
    refine lv_iconst (v := iI (3)) hE.1 hE.2.1 dX8_keep_5 (by decide) ?_
    refine s_icmp_lt (a := z_1) (b := 3) (tgt := 12) hE.1 hE.2.1 (by omega) (by omega) dX8_keep_6 (by decide) (fun c2 => ?_) (fun c2 => ?_)
    · skip
      refine lv_aload_n hE.1 hE.2.1 dX8_keep_12 rfl (lv_at hl 0 rfl) ?_
      refine x_get (x := .ref (ad 66)) hE hK hP 0 (Nat.lt_of_lt_of_le (by decide) hNN) (xG_8 rfl) rfl hin8 9 (by decide) mw_489 rfl dX8_keep_13 ?_
      refine lv_iload_n hE.1 hE.2.1 dX8_keep_16 rfl (lv_at hl 1 rfl) ?_
      rcases (show z_1 = 0 ∨ z_1 = 1 ∨ z_1 = 2 by omega) with rfl | rfl | rfl
      · skip
        refine x_aald (r := .ref (ad 75)) hE hK hP 66 5 (Nat.lt_of_lt_of_le (by decide) hNN) (xG_14 rfl) rfl (by unfold vp_in; decide) rfl dX8_keep_17 ?_
        refine lv_astore_n (lv' := [(2, .ref (ad 75)), (0, .ref (ad 0)), (1, .int (iI (0)))]) hE.1 hE.2.1 dX8_keep_18 rfl hl (by decide) rfl (fun ls hl => ?_)
        refine lv_aload_n hE.1 hE.2.1 dX8_keep_19 rfl (lv_at hl 0 rfl) ?_
        refine x_get (x := .ref (ad 76)) hE hK hP 75 (Nat.lt_of_lt_of_le (by decide) hNN) (xG_3 rfl) rfl hin3 0 (by decide) mw_469 rfl dX8_keep_20 ?_
        refine lv_aload_n hE.1 hE.2.1 dX8_keep_23 rfl (lv_at hl 1 rfl) ?_
        refine x_get (x := .ref (ad 3)) hE hK hP 0 (Nat.lt_of_lt_of_le (by decide) hNN) (xG_8 rfl) rfl hin8 1 (by decide) mw_481 rfl dX8_keep_24 ?_
        refine x_vv (nn := 1) (As := [.ref (ad 3)]) (rest := []) hE hK hN hP hS (s_X1_copyFrom_76_3 l D K ad mm N hNN v ar al hI  ) (x_recv hK hP 76 (Nat.lt_of_lt_of_le (by decide) hNN) (xG_1 rfl) rfl) rfl mw_674 mw_675 mw_676 mw_116 mw_677 (by decide +kernel) ⟨by decide, by decide⟩ hl.1 rfl (Nat.le_of_ble_eq_true rfl) ⟨Nat.zero_le _, Nat.zero_le _⟩ dX8_keep_27 (fun v3 ar3 al3 H locs hq3 hP hS => ?_)
        obtain ⟨hI, hq3⟩ := hq3
        have hI : XI v3 := hI
        refine lv_aload_n hE.1 hE.2.1 dX8_keep_30 rfl (lv_at hl 0 rfl) ?_
        refine x_get (x := .ref (ad 86)) hE hK hP 75 (Nat.lt_of_lt_of_le (by decide) hNN) (xG_3 rfl) rfl hin3 1 (by decide) mw_471 rfl dX8_keep_31 ?_
        refine lv_aload_n hE.1 hE.2.1 dX8_keep_34 rfl (lv_at hl 1 rfl) ?_
        refine x_get (x := .ref (ad 23)) hE hK hP 0 (Nat.lt_of_lt_of_le (by decide) hNN) (xG_8 rfl) rfl hin8 3 (by decide) mw_483 rfl dX8_keep_35 ?_
        refine x_vv (nn := 1) (As := [.ref (ad 23)]) (rest := []) hE hK hN hP hS (s_X7_copyFrom_86_23 l D K ad mm N hNN v3 ar3 al3 hI  ) (x_recv hK hP 86 (Nat.lt_of_lt_of_le (by decide) hNN) (xG_7 rfl) rfl) rfl mw_1267 mw_909 mw_910 mw_117 mw_911 (by decide +kernel) ⟨by decide, by decide⟩ hl.1 rfl (Nat.le_of_ble_eq_true rfl) ⟨Nat.zero_le _, Nat.zero_le _⟩ dX8_keep_38 (fun v4 ar4 al4 H locs hq4 hP hS => ?_)
        obtain ⟨hI, hq4⟩ := hq4
        have hI : XI v4 := hI
        refine lv_aload_n hE.1 hE.2.1 dX8_keep_41 rfl (lv_at hl 0 rfl) ?_
        refine lv_iconst (v := iI (1)) hE.1 hE.2.1 dX8_keep_42 (by decide) ?_
        refine x_put (x := iI (1)) hE hK hN hP hS 75 (Nat.lt_of_lt_of_le (by decide) hNN) (xG_3 rfl) rfl hin3 tyX3 tyX3_ok nmX3 2 (by decide) mw_472 rfl rfl rfl (Nat.le_of_ble_eq_true rfl) (xG_3 rfl) dX8_keep_43 (fun v5 H locs hv5 hP hS => ?_)
        have hI := XI_putN hI hv5 (by decide)
        refine lv_iconst (v := iI (0)) hE.1 hE.2.1 dX8_keep_46 (by decide) ?_
        exact kr _ _ _ _ _ _ _ _ rfl ⟨⟨0, by omega, rfl⟩, hI, fun i j h => ((up_oth hv5 (fun q => h (by rcases q with ⟨rfl, rfl⟩; decide))).trans ((hq4 i j (fun q => h (mem_sub (by decide) q))).trans (hq3 i j (fun q => h (mem_sub (by decide) q)))))⟩ hP hS dX8_keep_47
      · skip
        refine x_aald (r := .ref (ad 94)) hE hK hP 66 5 (Nat.lt_of_lt_of_le (by decide) hNN) (xG_14 rfl) rfl (by unfold vp_in; decide) rfl dX8_keep_17 ?_
        refine lv_astore_n (lv' := [(2, .ref (ad 94)), (0, .ref (ad 0)), (1, .int (iI (1)))]) hE.1 hE.2.1 dX8_keep_18 rfl hl (by decide) rfl (fun ls hl => ?_)
        refine lv_aload_n hE.1 hE.2.1 dX8_keep_19 rfl (lv_at hl 0 rfl) ?_
        refine x_get (x := .ref (ad 95)) hE hK hP 94 (Nat.lt_of_lt_of_le (by decide) hNN) (xG_3 rfl) rfl hin3 0 (by decide) mw_469 rfl dX8_keep_20 ?_
        refine lv_aload_n hE.1 hE.2.1 dX8_keep_23 rfl (lv_at hl 1 rfl) ?_
        refine x_get (x := .ref (ad 3)) hE hK hP 0 (Nat.lt_of_lt_of_le (by decide) hNN) (xG_8 rfl) rfl hin8 1 (by decide) mw_481 rfl dX8_keep_24 ?_
        refine x_vv (nn := 1) (As := [.ref (ad 3)]) (rest := []) hE hK hN hP hS (s_X1_copyFrom_95_3 l D K ad mm N hNN v ar al hI  ) (x_recv hK hP 95 (Nat.lt_of_lt_of_le (by decide) hNN) (xG_1 rfl) rfl) rfl mw_674 mw_675 mw_676 mw_116 mw_677 (by decide +kernel) ⟨by decide, by decide⟩ hl.1 rfl (Nat.le_of_ble_eq_true rfl) ⟨Nat.zero_le _, Nat.zero_le _⟩ dX8_keep_27 (fun v6 ar6 al6 H locs hq6 hP hS => ?_)
        obtain ⟨hI, hq6⟩ := hq6
        have hI : XI v6 := hI
        refine lv_aload_n hE.1 hE.2.1 dX8_keep_30 rfl (lv_at hl 0 rfl) ?_
        refine x_get (x := .ref (ad 105)) hE hK hP 94 (Nat.lt_of_lt_of_le (by decide) hNN) (xG_3 rfl) rfl hin3 1 (by decide) mw_471 rfl dX8_keep_31 ?_
        refine lv_aload_n hE.1 hE.2.1 dX8_keep_34 rfl (lv_at hl 1 rfl) ?_
        refine x_get (x := .ref (ad 23)) hE hK hP 0 (Nat.lt_of_lt_of_le (by decide) hNN) (xG_8 rfl) rfl hin8 3 (by decide) mw_483 rfl dX8_keep_35 ?_
        refine x_vv (nn := 1) (As := [.ref (ad 23)]) (rest := []) hE hK hN hP hS (s_X7_copyFrom_105_23 l D K ad mm N hNN v6 ar6 al6 hI  ) (x_recv hK hP 105 (Nat.lt_of_lt_of_le (by decide) hNN) (xG_7 rfl) rfl) rfl mw_1267 mw_909 mw_910 mw_117 mw_911 (by decide +kernel) ⟨by decide, by decide⟩ hl.1 rfl (Nat.le_of_ble_eq_true rfl) ⟨Nat.zero_le _, Nat.zero_le _⟩ dX8_keep_38 (fun v7 ar7 al7 H locs hq7 hP hS => ?_)
        obtain ⟨hI, hq7⟩ := hq7
        have hI : XI v7 := hI
        refine lv_aload_n hE.1 hE.2.1 dX8_keep_41 rfl (lv_at hl 0 rfl) ?_
        refine lv_iconst (v := iI (1)) hE.1 hE.2.1 dX8_keep_42 (by decide) ?_
        refine x_put (x := iI (1)) hE hK hN hP hS 94 (Nat.lt_of_lt_of_le (by decide) hNN) (xG_3 rfl) rfl hin3 tyX3 tyX3_ok nmX3 2 (by decide) mw_472 rfl rfl rfl (Nat.le_of_ble_eq_true rfl) (xG_3 rfl) dX8_keep_43 (fun v8 H locs hv8 hP hS => ?_)
        have hI := XI_putN hI hv8 (by decide)
        refine lv_iconst (v := iI (0)) hE.1 hE.2.1 dX8_keep_46 (by decide) ?_
        exact kr _ _ _ _ _ _ _ _ rfl ⟨⟨0, by omega, rfl⟩, hI, fun i j h => ((up_oth hv8 (fun q => h (by rcases q with ⟨rfl, rfl⟩; decide))).trans ((hq7 i j (fun q => h (mem_sub (by decide) q))).trans (hq6 i j (fun q => h (mem_sub (by decide) q)))))⟩ hP hS dX8_keep_47
      · skip
        refine x_aald (r := .ref (ad 113)) hE hK hP 66 5 (Nat.lt_of_lt_of_le (by decide) hNN) (xG_14 rfl) rfl (by unfold vp_in; decide) rfl dX8_keep_17 ?_
        refine lv_astore_n (lv' := [(2, .ref (ad 113)), (0, .ref (ad 0)), (1, .int (iI (2)))]) hE.1 hE.2.1 dX8_keep_18 rfl hl (by decide) rfl (fun ls hl => ?_)
        refine lv_aload_n hE.1 hE.2.1 dX8_keep_19 rfl (lv_at hl 0 rfl) ?_
        refine x_get (x := .ref (ad 114)) hE hK hP 113 (Nat.lt_of_lt_of_le (by decide) hNN) (xG_3 rfl) rfl hin3 0 (by decide) mw_469 rfl dX8_keep_20 ?_
        refine lv_aload_n hE.1 hE.2.1 dX8_keep_23 rfl (lv_at hl 1 rfl) ?_
        refine x_get (x := .ref (ad 3)) hE hK hP 0 (Nat.lt_of_lt_of_le (by decide) hNN) (xG_8 rfl) rfl hin8 1 (by decide) mw_481 rfl dX8_keep_24 ?_
        refine x_vv (nn := 1) (As := [.ref (ad 3)]) (rest := []) hE hK hN hP hS (s_X1_copyFrom_114_3 l D K ad mm N hNN v ar al hI  ) (x_recv hK hP 114 (Nat.lt_of_lt_of_le (by decide) hNN) (xG_1 rfl) rfl) rfl mw_674 mw_675 mw_676 mw_116 mw_677 (by decide +kernel) ⟨by decide, by decide⟩ hl.1 rfl (Nat.le_of_ble_eq_true rfl) ⟨Nat.zero_le _, Nat.zero_le _⟩ dX8_keep_27 (fun v9 ar9 al9 H locs hq9 hP hS => ?_)
        obtain ⟨hI, hq9⟩ := hq9
        have hI : XI v9 := hI
        refine lv_aload_n hE.1 hE.2.1 dX8_keep_30 rfl (lv_at hl 0 rfl) ?_
        refine x_get (x := .ref (ad 124)) hE hK hP 113 (Nat.lt_of_lt_of_le (by decide) hNN) (xG_3 rfl) rfl hin3 1 (by decide) mw_471 rfl dX8_keep_31 ?_
        refine lv_aload_n hE.1 hE.2.1 dX8_keep_34 rfl (lv_at hl 1 rfl) ?_
        refine x_get (x := .ref (ad 23)) hE hK hP 0 (Nat.lt_of_lt_of_le (by decide) hNN) (xG_8 rfl) rfl hin8 3 (by decide) mw_483 rfl dX8_keep_35 ?_
        refine x_vv (nn := 1) (As := [.ref (ad 23)]) (rest := []) hE hK hN hP hS (s_X7_copyFrom_124_23 l D K ad mm N hNN v9 ar9 al9 hI  ) (x_recv hK hP 124 (Nat.lt_of_lt_of_le (by decide) hNN) (xG_7 rfl) rfl) rfl mw_1267 mw_909 mw_910 mw_117 mw_911 (by decide +kernel) ⟨by decide, by decide⟩ hl.1 rfl (Nat.le_of_ble_eq_true rfl) ⟨Nat.zero_le _, Nat.zero_le _⟩ dX8_keep_38 (fun v10 ar10 al10 H locs hq10 hP hS => ?_)
        obtain ⟨hI, hq10⟩ := hq10
        have hI : XI v10 := hI
        refine lv_aload_n hE.1 hE.2.1 dX8_keep_41 rfl (lv_at hl 0 rfl) ?_
        refine lv_iconst (v := iI (1)) hE.1 hE.2.1 dX8_keep_42 (by decide) ?_
        refine x_put (x := iI (1)) hE hK hN hP hS 113 (Nat.lt_of_lt_of_le (by decide) hNN) (xG_3 rfl) rfl hin3 tyX3 tyX3_ok nmX3 2 (by decide) mw_472 rfl rfl rfl (Nat.le_of_ble_eq_true rfl) (xG_3 rfl) dX8_keep_43 (fun v11 H locs hv11 hP hS => ?_)
        have hI := XI_putN hI hv11 (by decide)
        refine lv_iconst (v := iI (0)) hE.1 hE.2.1 dX8_keep_46 (by decide) ?_
        exact kr _ _ _ _ _ _ _ _ rfl ⟨⟨0, by omega, rfl⟩, hI, fun i j h => ((up_oth hv11 (fun q => h (by rcases q with ⟨rfl, rfl⟩; decide))).trans ((hq10 i j (fun q => h (mem_sub (by decide) q))).trans (hq9 i j (fun q => h (mem_sub (by decide) q)))))⟩ hP hS dX8_keep_47
    · skip
      refine lv_bipush (v := iI (-2)) hE.1 hE.2.1 dX8_keep_9 (by decide) ?_
      exact kr _ _ _ _ _ _ _ _ rfl ⟨⟨-2, by omega, rfl⟩, hI, fun i j h => rfl⟩ hP hS dX8_keep_11

set_option maxHeartbeats 4000000 in
set_option maxRecDepth 100000 in
theorem s_X1_copyFrom_3_76 (l : Launch) (D : va_G) (K : Nat → ClassId) (ad : Nat → Nat) (mm : Option Nat) (N : Nat) (hNN : 132 ≤ N) (v ar : sI) (al : sL) (hI : XI v) : Met l yX1_copyFrom (wM yX1_copyFrom cX1_copyFrom 2 none) (rmD 1) (va_Pc [.ref (ad 3), .ref (ad 76)] (wPre D K ad (xG ad K mm) N v ar al)) (va_Qv (fun u : sT => XI u.1 ∧ (∀ i j : Nat, (i, j) ∉ ([(3, 0), (3, 1), (3, 2), (3, 3), (3, 4), (3, 5), (3, 6), (3, 7), (3, 8), (3, 9), (3, 10)] : List (Nat × Nat)) → u.1 i j = v i j)) (wB D ad (xG ad K mm) N) (inW ad N)) 0 0 (inW ad N) := by
  refine s_metV (by decide) (Nat.le_of_ble_eq_true rfl) ?_
  intro p e s m below meth c ls args Q hE hB hl kr
  have hE : CallFix p m c cX1_copyFrom 2 s args tbG "TaleCourt$Court" := hE
  obtain ⟨hP, hK, hN⟩ := hB
  have hS : va_S (inW ad N) s.heap s.heap [] := va_S.rf
  have hl : lv_has ls 2 [(0, .ref (ad 3)), (1, .ref (ad 76))] := hl
  refine lv_aload_n hE.1 hE.2.1 dX1_copyFrom_0 rfl (lv_at hl 0 rfl) ?_
  refine lv_aload_n hE.1 hE.2.1 dX1_copyFrom_1 rfl (lv_at hl 1 rfl) ?_
  obtain ⟨z1, hz1, ez1⟩ := XI_get hI 76 0 0 3 (by decide)
  refine x_get (x := .int (v 76 0)) hE hK hP 76 (Nat.lt_of_lt_of_le (by decide) hNN) (xG_1 rfl) rfl hin1 0 (by decide) mw_178 rfl dX1_copyFrom_2 ?_
  refine x_top (y := iI (z1)) ez1 ?_
  refine x_put (x := iI (z1)) hE hK hN hP hS 3 (Nat.lt_of_lt_of_le (by decide) hNN) (xG_1 rfl) rfl hin1 tyX1 tyX1_ok nmX1 0 (by decide) mw_178 rfl rfl rfl (Nat.le_of_ble_eq_true rfl) (xG_1 rfl) dX1_copyFrom_5 (fun v2 H locs hv2 hP hS => ?_)
  have hI := XI_putB (z := z1) hI hv2 0 3 (by omega) (by decide) (by omega)
  refine lv_aload_n hE.1 hE.2.1 dX1_copyFrom_8 rfl (lv_at hl 0 rfl) ?_
  refine lv_aload_n hE.1 hE.2.1 dX1_copyFrom_9 rfl (lv_at hl 1 rfl) ?_
  obtain ⟨z3, hz3, ez3⟩ := iI_of (v2 76 1)
  refine x_get (x := .int (v2 76 1)) hE hK hP 76 (Nat.lt_of_lt_of_le (by decide) hNN) (xG_1 rfl) rfl hin1 1 (by decide) mw_182 rfl dX1_copyFrom_10 ?_
  refine x_top (y := iI (z3)) ez3 ?_
  refine x_put (x := iI (z3)) hE hK hN hP hS 3 (Nat.lt_of_lt_of_le (by decide) hNN) (xG_1 rfl) rfl hin1 tyX1 tyX1_ok nmX1 1 (by decide) mw_182 rfl rfl rfl (Nat.le_of_ble_eq_true rfl) (xG_1 rfl) dX1_copyFrom_13 (fun v4 H locs hv4 hP hS => ?_)
  have hI := XI_putN hI hv4 (by decide)
  refine lv_aload_n hE.1 hE.2.1 dX1_copyFrom_16 rfl (lv_at hl 0 rfl) ?_
  refine lv_aload_n hE.1 hE.2.1 dX1_copyFrom_17 rfl (lv_at hl 1 rfl) ?_
  obtain ⟨z5, hz5, ez5⟩ := XI_get hI 76 2 0 9 (by decide)
  refine x_get (x := .int (v4 76 2)) hE hK hP 76 (Nat.lt_of_lt_of_le (by decide) hNN) (xG_1 rfl) rfl hin1 2 (by decide) mw_187 rfl dX1_copyFrom_18 ?_
  refine x_top (y := iI (z5)) ez5 ?_
  refine x_put (x := iI (z5)) hE hK hN hP hS 3 (Nat.lt_of_lt_of_le (by decide) hNN) (xG_1 rfl) rfl hin1 tyX1 tyX1_ok nmX1 2 (by decide) mw_187 rfl rfl rfl (Nat.le_of_ble_eq_true rfl) (xG_1 rfl) dX1_copyFrom_21 (fun v6 H locs hv6 hP hS => ?_)
  have hI := XI_putB (z := z5) hI hv6 0 9 (by omega) (by decide) (by omega)
  refine lv_aload_n hE.1 hE.2.1 dX1_copyFrom_24 rfl (lv_at hl 0 rfl) ?_
  refine lv_aload_n hE.1 hE.2.1 dX1_copyFrom_25 rfl (lv_at hl 1 rfl) ?_
  obtain ⟨z7, hz7, ez7⟩ := XI_get hI 76 3 0 8 (by decide)
  refine x_get (x := .int (v6 76 3)) hE hK hP 76 (Nat.lt_of_lt_of_le (by decide) hNN) (xG_1 rfl) rfl hin1 3 (by decide) mw_190 rfl dX1_copyFrom_26 ?_
  refine x_top (y := iI (z7)) ez7 ?_
  refine x_put (x := iI (z7)) hE hK hN hP hS 3 (Nat.lt_of_lt_of_le (by decide) hNN) (xG_1 rfl) rfl hin1 tyX1 tyX1_ok nmX1 3 (by decide) mw_190 rfl rfl rfl (Nat.le_of_ble_eq_true rfl) (xG_1 rfl) dX1_copyFrom_29 (fun v8 H locs hv8 hP hS => ?_)
  have hI := XI_putB (z := z7) hI hv8 0 8 (by omega) (by decide) (by omega)
  refine lv_aload_n hE.1 hE.2.1 dX1_copyFrom_32 rfl (lv_at hl 0 rfl) ?_
  refine lv_aload_n hE.1 hE.2.1 dX1_copyFrom_33 rfl (lv_at hl 1 rfl) ?_
  obtain ⟨z9, hz9, ez9⟩ := iI_of (v8 76 4)
  refine x_get (x := .int (v8 76 4)) hE hK hP 76 (Nat.lt_of_lt_of_le (by decide) hNN) (xG_1 rfl) rfl hin1 4 (by decide) mw_194 rfl dX1_copyFrom_34 ?_
  refine x_top (y := iI (z9)) ez9 ?_
  refine x_put (x := iI (z9)) hE hK hN hP hS 3 (Nat.lt_of_lt_of_le (by decide) hNN) (xG_1 rfl) rfl hin1 tyX1 tyX1_ok nmX1 4 (by decide) mw_194 rfl rfl rfl (Nat.le_of_ble_eq_true rfl) (xG_1 rfl) dX1_copyFrom_37 (fun v10 H locs hv10 hP hS => ?_)
  have hI := XI_putN hI hv10 (by decide)
  refine lv_aload_n hE.1 hE.2.1 dX1_copyFrom_40 rfl (lv_at hl 0 rfl) ?_
  refine lv_aload_n hE.1 hE.2.1 dX1_copyFrom_41 rfl (lv_at hl 1 rfl) ?_
  obtain ⟨z11, hz11, ez11⟩ := iI_of (v10 76 5)
  refine x_get (x := .int (v10 76 5)) hE hK hP 76 (Nat.lt_of_lt_of_le (by decide) hNN) (xG_1 rfl) rfl hin1 5 (by decide) mw_197 rfl dX1_copyFrom_42 ?_
  refine x_top (y := iI (z11)) ez11 ?_
  refine x_put (x := iI (z11)) hE hK hN hP hS 3 (Nat.lt_of_lt_of_le (by decide) hNN) (xG_1 rfl) rfl hin1 tyX1 tyX1_ok nmX1 5 (by decide) mw_197 rfl rfl rfl (Nat.le_of_ble_eq_true rfl) (xG_1 rfl) dX1_copyFrom_45 (fun v12 H locs hv12 hP hS => ?_)
  have hI := XI_putN hI hv12 (by decide)
  refine lv_aload_n hE.1 hE.2.1 dX1_copyFrom_48 rfl (lv_at hl 0 rfl) ?_
  refine lv_aload_n hE.1 hE.2.1 dX1_copyFrom_49 rfl (lv_at hl 1 rfl) ?_
  obtain ⟨z13, hz13, ez13⟩ := iI_of (v12 76 6)
  refine x_get (x := .int (v12 76 6)) hE hK hP 76 (Nat.lt_of_lt_of_le (by decide) hNN) (xG_1 rfl) rfl hin1 6 (by decide) mw_200 rfl dX1_copyFrom_50 ?_
  refine x_top (y := iI (z13)) ez13 ?_
  refine x_put (x := iI (z13)) hE hK hN hP hS 3 (Nat.lt_of_lt_of_le (by decide) hNN) (xG_1 rfl) rfl hin1 tyX1 tyX1_ok nmX1 6 (by decide) mw_200 rfl rfl rfl (Nat.le_of_ble_eq_true rfl) (xG_1 rfl) dX1_copyFrom_53 (fun v14 H locs hv14 hP hS => ?_)
  have hI := XI_putN hI hv14 (by decide)
  refine lv_aload_n hE.1 hE.2.1 dX1_copyFrom_56 rfl (lv_at hl 0 rfl) ?_
  refine lv_aload_n hE.1 hE.2.1 dX1_copyFrom_57 rfl (lv_at hl 1 rfl) ?_
  obtain ⟨z15, hz15, ez15⟩ := iI_of (v14 76 7)
  refine x_get (x := .int (v14 76 7)) hE hK hP 76 (Nat.lt_of_lt_of_le (by decide) hNN) (xG_1 rfl) rfl hin1 7 (by decide) mw_203 rfl dX1_copyFrom_58 ?_
  refine x_top (y := iI (z15)) ez15 ?_
  refine x_put (x := iI (z15)) hE hK hN hP hS 3 (Nat.lt_of_lt_of_le (by decide) hNN) (xG_1 rfl) rfl hin1 tyX1 tyX1_ok nmX1 7 (by decide) mw_203 rfl rfl rfl (Nat.le_of_ble_eq_true rfl) (xG_1 rfl) dX1_copyFrom_61 (fun v16 H locs hv16 hP hS => ?_)
  have hI := XI_putN hI hv16 (by decide)
  refine lv_aload_n hE.1 hE.2.1 dX1_copyFrom_64 rfl (lv_at hl 0 rfl) ?_
  refine lv_aload_n hE.1 hE.2.1 dX1_copyFrom_65 rfl (lv_at hl 1 rfl) ?_
  obtain ⟨z17, hz17, ez17⟩ := iI_of (v16 76 8)
  refine x_get (x := .int (v16 76 8)) hE hK hP 76 (Nat.lt_of_lt_of_le (by decide) hNN) (xG_1 rfl) rfl hin1 8 (by decide) mw_207 rfl dX1_copyFrom_66 ?_
  refine x_top (y := iI (z17)) ez17 ?_
  refine x_put (x := iI (z17)) hE hK hN hP hS 3 (Nat.lt_of_lt_of_le (by decide) hNN) (xG_1 rfl) rfl hin1 tyX1 tyX1_ok nmX1 8 (by decide) mw_207 rfl rfl rfl (Nat.le_of_ble_eq_true rfl) (xG_1 rfl) dX1_copyFrom_69 (fun v18 H locs hv18 hP hS => ?_)
  have hI := XI_putN hI hv18 (by decide)
  refine lv_aload_n hE.1 hE.2.1 dX1_copyFrom_72 rfl (lv_at hl 0 rfl) ?_
  refine lv_aload_n hE.1 hE.2.1 dX1_copyFrom_73 rfl (lv_at hl 1 rfl) ?_
  obtain ⟨z19, hz19, ez19⟩ := iI_of (v18 76 9)
  refine x_get (x := .int (v18 76 9)) hE hK hP 76 (Nat.lt_of_lt_of_le (by decide) hNN) (xG_1 rfl) rfl hin1 9 (by decide) mw_211 rfl dX1_copyFrom_74 ?_
  refine x_top (y := iI (z19)) ez19 ?_
  refine x_put (x := iI (z19)) hE hK hN hP hS 3 (Nat.lt_of_lt_of_le (by decide) hNN) (xG_1 rfl) rfl hin1 tyX1 tyX1_ok nmX1 9 (by decide) mw_211 rfl rfl rfl (Nat.le_of_ble_eq_true rfl) (xG_1 rfl) dX1_copyFrom_77 (fun v20 H locs hv20 hP hS => ?_)
  have hI := XI_putN hI hv20 (by decide)
  refine lv_aload_n hE.1 hE.2.1 dX1_copyFrom_80 rfl (lv_at hl 0 rfl) ?_
  refine lv_aload_n hE.1 hE.2.1 dX1_copyFrom_81 rfl (lv_at hl 1 rfl) ?_
  obtain ⟨z21, hz21, ez21⟩ := iI_of (v20 76 10)
  refine x_get (x := .int (v20 76 10)) hE hK hP 76 (Nat.lt_of_lt_of_le (by decide) hNN) (xG_1 rfl) rfl hin1 10 (by decide) mw_214 rfl dX1_copyFrom_82 ?_
  refine x_top (y := iI (z21)) ez21 ?_
  refine x_put (x := iI (z21)) hE hK hN hP hS 3 (Nat.lt_of_lt_of_le (by decide) hNN) (xG_1 rfl) rfl hin1 tyX1 tyX1_ok nmX1 10 (by decide) mw_214 rfl rfl rfl (Nat.le_of_ble_eq_true rfl) (xG_1 rfl) dX1_copyFrom_85 (fun v22 H locs hv22 hP hS => ?_)
  have hI := XI_putN hI hv22 (by decide)
  refine lv_aload_n hE.1 hE.2.1 dX1_copyFrom_88 rfl (lv_at hl 1 rfl) ?_
  refine x_get (x := .ref (ad 77)) hE hK hP 76 (Nat.lt_of_lt_of_le (by decide) hNN) (xG_1 rfl) rfl hin1 11 (by decide) mw_218 rfl dX1_copyFrom_89 ?_
  refine lv_iconst (v := iI (0)) hE.1 hE.2.1 dX1_copyFrom_92 (by decide) ?_
  refine lv_aload_n hE.1 hE.2.1 dX1_copyFrom_93 rfl (lv_at hl 0 rfl) ?_
  refine x_get (x := .ref (ad 4)) hE hK hP 3 (Nat.lt_of_lt_of_le (by decide) hNN) (xG_1 rfl) rfl hin1 11 (by decide) mw_218 rfl dX1_copyFrom_94 ?_
  refine lv_iconst (v := iI (0)) hE.1 hE.2.1 dX1_copyFrom_97 (by decide) ?_
  refine lv_bipush (v := iI (9)) hE.1 hE.2.1 dX1_copyFrom_98 (by decide) ?_
  refine x_copyi (rest := []) (sp := iI (0)) (dp := iI (0)) (n := iI (9)) (n0 := 9) (n1 := 9) hE hl.1 hK hN hP hS mw_678 mw_680 mw_679 mw_130 77 4 (Nat.lt_of_lt_of_le (by decide) hNN) (Nat.lt_of_lt_of_le (by decide) hNN) (xG_10 rfl) (fun _ => xG_10 rfl) (by decide) (by decide) (by decide) (by decide) (by decide) (by decide) (by decide) dX1_copyFrom_100 (fun ar23 H locs ha23 hP hS => ?_)
  refine lv_aload_n hE.1 hE.2.1 dX1_copyFrom_103 rfl (lv_at hl 1 rfl) ?_
  refine x_get (x := .ref (ad 78)) hE hK hP 76 (Nat.lt_of_lt_of_le (by decide) hNN) (xG_1 rfl) rfl hin1 12 (by decide) mw_221 rfl dX1_copyFrom_104 ?_
  refine lv_iconst (v := iI (0)) hE.1 hE.2.1 dX1_copyFrom_107 (by decide) ?_
  refine lv_aload_n hE.1 hE.2.1 dX1_copyFrom_108 rfl (lv_at hl 0 rfl) ?_
  refine x_get (x := .ref (ad 5)) hE hK hP 3 (Nat.lt_of_lt_of_le (by decide) hNN) (xG_1 rfl) rfl hin1 12 (by decide) mw_221 rfl dX1_copyFrom_109 ?_
  refine lv_iconst (v := iI (0)) hE.1 hE.2.1 dX1_copyFrom_112 (by decide) ?_
  refine lv_bipush (v := iI (9)) hE.1 hE.2.1 dX1_copyFrom_113 (by decide) ?_
  refine x_copyi (rest := []) (sp := iI (0)) (dp := iI (0)) (n := iI (9)) (n0 := 9) (n1 := 9) hE hl.1 hK hN hP hS mw_678 mw_680 mw_679 mw_130 78 5 (Nat.lt_of_lt_of_le (by decide) hNN) (Nat.lt_of_lt_of_le (by decide) hNN) (xG_10 rfl) (fun _ => xG_10 rfl) (by decide) (by decide) (by decide) (by decide) (by decide) (by decide) (by decide) dX1_copyFrom_115 (fun ar24 H locs ha24 hP hS => ?_)
  refine lv_aload_n hE.1 hE.2.1 dX1_copyFrom_118 rfl (lv_at hl 1 rfl) ?_
  refine x_get (x := .ref (ad 79)) hE hK hP 76 (Nat.lt_of_lt_of_le (by decide) hNN) (xG_1 rfl) rfl hin1 13 (by decide) mw_225 rfl dX1_copyFrom_119 ?_
  refine lv_iconst (v := iI (0)) hE.1 hE.2.1 dX1_copyFrom_122 (by decide) ?_
  refine lv_aload_n hE.1 hE.2.1 dX1_copyFrom_123 rfl (lv_at hl 0 rfl) ?_
  refine x_get (x := .ref (ad 6)) hE hK hP 3 (Nat.lt_of_lt_of_le (by decide) hNN) (xG_1 rfl) rfl hin1 13 (by decide) mw_225 rfl dX1_copyFrom_124 ?_
  refine lv_iconst (v := iI (0)) hE.1 hE.2.1 dX1_copyFrom_127 (by decide) ?_
  refine lv_bipush (v := iI (9)) hE.1 hE.2.1 dX1_copyFrom_128 (by decide) ?_
  refine x_copyi (rest := []) (sp := iI (0)) (dp := iI (0)) (n := iI (9)) (n0 := 9) (n1 := 9) hE hl.1 hK hN hP hS mw_678 mw_680 mw_679 mw_130 79 6 (Nat.lt_of_lt_of_le (by decide) hNN) (Nat.lt_of_lt_of_le (by decide) hNN) (xG_10 rfl) (fun _ => xG_10 rfl) (by decide) (by decide) (by decide) (by decide) (by decide) (by decide) (by decide) dX1_copyFrom_130 (fun ar25 H locs ha25 hP hS => ?_)
  refine lv_aload_n hE.1 hE.2.1 dX1_copyFrom_133 rfl (lv_at hl 1 rfl) ?_
  refine x_get (x := .ref (ad 80)) hE hK hP 76 (Nat.lt_of_lt_of_le (by decide) hNN) (xG_1 rfl) rfl hin1 14 (by decide) mw_229 rfl dX1_copyFrom_134 ?_
  refine lv_iconst (v := iI (0)) hE.1 hE.2.1 dX1_copyFrom_137 (by decide) ?_
  refine lv_aload_n hE.1 hE.2.1 dX1_copyFrom_138 rfl (lv_at hl 0 rfl) ?_
  refine x_get (x := .ref (ad 7)) hE hK hP 3 (Nat.lt_of_lt_of_le (by decide) hNN) (xG_1 rfl) rfl hin1 14 (by decide) mw_229 rfl dX1_copyFrom_139 ?_
  refine lv_iconst (v := iI (0)) hE.1 hE.2.1 dX1_copyFrom_142 (by decide) ?_
  refine lv_bipush (v := iI (9)) hE.1 hE.2.1 dX1_copyFrom_143 (by decide) ?_
  refine x_copyi (rest := []) (sp := iI (0)) (dp := iI (0)) (n := iI (9)) (n0 := 9) (n1 := 9) hE hl.1 hK hN hP hS mw_678 mw_680 mw_679 mw_130 80 7 (Nat.lt_of_lt_of_le (by decide) hNN) (Nat.lt_of_lt_of_le (by decide) hNN) (xG_10 rfl) (fun _ => xG_10 rfl) (by decide) (by decide) (by decide) (by decide) (by decide) (by decide) (by decide) dX1_copyFrom_145 (fun ar26 H locs ha26 hP hS => ?_)
  refine lv_aload_n hE.1 hE.2.1 dX1_copyFrom_148 rfl (lv_at hl 1 rfl) ?_
  refine x_get (x := .ref (ad 81)) hE hK hP 76 (Nat.lt_of_lt_of_le (by decide) hNN) (xG_1 rfl) rfl hin1 15 (by decide) mw_231 rfl dX1_copyFrom_149 ?_
  refine lv_iconst (v := iI (0)) hE.1 hE.2.1 dX1_copyFrom_152 (by decide) ?_
  refine lv_aload_n hE.1 hE.2.1 dX1_copyFrom_153 rfl (lv_at hl 0 rfl) ?_
  refine x_get (x := .ref (ad 8)) hE hK hP 3 (Nat.lt_of_lt_of_le (by decide) hNN) (xG_1 rfl) rfl hin1 15 (by decide) mw_231 rfl dX1_copyFrom_154 ?_
  refine lv_iconst (v := iI (0)) hE.1 hE.2.1 dX1_copyFrom_157 (by decide) ?_
  refine lv_bipush (v := iI (9)) hE.1 hE.2.1 dX1_copyFrom_158 (by decide) ?_
  refine x_copyi (rest := []) (sp := iI (0)) (dp := iI (0)) (n := iI (9)) (n0 := 9) (n1 := 9) hE hl.1 hK hN hP hS mw_678 mw_680 mw_679 mw_130 81 8 (Nat.lt_of_lt_of_le (by decide) hNN) (Nat.lt_of_lt_of_le (by decide) hNN) (xG_10 rfl) (fun _ => xG_10 rfl) (by decide) (by decide) (by decide) (by decide) (by decide) (by decide) (by decide) dX1_copyFrom_160 (fun ar27 H locs ha27 hP hS => ?_)
  refine lv_aload_n hE.1 hE.2.1 dX1_copyFrom_163 rfl (lv_at hl 1 rfl) ?_
  refine x_get (x := .ref (ad 82)) hE hK hP 76 (Nat.lt_of_lt_of_le (by decide) hNN) (xG_1 rfl) rfl hin1 16 (by decide) mw_235 rfl dX1_copyFrom_164 ?_
  refine lv_iconst (v := iI (0)) hE.1 hE.2.1 dX1_copyFrom_167 (by decide) ?_
  refine lv_aload_n hE.1 hE.2.1 dX1_copyFrom_168 rfl (lv_at hl 0 rfl) ?_
  refine x_get (x := .ref (ad 9)) hE hK hP 3 (Nat.lt_of_lt_of_le (by decide) hNN) (xG_1 rfl) rfl hin1 16 (by decide) mw_235 rfl dX1_copyFrom_169 ?_
  refine lv_iconst (v := iI (0)) hE.1 hE.2.1 dX1_copyFrom_172 (by decide) ?_
  refine lv_bipush (v := iI (9)) hE.1 hE.2.1 dX1_copyFrom_173 (by decide) ?_
  refine x_copyi (rest := []) (sp := iI (0)) (dp := iI (0)) (n := iI (9)) (n0 := 9) (n1 := 9) hE hl.1 hK hN hP hS mw_678 mw_680 mw_679 mw_130 82 9 (Nat.lt_of_lt_of_le (by decide) hNN) (Nat.lt_of_lt_of_le (by decide) hNN) (xG_10 rfl) (fun _ => xG_10 rfl) (by decide) (by decide) (by decide) (by decide) (by decide) (by decide) (by decide) dX1_copyFrom_175 (fun ar28 H locs ha28 hP hS => ?_)
  refine lv_aload_n hE.1 hE.2.1 dX1_copyFrom_178 rfl (lv_at hl 1 rfl) ?_
  refine x_get (x := .ref (ad 83)) hE hK hP 76 (Nat.lt_of_lt_of_le (by decide) hNN) (xG_1 rfl) rfl hin1 17 (by decide) mw_239 rfl dX1_copyFrom_179 ?_
  refine lv_iconst (v := iI (0)) hE.1 hE.2.1 dX1_copyFrom_182 (by decide) ?_
  refine lv_aload_n hE.1 hE.2.1 dX1_copyFrom_183 rfl (lv_at hl 0 rfl) ?_
  refine x_get (x := .ref (ad 10)) hE hK hP 3 (Nat.lt_of_lt_of_le (by decide) hNN) (xG_1 rfl) rfl hin1 17 (by decide) mw_239 rfl dX1_copyFrom_184 ?_
  refine lv_iconst (v := iI (0)) hE.1 hE.2.1 dX1_copyFrom_187 (by decide) ?_
  refine lv_iconst (v := iI (3)) hE.1 hE.2.1 dX1_copyFrom_188 (by decide) ?_
  refine x_copyi (rest := []) (sp := iI (0)) (dp := iI (0)) (n := iI (3)) (n0 := 3) (n1 := 3) hE hl.1 hK hN hP hS mw_678 mw_680 mw_679 mw_130 83 10 (Nat.lt_of_lt_of_le (by decide) hNN) (Nat.lt_of_lt_of_le (by decide) hNN) (xG_10 rfl) (fun _ => xG_10 rfl) (by decide) (by decide) (by decide) (by decide) (by decide) (by decide) (by decide) dX1_copyFrom_189 (fun ar29 H locs ha29 hP hS => ?_)
  refine lv_aload_n hE.1 hE.2.1 dX1_copyFrom_192 rfl (lv_at hl 1 rfl) ?_
  refine x_get (x := .ref (ad 84)) hE hK hP 76 (Nat.lt_of_lt_of_le (by decide) hNN) (xG_1 rfl) rfl hin1 18 (by decide) mw_241 rfl dX1_copyFrom_193 ?_
  refine lv_iconst (v := iI (0)) hE.1 hE.2.1 dX1_copyFrom_196 (by decide) ?_
  refine lv_aload_n hE.1 hE.2.1 dX1_copyFrom_197 rfl (lv_at hl 0 rfl) ?_
  refine x_get (x := .ref (ad 11)) hE hK hP 3 (Nat.lt_of_lt_of_le (by decide) hNN) (xG_1 rfl) rfl hin1 18 (by decide) mw_241 rfl dX1_copyFrom_198 ?_
  refine lv_iconst (v := iI (0)) hE.1 hE.2.1 dX1_copyFrom_201 (by decide) ?_
  refine lv_bipush (v := iI (8)) hE.1 hE.2.1 dX1_copyFrom_202 (by decide) ?_
  refine x_copyi (rest := []) (sp := iI (0)) (dp := iI (0)) (n := iI (8)) (n0 := 8) (n1 := 8) hE hl.1 hK hN hP hS mw_678 mw_680 mw_679 mw_130 84 11 (Nat.lt_of_lt_of_le (by decide) hNN) (Nat.lt_of_lt_of_le (by decide) hNN) (xG_10 rfl) (fun _ => xG_10 rfl) (by decide) (by decide) (by decide) (by decide) (by decide) (by decide) (by decide) dX1_copyFrom_204 (fun ar30 H locs ha30 hP hS => ?_)
  refine lv_aload_n hE.1 hE.2.1 dX1_copyFrom_207 rfl (lv_at hl 1 rfl) ?_
  refine x_get (x := .ref (ad 85)) hE hK hP 76 (Nat.lt_of_lt_of_le (by decide) hNN) (xG_1 rfl) rfl hin1 19 (by decide) mw_244 rfl dX1_copyFrom_208 ?_
  refine lv_iconst (v := iI (0)) hE.1 hE.2.1 dX1_copyFrom_211 (by decide) ?_
  refine lv_aload_n hE.1 hE.2.1 dX1_copyFrom_212 rfl (lv_at hl 0 rfl) ?_
  refine x_get (x := .ref (ad 12)) hE hK hP 3 (Nat.lt_of_lt_of_le (by decide) hNN) (xG_1 rfl) rfl hin1 19 (by decide) mw_244 rfl dX1_copyFrom_213 ?_
  refine lv_iconst (v := iI (0)) hE.1 hE.2.1 dX1_copyFrom_216 (by decide) ?_
  refine lv_bipush (v := iI (8)) hE.1 hE.2.1 dX1_copyFrom_217 (by decide) ?_
  refine x_copyi (rest := []) (sp := iI (0)) (dp := iI (0)) (n := iI (8)) (n0 := 8) (n1 := 8) hE hl.1 hK hN hP hS mw_678 mw_680 mw_679 mw_130 85 12 (Nat.lt_of_lt_of_le (by decide) hNN) (Nat.lt_of_lt_of_le (by decide) hNN) (xG_10 rfl) (fun _ => xG_10 rfl) (by decide) (by decide) (by decide) (by decide) (by decide) (by decide) (by decide) dX1_copyFrom_219 (fun ar31 H locs ha31 hP hS => ?_)
  exact kr _ _ _ _ _ _ _ ⟨hI, fun i j h => ((up_oth hv22 (fun q => h (by rcases q with ⟨rfl, rfl⟩; decide))).trans ((up_oth hv20 (fun q => h (by rcases q with ⟨rfl, rfl⟩; decide))).trans ((up_oth hv18 (fun q => h (by rcases q with ⟨rfl, rfl⟩; decide))).trans ((up_oth hv16 (fun q => h (by rcases q with ⟨rfl, rfl⟩; decide))).trans ((up_oth hv14 (fun q => h (by rcases q with ⟨rfl, rfl⟩; decide))).trans ((up_oth hv12 (fun q => h (by rcases q with ⟨rfl, rfl⟩; decide))).trans ((up_oth hv10 (fun q => h (by rcases q with ⟨rfl, rfl⟩; decide))).trans ((up_oth hv8 (fun q => h (by rcases q with ⟨rfl, rfl⟩; decide))).trans ((up_oth hv6 (fun q => h (by rcases q with ⟨rfl, rfl⟩; decide))).trans ((up_oth hv4 (fun q => h (by rcases q with ⟨rfl, rfl⟩; decide))).trans (up_oth hv2 (fun q => h (by rcases q with ⟨rfl, rfl⟩; decide)))))))))))))⟩ hP hS dX1_copyFrom_222

set_option maxHeartbeats 4000000 in
set_option maxRecDepth 100000 in
theorem s_X7_copyFrom_23_86 (l : Launch) (D : va_G) (K : Nat → ClassId) (ad : Nat → Nat) (mm : Option Nat) (N : Nat) (hNN : 132 ≤ N) (v ar : sI) (al : sL) (hI : XI v) : Met l yX7_copyFrom (wM yX7_copyFrom cX7_copyFrom 2 none) (rmD 1) (va_Pc [.ref (ad 23), .ref (ad 86)] (wPre D K ad (xG ad K mm) N v ar al)) (va_Qv (fun u : sT => XI u.1 ∧ (∀ i j : Nat, (i, j) ∉ ([(23, 2), (23, 3), (23, 4), (23, 5), (23, 8), (23, 9)] : List (Nat × Nat)) → u.1 i j = v i j)) (wB D ad (xG ad K mm) N) (inW ad N)) 0 0 (inW ad N) := by
  refine s_metV (by decide) (Nat.le_of_ble_eq_true rfl) ?_
  intro p e s m below meth c ls args Q hE hB hl kr
  have hE : CallFix p m c cX7_copyFrom 2 s args tbG "TaleCourt$Telling" := hE
  obtain ⟨hP, hK, hN⟩ := hB
  have hS : va_S (inW ad N) s.heap s.heap [] := va_S.rf
  have hl : lv_has ls 2 [(0, .ref (ad 23)), (1, .ref (ad 86))] := hl
  refine lv_aload_n hE.1 hE.2.1 dX7_copyFrom_0 rfl (lv_at hl 0 rfl) ?_
  refine lv_aload_n hE.1 hE.2.1 dX7_copyFrom_1 rfl (lv_at hl 1 rfl) ?_
  obtain ⟨z1, hz1, ez1⟩ := XI_get hI 86 2 0 18 (by decide)
  refine x_get (x := .int (v 86 2)) hE hK hP 86 (Nat.lt_of_lt_of_le (by decide) hNN) (xG_7 rfl) rfl hin7 2 (by decide) mw_301 rfl dX7_copyFrom_2 ?_
  refine x_top (y := iI (z1)) ez1 ?_
  refine x_put (x := iI (z1)) hE hK hN hP hS 23 (Nat.lt_of_lt_of_le (by decide) hNN) (xG_7 rfl) rfl hin7 tyX7 tyX7_ok nmX7 2 (by decide) mw_301 rfl rfl rfl (Nat.le_of_ble_eq_true rfl) (xG_7 rfl) dX7_copyFrom_5 (fun v2 H locs hv2 hP hS => ?_)
  have hI := XI_putB (z := z1) hI hv2 0 18 (by omega) (by decide) (by omega)
  refine lv_aload_n hE.1 hE.2.1 dX7_copyFrom_8 rfl (lv_at hl 0 rfl) ?_
  refine lv_aload_n hE.1 hE.2.1 dX7_copyFrom_9 rfl (lv_at hl 1 rfl) ?_
  obtain ⟨z3, hz3, ez3⟩ := iI_of (v2 86 3)
  refine x_get (x := .int (v2 86 3)) hE hK hP 86 (Nat.lt_of_lt_of_le (by decide) hNN) (xG_7 rfl) rfl hin7 3 (by decide) mw_305 rfl dX7_copyFrom_10 ?_
  refine x_top (y := iI (z3)) ez3 ?_
  refine x_put (x := iI (z3)) hE hK hN hP hS 23 (Nat.lt_of_lt_of_le (by decide) hNN) (xG_7 rfl) rfl hin7 tyX7 tyX7_ok nmX7 3 (by decide) mw_305 rfl rfl rfl (Nat.le_of_ble_eq_true rfl) (xG_7 rfl) dX7_copyFrom_13 (fun v4 H locs hv4 hP hS => ?_)
  have hI := XI_putN hI hv4 (by decide)
  refine lv_aload_n hE.1 hE.2.1 dX7_copyFrom_16 rfl (lv_at hl 0 rfl) ?_
  refine lv_aload_n hE.1 hE.2.1 dX7_copyFrom_17 rfl (lv_at hl 1 rfl) ?_
  obtain ⟨z5, hz5, ez5⟩ := iI_of (v4 86 4)
  refine x_get (x := .int (v4 86 4)) hE hK hP 86 (Nat.lt_of_lt_of_le (by decide) hNN) (xG_7 rfl) rfl hin7 4 (by decide) mw_309 rfl dX7_copyFrom_18 ?_
  refine x_top (y := iI (z5)) ez5 ?_
  refine x_put (x := iI (z5)) hE hK hN hP hS 23 (Nat.lt_of_lt_of_le (by decide) hNN) (xG_7 rfl) rfl hin7 tyX7 tyX7_ok nmX7 4 (by decide) mw_309 rfl rfl rfl (Nat.le_of_ble_eq_true rfl) (xG_7 rfl) dX7_copyFrom_21 (fun v6 H locs hv6 hP hS => ?_)
  have hI := XI_putN hI hv6 (by decide)
  refine lv_aload_n hE.1 hE.2.1 dX7_copyFrom_24 rfl (lv_at hl 0 rfl) ?_
  refine lv_aload_n hE.1 hE.2.1 dX7_copyFrom_25 rfl (lv_at hl 1 rfl) ?_
  obtain ⟨z7, hz7, ez7⟩ := iI_of (v6 86 5)
  refine x_get (x := .int (v6 86 5)) hE hK hP 86 (Nat.lt_of_lt_of_le (by decide) hNN) (xG_7 rfl) rfl hin7 5 (by decide) mw_312 rfl dX7_copyFrom_26 ?_
  refine x_top (y := iI (z7)) ez7 ?_
  refine x_put (x := iI (z7)) hE hK hN hP hS 23 (Nat.lt_of_lt_of_le (by decide) hNN) (xG_7 rfl) rfl hin7 tyX7 tyX7_ok nmX7 5 (by decide) mw_312 rfl rfl rfl (Nat.le_of_ble_eq_true rfl) (xG_7 rfl) dX7_copyFrom_29 (fun v8 H locs hv8 hP hS => ?_)
  have hI := XI_putN hI hv8 (by decide)
  refine lv_aload_n hE.1 hE.2.1 dX7_copyFrom_32 rfl (lv_at hl 0 rfl) ?_
  refine lv_aload_n hE.1 hE.2.1 dX7_copyFrom_33 rfl (lv_at hl 1 rfl) ?_
  obtain ⟨z9, hz9, ez9⟩ := iI_of (v8 86 8)
  refine x_get (x := .int (v8 86 8)) hE hK hP 86 (Nat.lt_of_lt_of_le (by decide) hNN) (xG_7 rfl) rfl hin7 8 (by decide) mw_317 rfl dX7_copyFrom_34 ?_
  refine x_top (y := iI (z9)) ez9 ?_
  refine x_put (x := iI (z9)) hE hK hN hP hS 23 (Nat.lt_of_lt_of_le (by decide) hNN) (xG_7 rfl) rfl hin7 tyX7 tyX7_ok nmX7 8 (by decide) mw_317 rfl rfl rfl (Nat.le_of_ble_eq_true rfl) (xG_7 rfl) dX7_copyFrom_37 (fun v10 H locs hv10 hP hS => ?_)
  have hI := XI_putN hI hv10 (by decide)
  refine lv_aload_n hE.1 hE.2.1 dX7_copyFrom_40 rfl (lv_at hl 0 rfl) ?_
  refine lv_aload_n hE.1 hE.2.1 dX7_copyFrom_41 rfl (lv_at hl 1 rfl) ?_
  obtain ⟨z11, hz11, ez11⟩ := iI_of (v10 86 9)
  refine x_get (x := .int (v10 86 9)) hE hK hP 86 (Nat.lt_of_lt_of_le (by decide) hNN) (xG_7 rfl) rfl hin7 9 (by decide) mw_318 rfl dX7_copyFrom_42 ?_
  refine x_top (y := iI (z11)) ez11 ?_
  refine x_put (x := iI (z11)) hE hK hN hP hS 23 (Nat.lt_of_lt_of_le (by decide) hNN) (xG_7 rfl) rfl hin7 tyX7 tyX7_ok nmX7 9 (by decide) mw_318 rfl rfl rfl (Nat.le_of_ble_eq_true rfl) (xG_7 rfl) dX7_copyFrom_45 (fun v12 H locs hv12 hP hS => ?_)
  have hI := XI_putN hI hv12 (by decide)
  refine lv_aload_n hE.1 hE.2.1 dX7_copyFrom_48 rfl (lv_at hl 1 rfl) ?_
  refine x_get (x := .ref (ad 87)) hE hK hP 86 (Nat.lt_of_lt_of_le (by decide) hNN) (xG_7 rfl) rfl hin7 0 (by decide) mw_295 rfl dX7_copyFrom_49 ?_
  refine lv_iconst (v := iI (0)) hE.1 hE.2.1 dX7_copyFrom_52 (by decide) ?_
  refine lv_aload_n hE.1 hE.2.1 dX7_copyFrom_53 rfl (lv_at hl 0 rfl) ?_
  refine x_get (x := .ref (ad 24)) hE hK hP 23 (Nat.lt_of_lt_of_le (by decide) hNN) (xG_7 rfl) rfl hin7 0 (by decide) mw_295 rfl dX7_copyFrom_54 ?_
  refine lv_iconst (v := iI (0)) hE.1 hE.2.1 dX7_copyFrom_57 (by decide) ?_
  refine lv_bipush (v := iI (18)) hE.1 hE.2.1 dX7_copyFrom_58 (by decide) ?_
  refine x_copyi (rest := []) (sp := iI (0)) (dp := iI (0)) (n := iI (18)) (n0 := 18) (n1 := 18) hE hl.1 hK hN hP hS mw_912 mw_680 mw_679 mw_130 87 24 (Nat.lt_of_lt_of_le (by decide) hNN) (Nat.lt_of_lt_of_le (by decide) hNN) (xG_10 rfl) (fun _ => xG_10 rfl) (by decide) (by decide) (by decide) (by decide) (by decide) (by decide) (by decide) dX7_copyFrom_60 (fun ar13 H locs ha13 hP hS => ?_)
  refine lv_aload_n hE.1 hE.2.1 dX7_copyFrom_63 rfl (lv_at hl 1 rfl) ?_
  refine x_get (x := .ref (ad 88)) hE hK hP 86 (Nat.lt_of_lt_of_le (by decide) hNN) (xG_7 rfl) rfl hin7 1 (by decide) mw_299 rfl dX7_copyFrom_64 ?_
  refine lv_iconst (v := iI (0)) hE.1 hE.2.1 dX7_copyFrom_67 (by decide) ?_
  refine lv_aload_n hE.1 hE.2.1 dX7_copyFrom_68 rfl (lv_at hl 0 rfl) ?_
  refine x_get (x := .ref (ad 25)) hE hK hP 23 (Nat.lt_of_lt_of_le (by decide) hNN) (xG_7 rfl) rfl hin7 1 (by decide) mw_299 rfl dX7_copyFrom_69 ?_
  refine lv_iconst (v := iI (0)) hE.1 hE.2.1 dX7_copyFrom_72 (by decide) ?_
  refine lv_bipush (v := iI (9)) hE.1 hE.2.1 dX7_copyFrom_73 (by decide) ?_
  refine x_copyi (rest := []) (sp := iI (0)) (dp := iI (0)) (n := iI (9)) (n0 := 9) (n1 := 9) hE hl.1 hK hN hP hS mw_912 mw_680 mw_679 mw_130 88 25 (Nat.lt_of_lt_of_le (by decide) hNN) (Nat.lt_of_lt_of_le (by decide) hNN) (xG_10 rfl) (fun _ => xG_10 rfl) (by decide) (by decide) (by decide) (by decide) (by decide) (by decide) (by decide) dX7_copyFrom_75 (fun ar14 H locs ha14 hP hS => ?_)
  refine lv_aload_n hE.1 hE.2.1 dX7_copyFrom_78 rfl (lv_at hl 1 rfl) ?_
  refine x_get (x := .ref (ad 89)) hE hK hP 86 (Nat.lt_of_lt_of_le (by decide) hNN) (xG_7 rfl) rfl hin7 7 (by decide) mw_316 rfl dX7_copyFrom_79 ?_
  refine lv_iconst (v := iI (0)) hE.1 hE.2.1 dX7_copyFrom_82 (by decide) ?_
  refine lv_aload_n hE.1 hE.2.1 dX7_copyFrom_83 rfl (lv_at hl 0 rfl) ?_
  refine x_get (x := .ref (ad 26)) hE hK hP 23 (Nat.lt_of_lt_of_le (by decide) hNN) (xG_7 rfl) rfl hin7 7 (by decide) mw_316 rfl dX7_copyFrom_84 ?_
  refine lv_iconst (v := iI (0)) hE.1 hE.2.1 dX7_copyFrom_87 (by decide) ?_
  refine lv_iconst (v := iI (3)) hE.1 hE.2.1 dX7_copyFrom_88 (by decide) ?_
  refine x_copyi (rest := []) (sp := iI (0)) (dp := iI (0)) (n := iI (3)) (n0 := 3) (n1 := 3) hE hl.1 hK hN hP hS mw_912 mw_680 mw_679 mw_130 89 26 (Nat.lt_of_lt_of_le (by decide) hNN) (Nat.lt_of_lt_of_le (by decide) hNN) (xG_10 rfl) (fun _ => xG_10 rfl) (by decide) (by decide) (by decide) (by decide) (by decide) (by decide) (by decide) dX7_copyFrom_89 (fun ar15 H locs ha15 hP hS => ?_)
  refine lv_aload_n hE.1 hE.2.1 dX7_copyFrom_92 rfl (lv_at hl 1 rfl) ?_
  refine x_get (x := .ref (ad 90)) hE hK hP 86 (Nat.lt_of_lt_of_le (by decide) hNN) (xG_7 rfl) rfl hin7 10 (by decide) mw_319 rfl dX7_copyFrom_93 ?_
  refine lv_iconst (v := iI (0)) hE.1 hE.2.1 dX7_copyFrom_96 (by decide) ?_
  refine lv_aload_n hE.1 hE.2.1 dX7_copyFrom_97 rfl (lv_at hl 0 rfl) ?_
  refine x_get (x := .ref (ad 27)) hE hK hP 23 (Nat.lt_of_lt_of_le (by decide) hNN) (xG_7 rfl) rfl hin7 10 (by decide) mw_319 rfl dX7_copyFrom_98 ?_
  refine lv_iconst (v := iI (0)) hE.1 hE.2.1 dX7_copyFrom_101 (by decide) ?_
  refine lv_bipush (v := iI (18)) hE.1 hE.2.1 dX7_copyFrom_102 (by decide) ?_
  refine x_copyi (rest := []) (sp := iI (0)) (dp := iI (0)) (n := iI (18)) (n0 := 18) (n1 := 18) hE hl.1 hK hN hP hS mw_912 mw_680 mw_679 mw_130 90 27 (Nat.lt_of_lt_of_le (by decide) hNN) (Nat.lt_of_lt_of_le (by decide) hNN) (xG_10 rfl) (fun _ => xG_10 rfl) (by decide) (by decide) (by decide) (by decide) (by decide) (by decide) (by decide) dX7_copyFrom_104 (fun ar16 H locs ha16 hP hS => ?_)
  refine lv_aload_n hE.1 hE.2.1 dX7_copyFrom_107 rfl (lv_at hl 1 rfl) ?_
  refine x_get (x := .ref (ad 91)) hE hK hP 86 (Nat.lt_of_lt_of_le (by decide) hNN) (xG_7 rfl) rfl hin7 11 (by decide) mw_320 rfl dX7_copyFrom_108 ?_
  refine lv_iconst (v := iI (0)) hE.1 hE.2.1 dX7_copyFrom_111 (by decide) ?_
  refine lv_aload_n hE.1 hE.2.1 dX7_copyFrom_112 rfl (lv_at hl 0 rfl) ?_
  refine x_get (x := .ref (ad 28)) hE hK hP 23 (Nat.lt_of_lt_of_le (by decide) hNN) (xG_7 rfl) rfl hin7 11 (by decide) mw_320 rfl dX7_copyFrom_113 ?_
  refine lv_iconst (v := iI (0)) hE.1 hE.2.1 dX7_copyFrom_116 (by decide) ?_
  refine lv_bipush (v := iI (18)) hE.1 hE.2.1 dX7_copyFrom_117 (by decide) ?_
  refine x_copyi (rest := []) (sp := iI (0)) (dp := iI (0)) (n := iI (18)) (n0 := 18) (n1 := 18) hE hl.1 hK hN hP hS mw_912 mw_680 mw_679 mw_130 91 28 (Nat.lt_of_lt_of_le (by decide) hNN) (Nat.lt_of_lt_of_le (by decide) hNN) (xG_10 rfl) (fun _ => xG_10 rfl) (by decide) (by decide) (by decide) (by decide) (by decide) (by decide) (by decide) dX7_copyFrom_119 (fun ar17 H locs ha17 hP hS => ?_)
  refine lv_aload_n hE.1 hE.2.1 dX7_copyFrom_122 rfl (lv_at hl 1 rfl) ?_
  refine x_get (x := .ref (ad 92)) hE hK hP 86 (Nat.lt_of_lt_of_le (by decide) hNN) (xG_7 rfl) rfl hin7 12 (by decide) mw_321 rfl dX7_copyFrom_123 ?_
  refine lv_iconst (v := iI (0)) hE.1 hE.2.1 dX7_copyFrom_126 (by decide) ?_
  refine lv_aload_n hE.1 hE.2.1 dX7_copyFrom_127 rfl (lv_at hl 0 rfl) ?_
  refine x_get (x := .ref (ad 29)) hE hK hP 23 (Nat.lt_of_lt_of_le (by decide) hNN) (xG_7 rfl) rfl hin7 12 (by decide) mw_321 rfl dX7_copyFrom_128 ?_
  refine lv_iconst (v := iI (0)) hE.1 hE.2.1 dX7_copyFrom_131 (by decide) ?_
  refine lv_bipush (v := iI (18)) hE.1 hE.2.1 dX7_copyFrom_132 (by decide) ?_
  refine x_copyi (rest := []) (sp := iI (0)) (dp := iI (0)) (n := iI (18)) (n0 := 18) (n1 := 18) hE hl.1 hK hN hP hS mw_912 mw_680 mw_679 mw_130 92 29 (Nat.lt_of_lt_of_le (by decide) hNN) (Nat.lt_of_lt_of_le (by decide) hNN) (xG_10 rfl) (fun _ => xG_10 rfl) (by decide) (by decide) (by decide) (by decide) (by decide) (by decide) (by decide) dX7_copyFrom_134 (fun ar18 H locs ha18 hP hS => ?_)
  refine lv_aload_n hE.1 hE.2.1 dX7_copyFrom_137 rfl (lv_at hl 1 rfl) ?_
  refine x_get (x := .ref (ad 93)) hE hK hP 86 (Nat.lt_of_lt_of_le (by decide) hNN) (xG_7 rfl) rfl hin7 13 (by decide) mw_322 rfl dX7_copyFrom_138 ?_
  refine lv_iconst (v := iI (0)) hE.1 hE.2.1 dX7_copyFrom_141 (by decide) ?_
  refine lv_aload_n hE.1 hE.2.1 dX7_copyFrom_142 rfl (lv_at hl 0 rfl) ?_
  refine x_get (x := .ref (ad 30)) hE hK hP 23 (Nat.lt_of_lt_of_le (by decide) hNN) (xG_7 rfl) rfl hin7 13 (by decide) mw_322 rfl dX7_copyFrom_143 ?_
  refine lv_iconst (v := iI (0)) hE.1 hE.2.1 dX7_copyFrom_146 (by decide) ?_
  refine lv_bipush (v := iI (18)) hE.1 hE.2.1 dX7_copyFrom_147 (by decide) ?_
  refine x_copyi (rest := []) (sp := iI (0)) (dp := iI (0)) (n := iI (18)) (n0 := 18) (n1 := 18) hE hl.1 hK hN hP hS mw_912 mw_680 mw_679 mw_130 93 30 (Nat.lt_of_lt_of_le (by decide) hNN) (Nat.lt_of_lt_of_le (by decide) hNN) (xG_10 rfl) (fun _ => xG_10 rfl) (by decide) (by decide) (by decide) (by decide) (by decide) (by decide) (by decide) dX7_copyFrom_149 (fun ar19 H locs ha19 hP hS => ?_)
  exact kr _ _ _ _ _ _ _ ⟨hI, fun i j h => ((up_oth hv12 (fun q => h (by rcases q with ⟨rfl, rfl⟩; decide))).trans ((up_oth hv10 (fun q => h (by rcases q with ⟨rfl, rfl⟩; decide))).trans ((up_oth hv8 (fun q => h (by rcases q with ⟨rfl, rfl⟩; decide))).trans ((up_oth hv6 (fun q => h (by rcases q with ⟨rfl, rfl⟩; decide))).trans ((up_oth hv4 (fun q => h (by rcases q with ⟨rfl, rfl⟩; decide))).trans (up_oth hv2 (fun q => h (by rcases q with ⟨rfl, rfl⟩; decide))))))))⟩ hP hS dX7_copyFrom_152

set_option maxHeartbeats 4000000 in
set_option maxRecDepth 100000 in
theorem s_X1_copyFrom_3_95 (l : Launch) (D : va_G) (K : Nat → ClassId) (ad : Nat → Nat) (mm : Option Nat) (N : Nat) (hNN : 132 ≤ N) (v ar : sI) (al : sL) (hI : XI v) : Met l yX1_copyFrom (wM yX1_copyFrom cX1_copyFrom 2 none) (rmD 1) (va_Pc [.ref (ad 3), .ref (ad 95)] (wPre D K ad (xG ad K mm) N v ar al)) (va_Qv (fun u : sT => XI u.1 ∧ (∀ i j : Nat, (i, j) ∉ ([(3, 0), (3, 1), (3, 2), (3, 3), (3, 4), (3, 5), (3, 6), (3, 7), (3, 8), (3, 9), (3, 10)] : List (Nat × Nat)) → u.1 i j = v i j)) (wB D ad (xG ad K mm) N) (inW ad N)) 0 0 (inW ad N) := by
  refine s_metV (by decide) (Nat.le_of_ble_eq_true rfl) ?_
  intro p e s m below meth c ls args Q hE hB hl kr
  have hE : CallFix p m c cX1_copyFrom 2 s args tbG "TaleCourt$Court" := hE
  obtain ⟨hP, hK, hN⟩ := hB
  have hS : va_S (inW ad N) s.heap s.heap [] := va_S.rf
  have hl : lv_has ls 2 [(0, .ref (ad 3)), (1, .ref (ad 95))] := hl
  refine lv_aload_n hE.1 hE.2.1 dX1_copyFrom_0 rfl (lv_at hl 0 rfl) ?_
  refine lv_aload_n hE.1 hE.2.1 dX1_copyFrom_1 rfl (lv_at hl 1 rfl) ?_
  obtain ⟨z1, hz1, ez1⟩ := XI_get hI 95 0 0 3 (by decide)
  refine x_get (x := .int (v 95 0)) hE hK hP 95 (Nat.lt_of_lt_of_le (by decide) hNN) (xG_1 rfl) rfl hin1 0 (by decide) mw_178 rfl dX1_copyFrom_2 ?_
  refine x_top (y := iI (z1)) ez1 ?_
  refine x_put (x := iI (z1)) hE hK hN hP hS 3 (Nat.lt_of_lt_of_le (by decide) hNN) (xG_1 rfl) rfl hin1 tyX1 tyX1_ok nmX1 0 (by decide) mw_178 rfl rfl rfl (Nat.le_of_ble_eq_true rfl) (xG_1 rfl) dX1_copyFrom_5 (fun v2 H locs hv2 hP hS => ?_)
  have hI := XI_putB (z := z1) hI hv2 0 3 (by omega) (by decide) (by omega)
  refine lv_aload_n hE.1 hE.2.1 dX1_copyFrom_8 rfl (lv_at hl 0 rfl) ?_
  refine lv_aload_n hE.1 hE.2.1 dX1_copyFrom_9 rfl (lv_at hl 1 rfl) ?_
  obtain ⟨z3, hz3, ez3⟩ := iI_of (v2 95 1)
  refine x_get (x := .int (v2 95 1)) hE hK hP 95 (Nat.lt_of_lt_of_le (by decide) hNN) (xG_1 rfl) rfl hin1 1 (by decide) mw_182 rfl dX1_copyFrom_10 ?_
  refine x_top (y := iI (z3)) ez3 ?_
  refine x_put (x := iI (z3)) hE hK hN hP hS 3 (Nat.lt_of_lt_of_le (by decide) hNN) (xG_1 rfl) rfl hin1 tyX1 tyX1_ok nmX1 1 (by decide) mw_182 rfl rfl rfl (Nat.le_of_ble_eq_true rfl) (xG_1 rfl) dX1_copyFrom_13 (fun v4 H locs hv4 hP hS => ?_)
  have hI := XI_putN hI hv4 (by decide)
  refine lv_aload_n hE.1 hE.2.1 dX1_copyFrom_16 rfl (lv_at hl 0 rfl) ?_
  refine lv_aload_n hE.1 hE.2.1 dX1_copyFrom_17 rfl (lv_at hl 1 rfl) ?_
  obtain ⟨z5, hz5, ez5⟩ := XI_get hI 95 2 0 9 (by decide)
  refine x_get (x := .int (v4 95 2)) hE hK hP 95 (Nat.lt_of_lt_of_le (by decide) hNN) (xG_1 rfl) rfl hin1 2 (by decide) mw_187 rfl dX1_copyFrom_18 ?_
  refine x_top (y := iI (z5)) ez5 ?_
  refine x_put (x := iI (z5)) hE hK hN hP hS 3 (Nat.lt_of_lt_of_le (by decide) hNN) (xG_1 rfl) rfl hin1 tyX1 tyX1_ok nmX1 2 (by decide) mw_187 rfl rfl rfl (Nat.le_of_ble_eq_true rfl) (xG_1 rfl) dX1_copyFrom_21 (fun v6 H locs hv6 hP hS => ?_)
  have hI := XI_putB (z := z5) hI hv6 0 9 (by omega) (by decide) (by omega)
  refine lv_aload_n hE.1 hE.2.1 dX1_copyFrom_24 rfl (lv_at hl 0 rfl) ?_
  refine lv_aload_n hE.1 hE.2.1 dX1_copyFrom_25 rfl (lv_at hl 1 rfl) ?_
  obtain ⟨z7, hz7, ez7⟩ := XI_get hI 95 3 0 8 (by decide)
  refine x_get (x := .int (v6 95 3)) hE hK hP 95 (Nat.lt_of_lt_of_le (by decide) hNN) (xG_1 rfl) rfl hin1 3 (by decide) mw_190 rfl dX1_copyFrom_26 ?_
  refine x_top (y := iI (z7)) ez7 ?_
  refine x_put (x := iI (z7)) hE hK hN hP hS 3 (Nat.lt_of_lt_of_le (by decide) hNN) (xG_1 rfl) rfl hin1 tyX1 tyX1_ok nmX1 3 (by decide) mw_190 rfl rfl rfl (Nat.le_of_ble_eq_true rfl) (xG_1 rfl) dX1_copyFrom_29 (fun v8 H locs hv8 hP hS => ?_)
  have hI := XI_putB (z := z7) hI hv8 0 8 (by omega) (by decide) (by omega)
  refine lv_aload_n hE.1 hE.2.1 dX1_copyFrom_32 rfl (lv_at hl 0 rfl) ?_
  refine lv_aload_n hE.1 hE.2.1 dX1_copyFrom_33 rfl (lv_at hl 1 rfl) ?_
  obtain ⟨z9, hz9, ez9⟩ := iI_of (v8 95 4)
  refine x_get (x := .int (v8 95 4)) hE hK hP 95 (Nat.lt_of_lt_of_le (by decide) hNN) (xG_1 rfl) rfl hin1 4 (by decide) mw_194 rfl dX1_copyFrom_34 ?_
  refine x_top (y := iI (z9)) ez9 ?_
  refine x_put (x := iI (z9)) hE hK hN hP hS 3 (Nat.lt_of_lt_of_le (by decide) hNN) (xG_1 rfl) rfl hin1 tyX1 tyX1_ok nmX1 4 (by decide) mw_194 rfl rfl rfl (Nat.le_of_ble_eq_true rfl) (xG_1 rfl) dX1_copyFrom_37 (fun v10 H locs hv10 hP hS => ?_)
  have hI := XI_putN hI hv10 (by decide)
  refine lv_aload_n hE.1 hE.2.1 dX1_copyFrom_40 rfl (lv_at hl 0 rfl) ?_
  refine lv_aload_n hE.1 hE.2.1 dX1_copyFrom_41 rfl (lv_at hl 1 rfl) ?_
  obtain ⟨z11, hz11, ez11⟩ := iI_of (v10 95 5)
  refine x_get (x := .int (v10 95 5)) hE hK hP 95 (Nat.lt_of_lt_of_le (by decide) hNN) (xG_1 rfl) rfl hin1 5 (by decide) mw_197 rfl dX1_copyFrom_42 ?_
  refine x_top (y := iI (z11)) ez11 ?_
  refine x_put (x := iI (z11)) hE hK hN hP hS 3 (Nat.lt_of_lt_of_le (by decide) hNN) (xG_1 rfl) rfl hin1 tyX1 tyX1_ok nmX1 5 (by decide) mw_197 rfl rfl rfl (Nat.le_of_ble_eq_true rfl) (xG_1 rfl) dX1_copyFrom_45 (fun v12 H locs hv12 hP hS => ?_)
  have hI := XI_putN hI hv12 (by decide)
  refine lv_aload_n hE.1 hE.2.1 dX1_copyFrom_48 rfl (lv_at hl 0 rfl) ?_
  refine lv_aload_n hE.1 hE.2.1 dX1_copyFrom_49 rfl (lv_at hl 1 rfl) ?_
  obtain ⟨z13, hz13, ez13⟩ := iI_of (v12 95 6)
  refine x_get (x := .int (v12 95 6)) hE hK hP 95 (Nat.lt_of_lt_of_le (by decide) hNN) (xG_1 rfl) rfl hin1 6 (by decide) mw_200 rfl dX1_copyFrom_50 ?_
  refine x_top (y := iI (z13)) ez13 ?_
  refine x_put (x := iI (z13)) hE hK hN hP hS 3 (Nat.lt_of_lt_of_le (by decide) hNN) (xG_1 rfl) rfl hin1 tyX1 tyX1_ok nmX1 6 (by decide) mw_200 rfl rfl rfl (Nat.le_of_ble_eq_true rfl) (xG_1 rfl) dX1_copyFrom_53 (fun v14 H locs hv14 hP hS => ?_)
  have hI := XI_putN hI hv14 (by decide)
  refine lv_aload_n hE.1 hE.2.1 dX1_copyFrom_56 rfl (lv_at hl 0 rfl) ?_
  refine lv_aload_n hE.1 hE.2.1 dX1_copyFrom_57 rfl (lv_at hl 1 rfl) ?_
  obtain ⟨z15, hz15, ez15⟩ := iI_of (v14 95 7)
  refine x_get (x := .int (v14 95 7)) hE hK hP 95 (Nat.lt_of_lt_of_le (by decide) hNN) (xG_1 rfl) rfl hin1 7 (by decide) mw_203 rfl dX1_copyFrom_58 ?_
  refine x_top (y := iI (z15)) ez15 ?_
  refine x_put (x := iI (z15)) hE hK hN hP hS 3 (Nat.lt_of_lt_of_le (by decide) hNN) (xG_1 rfl) rfl hin1 tyX1 tyX1_ok nmX1 7 (by decide) mw_203 rfl rfl rfl (Nat.le_of_ble_eq_true rfl) (xG_1 rfl) dX1_copyFrom_61 (fun v16 H locs hv16 hP hS => ?_)
  have hI := XI_putN hI hv16 (by decide)
  refine lv_aload_n hE.1 hE.2.1 dX1_copyFrom_64 rfl (lv_at hl 0 rfl) ?_
  refine lv_aload_n hE.1 hE.2.1 dX1_copyFrom_65 rfl (lv_at hl 1 rfl) ?_
  obtain ⟨z17, hz17, ez17⟩ := iI_of (v16 95 8)
  refine x_get (x := .int (v16 95 8)) hE hK hP 95 (Nat.lt_of_lt_of_le (by decide) hNN) (xG_1 rfl) rfl hin1 8 (by decide) mw_207 rfl dX1_copyFrom_66 ?_
  refine x_top (y := iI (z17)) ez17 ?_
  refine x_put (x := iI (z17)) hE hK hN hP hS 3 (Nat.lt_of_lt_of_le (by decide) hNN) (xG_1 rfl) rfl hin1 tyX1 tyX1_ok nmX1 8 (by decide) mw_207 rfl rfl rfl (Nat.le_of_ble_eq_true rfl) (xG_1 rfl) dX1_copyFrom_69 (fun v18 H locs hv18 hP hS => ?_)
  have hI := XI_putN hI hv18 (by decide)
  refine lv_aload_n hE.1 hE.2.1 dX1_copyFrom_72 rfl (lv_at hl 0 rfl) ?_
  refine lv_aload_n hE.1 hE.2.1 dX1_copyFrom_73 rfl (lv_at hl 1 rfl) ?_
  obtain ⟨z19, hz19, ez19⟩ := iI_of (v18 95 9)
  refine x_get (x := .int (v18 95 9)) hE hK hP 95 (Nat.lt_of_lt_of_le (by decide) hNN) (xG_1 rfl) rfl hin1 9 (by decide) mw_211 rfl dX1_copyFrom_74 ?_
  refine x_top (y := iI (z19)) ez19 ?_
  refine x_put (x := iI (z19)) hE hK hN hP hS 3 (Nat.lt_of_lt_of_le (by decide) hNN) (xG_1 rfl) rfl hin1 tyX1 tyX1_ok nmX1 9 (by decide) mw_211 rfl rfl rfl (Nat.le_of_ble_eq_true rfl) (xG_1 rfl) dX1_copyFrom_77 (fun v20 H locs hv20 hP hS => ?_)
  have hI := XI_putN hI hv20 (by decide)
  refine lv_aload_n hE.1 hE.2.1 dX1_copyFrom_80 rfl (lv_at hl 0 rfl) ?_
  refine lv_aload_n hE.1 hE.2.1 dX1_copyFrom_81 rfl (lv_at hl 1 rfl) ?_
  obtain ⟨z21, hz21, ez21⟩ := iI_of (v20 95 10)
  refine x_get (x := .int (v20 95 10)) hE hK hP 95 (Nat.lt_of_lt_of_le (by decide) hNN) (xG_1 rfl) rfl hin1 10 (by decide) mw_214 rfl dX1_copyFrom_82 ?_
  refine x_top (y := iI (z21)) ez21 ?_
  refine x_put (x := iI (z21)) hE hK hN hP hS 3 (Nat.lt_of_lt_of_le (by decide) hNN) (xG_1 rfl) rfl hin1 tyX1 tyX1_ok nmX1 10 (by decide) mw_214 rfl rfl rfl (Nat.le_of_ble_eq_true rfl) (xG_1 rfl) dX1_copyFrom_85 (fun v22 H locs hv22 hP hS => ?_)
  have hI := XI_putN hI hv22 (by decide)
  refine lv_aload_n hE.1 hE.2.1 dX1_copyFrom_88 rfl (lv_at hl 1 rfl) ?_
  refine x_get (x := .ref (ad 96)) hE hK hP 95 (Nat.lt_of_lt_of_le (by decide) hNN) (xG_1 rfl) rfl hin1 11 (by decide) mw_218 rfl dX1_copyFrom_89 ?_
  refine lv_iconst (v := iI (0)) hE.1 hE.2.1 dX1_copyFrom_92 (by decide) ?_
  refine lv_aload_n hE.1 hE.2.1 dX1_copyFrom_93 rfl (lv_at hl 0 rfl) ?_
  refine x_get (x := .ref (ad 4)) hE hK hP 3 (Nat.lt_of_lt_of_le (by decide) hNN) (xG_1 rfl) rfl hin1 11 (by decide) mw_218 rfl dX1_copyFrom_94 ?_
  refine lv_iconst (v := iI (0)) hE.1 hE.2.1 dX1_copyFrom_97 (by decide) ?_
  refine lv_bipush (v := iI (9)) hE.1 hE.2.1 dX1_copyFrom_98 (by decide) ?_
  refine x_copyi (rest := []) (sp := iI (0)) (dp := iI (0)) (n := iI (9)) (n0 := 9) (n1 := 9) hE hl.1 hK hN hP hS mw_678 mw_680 mw_679 mw_130 96 4 (Nat.lt_of_lt_of_le (by decide) hNN) (Nat.lt_of_lt_of_le (by decide) hNN) (xG_10 rfl) (fun _ => xG_10 rfl) (by decide) (by decide) (by decide) (by decide) (by decide) (by decide) (by decide) dX1_copyFrom_100 (fun ar23 H locs ha23 hP hS => ?_)
  refine lv_aload_n hE.1 hE.2.1 dX1_copyFrom_103 rfl (lv_at hl 1 rfl) ?_
  refine x_get (x := .ref (ad 97)) hE hK hP 95 (Nat.lt_of_lt_of_le (by decide) hNN) (xG_1 rfl) rfl hin1 12 (by decide) mw_221 rfl dX1_copyFrom_104 ?_
  refine lv_iconst (v := iI (0)) hE.1 hE.2.1 dX1_copyFrom_107 (by decide) ?_
  refine lv_aload_n hE.1 hE.2.1 dX1_copyFrom_108 rfl (lv_at hl 0 rfl) ?_
  refine x_get (x := .ref (ad 5)) hE hK hP 3 (Nat.lt_of_lt_of_le (by decide) hNN) (xG_1 rfl) rfl hin1 12 (by decide) mw_221 rfl dX1_copyFrom_109 ?_
  refine lv_iconst (v := iI (0)) hE.1 hE.2.1 dX1_copyFrom_112 (by decide) ?_
  refine lv_bipush (v := iI (9)) hE.1 hE.2.1 dX1_copyFrom_113 (by decide) ?_
  refine x_copyi (rest := []) (sp := iI (0)) (dp := iI (0)) (n := iI (9)) (n0 := 9) (n1 := 9) hE hl.1 hK hN hP hS mw_678 mw_680 mw_679 mw_130 97 5 (Nat.lt_of_lt_of_le (by decide) hNN) (Nat.lt_of_lt_of_le (by decide) hNN) (xG_10 rfl) (fun _ => xG_10 rfl) (by decide) (by decide) (by decide) (by decide) (by decide) (by decide) (by decide) dX1_copyFrom_115 (fun ar24 H locs ha24 hP hS => ?_)
  refine lv_aload_n hE.1 hE.2.1 dX1_copyFrom_118 rfl (lv_at hl 1 rfl) ?_
  refine x_get (x := .ref (ad 98)) hE hK hP 95 (Nat.lt_of_lt_of_le (by decide) hNN) (xG_1 rfl) rfl hin1 13 (by decide) mw_225 rfl dX1_copyFrom_119 ?_
  refine lv_iconst (v := iI (0)) hE.1 hE.2.1 dX1_copyFrom_122 (by decide) ?_
  refine lv_aload_n hE.1 hE.2.1 dX1_copyFrom_123 rfl (lv_at hl 0 rfl) ?_
  refine x_get (x := .ref (ad 6)) hE hK hP 3 (Nat.lt_of_lt_of_le (by decide) hNN) (xG_1 rfl) rfl hin1 13 (by decide) mw_225 rfl dX1_copyFrom_124 ?_
  refine lv_iconst (v := iI (0)) hE.1 hE.2.1 dX1_copyFrom_127 (by decide) ?_
  refine lv_bipush (v := iI (9)) hE.1 hE.2.1 dX1_copyFrom_128 (by decide) ?_
  refine x_copyi (rest := []) (sp := iI (0)) (dp := iI (0)) (n := iI (9)) (n0 := 9) (n1 := 9) hE hl.1 hK hN hP hS mw_678 mw_680 mw_679 mw_130 98 6 (Nat.lt_of_lt_of_le (by decide) hNN) (Nat.lt_of_lt_of_le (by decide) hNN) (xG_10 rfl) (fun _ => xG_10 rfl) (by decide) (by decide) (by decide) (by decide) (by decide) (by decide) (by decide) dX1_copyFrom_130 (fun ar25 H locs ha25 hP hS => ?_)
  refine lv_aload_n hE.1 hE.2.1 dX1_copyFrom_133 rfl (lv_at hl 1 rfl) ?_
  refine x_get (x := .ref (ad 99)) hE hK hP 95 (Nat.lt_of_lt_of_le (by decide) hNN) (xG_1 rfl) rfl hin1 14 (by decide) mw_229 rfl dX1_copyFrom_134 ?_
  refine lv_iconst (v := iI (0)) hE.1 hE.2.1 dX1_copyFrom_137 (by decide) ?_
  refine lv_aload_n hE.1 hE.2.1 dX1_copyFrom_138 rfl (lv_at hl 0 rfl) ?_
  refine x_get (x := .ref (ad 7)) hE hK hP 3 (Nat.lt_of_lt_of_le (by decide) hNN) (xG_1 rfl) rfl hin1 14 (by decide) mw_229 rfl dX1_copyFrom_139 ?_
  refine lv_iconst (v := iI (0)) hE.1 hE.2.1 dX1_copyFrom_142 (by decide) ?_
  refine lv_bipush (v := iI (9)) hE.1 hE.2.1 dX1_copyFrom_143 (by decide) ?_
  refine x_copyi (rest := []) (sp := iI (0)) (dp := iI (0)) (n := iI (9)) (n0 := 9) (n1 := 9) hE hl.1 hK hN hP hS mw_678 mw_680 mw_679 mw_130 99 7 (Nat.lt_of_lt_of_le (by decide) hNN) (Nat.lt_of_lt_of_le (by decide) hNN) (xG_10 rfl) (fun _ => xG_10 rfl) (by decide) (by decide) (by decide) (by decide) (by decide) (by decide) (by decide) dX1_copyFrom_145 (fun ar26 H locs ha26 hP hS => ?_)
  refine lv_aload_n hE.1 hE.2.1 dX1_copyFrom_148 rfl (lv_at hl 1 rfl) ?_
  refine x_get (x := .ref (ad 100)) hE hK hP 95 (Nat.lt_of_lt_of_le (by decide) hNN) (xG_1 rfl) rfl hin1 15 (by decide) mw_231 rfl dX1_copyFrom_149 ?_
  refine lv_iconst (v := iI (0)) hE.1 hE.2.1 dX1_copyFrom_152 (by decide) ?_
  refine lv_aload_n hE.1 hE.2.1 dX1_copyFrom_153 rfl (lv_at hl 0 rfl) ?_
  refine x_get (x := .ref (ad 8)) hE hK hP 3 (Nat.lt_of_lt_of_le (by decide) hNN) (xG_1 rfl) rfl hin1 15 (by decide) mw_231 rfl dX1_copyFrom_154 ?_
  refine lv_iconst (v := iI (0)) hE.1 hE.2.1 dX1_copyFrom_157 (by decide) ?_
  refine lv_bipush (v := iI (9)) hE.1 hE.2.1 dX1_copyFrom_158 (by decide) ?_
  refine x_copyi (rest := []) (sp := iI (0)) (dp := iI (0)) (n := iI (9)) (n0 := 9) (n1 := 9) hE hl.1 hK hN hP hS mw_678 mw_680 mw_679 mw_130 100 8 (Nat.lt_of_lt_of_le (by decide) hNN) (Nat.lt_of_lt_of_le (by decide) hNN) (xG_10 rfl) (fun _ => xG_10 rfl) (by decide) (by decide) (by decide) (by decide) (by decide) (by decide) (by decide) dX1_copyFrom_160 (fun ar27 H locs ha27 hP hS => ?_)
  refine lv_aload_n hE.1 hE.2.1 dX1_copyFrom_163 rfl (lv_at hl 1 rfl) ?_
  refine x_get (x := .ref (ad 101)) hE hK hP 95 (Nat.lt_of_lt_of_le (by decide) hNN) (xG_1 rfl) rfl hin1 16 (by decide) mw_235 rfl dX1_copyFrom_164 ?_
  refine lv_iconst (v := iI (0)) hE.1 hE.2.1 dX1_copyFrom_167 (by decide) ?_
  refine lv_aload_n hE.1 hE.2.1 dX1_copyFrom_168 rfl (lv_at hl 0 rfl) ?_
  refine x_get (x := .ref (ad 9)) hE hK hP 3 (Nat.lt_of_lt_of_le (by decide) hNN) (xG_1 rfl) rfl hin1 16 (by decide) mw_235 rfl dX1_copyFrom_169 ?_
  refine lv_iconst (v := iI (0)) hE.1 hE.2.1 dX1_copyFrom_172 (by decide) ?_
  refine lv_bipush (v := iI (9)) hE.1 hE.2.1 dX1_copyFrom_173 (by decide) ?_
  refine x_copyi (rest := []) (sp := iI (0)) (dp := iI (0)) (n := iI (9)) (n0 := 9) (n1 := 9) hE hl.1 hK hN hP hS mw_678 mw_680 mw_679 mw_130 101 9 (Nat.lt_of_lt_of_le (by decide) hNN) (Nat.lt_of_lt_of_le (by decide) hNN) (xG_10 rfl) (fun _ => xG_10 rfl) (by decide) (by decide) (by decide) (by decide) (by decide) (by decide) (by decide) dX1_copyFrom_175 (fun ar28 H locs ha28 hP hS => ?_)
  refine lv_aload_n hE.1 hE.2.1 dX1_copyFrom_178 rfl (lv_at hl 1 rfl) ?_
  refine x_get (x := .ref (ad 102)) hE hK hP 95 (Nat.lt_of_lt_of_le (by decide) hNN) (xG_1 rfl) rfl hin1 17 (by decide) mw_239 rfl dX1_copyFrom_179 ?_
  refine lv_iconst (v := iI (0)) hE.1 hE.2.1 dX1_copyFrom_182 (by decide) ?_
  refine lv_aload_n hE.1 hE.2.1 dX1_copyFrom_183 rfl (lv_at hl 0 rfl) ?_
  refine x_get (x := .ref (ad 10)) hE hK hP 3 (Nat.lt_of_lt_of_le (by decide) hNN) (xG_1 rfl) rfl hin1 17 (by decide) mw_239 rfl dX1_copyFrom_184 ?_
  refine lv_iconst (v := iI (0)) hE.1 hE.2.1 dX1_copyFrom_187 (by decide) ?_
  refine lv_iconst (v := iI (3)) hE.1 hE.2.1 dX1_copyFrom_188 (by decide) ?_
  refine x_copyi (rest := []) (sp := iI (0)) (dp := iI (0)) (n := iI (3)) (n0 := 3) (n1 := 3) hE hl.1 hK hN hP hS mw_678 mw_680 mw_679 mw_130 102 10 (Nat.lt_of_lt_of_le (by decide) hNN) (Nat.lt_of_lt_of_le (by decide) hNN) (xG_10 rfl) (fun _ => xG_10 rfl) (by decide) (by decide) (by decide) (by decide) (by decide) (by decide) (by decide) dX1_copyFrom_189 (fun ar29 H locs ha29 hP hS => ?_)
  refine lv_aload_n hE.1 hE.2.1 dX1_copyFrom_192 rfl (lv_at hl 1 rfl) ?_
  refine x_get (x := .ref (ad 103)) hE hK hP 95 (Nat.lt_of_lt_of_le (by decide) hNN) (xG_1 rfl) rfl hin1 18 (by decide) mw_241 rfl dX1_copyFrom_193 ?_
  refine lv_iconst (v := iI (0)) hE.1 hE.2.1 dX1_copyFrom_196 (by decide) ?_
  refine lv_aload_n hE.1 hE.2.1 dX1_copyFrom_197 rfl (lv_at hl 0 rfl) ?_
  refine x_get (x := .ref (ad 11)) hE hK hP 3 (Nat.lt_of_lt_of_le (by decide) hNN) (xG_1 rfl) rfl hin1 18 (by decide) mw_241 rfl dX1_copyFrom_198 ?_
  refine lv_iconst (v := iI (0)) hE.1 hE.2.1 dX1_copyFrom_201 (by decide) ?_
  refine lv_bipush (v := iI (8)) hE.1 hE.2.1 dX1_copyFrom_202 (by decide) ?_
  refine x_copyi (rest := []) (sp := iI (0)) (dp := iI (0)) (n := iI (8)) (n0 := 8) (n1 := 8) hE hl.1 hK hN hP hS mw_678 mw_680 mw_679 mw_130 103 11 (Nat.lt_of_lt_of_le (by decide) hNN) (Nat.lt_of_lt_of_le (by decide) hNN) (xG_10 rfl) (fun _ => xG_10 rfl) (by decide) (by decide) (by decide) (by decide) (by decide) (by decide) (by decide) dX1_copyFrom_204 (fun ar30 H locs ha30 hP hS => ?_)
  refine lv_aload_n hE.1 hE.2.1 dX1_copyFrom_207 rfl (lv_at hl 1 rfl) ?_
  refine x_get (x := .ref (ad 104)) hE hK hP 95 (Nat.lt_of_lt_of_le (by decide) hNN) (xG_1 rfl) rfl hin1 19 (by decide) mw_244 rfl dX1_copyFrom_208 ?_
  refine lv_iconst (v := iI (0)) hE.1 hE.2.1 dX1_copyFrom_211 (by decide) ?_
  refine lv_aload_n hE.1 hE.2.1 dX1_copyFrom_212 rfl (lv_at hl 0 rfl) ?_
  refine x_get (x := .ref (ad 12)) hE hK hP 3 (Nat.lt_of_lt_of_le (by decide) hNN) (xG_1 rfl) rfl hin1 19 (by decide) mw_244 rfl dX1_copyFrom_213 ?_
  refine lv_iconst (v := iI (0)) hE.1 hE.2.1 dX1_copyFrom_216 (by decide) ?_
  refine lv_bipush (v := iI (8)) hE.1 hE.2.1 dX1_copyFrom_217 (by decide) ?_
  refine x_copyi (rest := []) (sp := iI (0)) (dp := iI (0)) (n := iI (8)) (n0 := 8) (n1 := 8) hE hl.1 hK hN hP hS mw_678 mw_680 mw_679 mw_130 104 12 (Nat.lt_of_lt_of_le (by decide) hNN) (Nat.lt_of_lt_of_le (by decide) hNN) (xG_10 rfl) (fun _ => xG_10 rfl) (by decide) (by decide) (by decide) (by decide) (by decide) (by decide) (by decide) dX1_copyFrom_219 (fun ar31 H locs ha31 hP hS => ?_)
  exact kr _ _ _ _ _ _ _ ⟨hI, fun i j h => ((up_oth hv22 (fun q => h (by rcases q with ⟨rfl, rfl⟩; decide))).trans ((up_oth hv20 (fun q => h (by rcases q with ⟨rfl, rfl⟩; decide))).trans ((up_oth hv18 (fun q => h (by rcases q with ⟨rfl, rfl⟩; decide))).trans ((up_oth hv16 (fun q => h (by rcases q with ⟨rfl, rfl⟩; decide))).trans ((up_oth hv14 (fun q => h (by rcases q with ⟨rfl, rfl⟩; decide))).trans ((up_oth hv12 (fun q => h (by rcases q with ⟨rfl, rfl⟩; decide))).trans ((up_oth hv10 (fun q => h (by rcases q with ⟨rfl, rfl⟩; decide))).trans ((up_oth hv8 (fun q => h (by rcases q with ⟨rfl, rfl⟩; decide))).trans ((up_oth hv6 (fun q => h (by rcases q with ⟨rfl, rfl⟩; decide))).trans ((up_oth hv4 (fun q => h (by rcases q with ⟨rfl, rfl⟩; decide))).trans (up_oth hv2 (fun q => h (by rcases q with ⟨rfl, rfl⟩; decide)))))))))))))⟩ hP hS dX1_copyFrom_222

set_option maxHeartbeats 4000000 in
set_option maxRecDepth 100000 in
theorem s_X7_copyFrom_23_105 (l : Launch) (D : va_G) (K : Nat → ClassId) (ad : Nat → Nat) (mm : Option Nat) (N : Nat) (hNN : 132 ≤ N) (v ar : sI) (al : sL) (hI : XI v) : Met l yX7_copyFrom (wM yX7_copyFrom cX7_copyFrom 2 none) (rmD 1) (va_Pc [.ref (ad 23), .ref (ad 105)] (wPre D K ad (xG ad K mm) N v ar al)) (va_Qv (fun u : sT => XI u.1 ∧ (∀ i j : Nat, (i, j) ∉ ([(23, 2), (23, 3), (23, 4), (23, 5), (23, 8), (23, 9)] : List (Nat × Nat)) → u.1 i j = v i j)) (wB D ad (xG ad K mm) N) (inW ad N)) 0 0 (inW ad N) := by
  refine s_metV (by decide) (Nat.le_of_ble_eq_true rfl) ?_
  intro p e s m below meth c ls args Q hE hB hl kr
  have hE : CallFix p m c cX7_copyFrom 2 s args tbG "TaleCourt$Telling" := hE
  obtain ⟨hP, hK, hN⟩ := hB
  have hS : va_S (inW ad N) s.heap s.heap [] := va_S.rf
  have hl : lv_has ls 2 [(0, .ref (ad 23)), (1, .ref (ad 105))] := hl
  refine lv_aload_n hE.1 hE.2.1 dX7_copyFrom_0 rfl (lv_at hl 0 rfl) ?_
  refine lv_aload_n hE.1 hE.2.1 dX7_copyFrom_1 rfl (lv_at hl 1 rfl) ?_
  obtain ⟨z1, hz1, ez1⟩ := XI_get hI 105 2 0 18 (by decide)
  refine x_get (x := .int (v 105 2)) hE hK hP 105 (Nat.lt_of_lt_of_le (by decide) hNN) (xG_7 rfl) rfl hin7 2 (by decide) mw_301 rfl dX7_copyFrom_2 ?_
  refine x_top (y := iI (z1)) ez1 ?_
  refine x_put (x := iI (z1)) hE hK hN hP hS 23 (Nat.lt_of_lt_of_le (by decide) hNN) (xG_7 rfl) rfl hin7 tyX7 tyX7_ok nmX7 2 (by decide) mw_301 rfl rfl rfl (Nat.le_of_ble_eq_true rfl) (xG_7 rfl) dX7_copyFrom_5 (fun v2 H locs hv2 hP hS => ?_)
  have hI := XI_putB (z := z1) hI hv2 0 18 (by omega) (by decide) (by omega)
  refine lv_aload_n hE.1 hE.2.1 dX7_copyFrom_8 rfl (lv_at hl 0 rfl) ?_
  refine lv_aload_n hE.1 hE.2.1 dX7_copyFrom_9 rfl (lv_at hl 1 rfl) ?_
  obtain ⟨z3, hz3, ez3⟩ := iI_of (v2 105 3)
  refine x_get (x := .int (v2 105 3)) hE hK hP 105 (Nat.lt_of_lt_of_le (by decide) hNN) (xG_7 rfl) rfl hin7 3 (by decide) mw_305 rfl dX7_copyFrom_10 ?_
  refine x_top (y := iI (z3)) ez3 ?_
  refine x_put (x := iI (z3)) hE hK hN hP hS 23 (Nat.lt_of_lt_of_le (by decide) hNN) (xG_7 rfl) rfl hin7 tyX7 tyX7_ok nmX7 3 (by decide) mw_305 rfl rfl rfl (Nat.le_of_ble_eq_true rfl) (xG_7 rfl) dX7_copyFrom_13 (fun v4 H locs hv4 hP hS => ?_)
  have hI := XI_putN hI hv4 (by decide)
  refine lv_aload_n hE.1 hE.2.1 dX7_copyFrom_16 rfl (lv_at hl 0 rfl) ?_
  refine lv_aload_n hE.1 hE.2.1 dX7_copyFrom_17 rfl (lv_at hl 1 rfl) ?_
  obtain ⟨z5, hz5, ez5⟩ := iI_of (v4 105 4)
  refine x_get (x := .int (v4 105 4)) hE hK hP 105 (Nat.lt_of_lt_of_le (by decide) hNN) (xG_7 rfl) rfl hin7 4 (by decide) mw_309 rfl dX7_copyFrom_18 ?_
  refine x_top (y := iI (z5)) ez5 ?_
  refine x_put (x := iI (z5)) hE hK hN hP hS 23 (Nat.lt_of_lt_of_le (by decide) hNN) (xG_7 rfl) rfl hin7 tyX7 tyX7_ok nmX7 4 (by decide) mw_309 rfl rfl rfl (Nat.le_of_ble_eq_true rfl) (xG_7 rfl) dX7_copyFrom_21 (fun v6 H locs hv6 hP hS => ?_)
  have hI := XI_putN hI hv6 (by decide)
  refine lv_aload_n hE.1 hE.2.1 dX7_copyFrom_24 rfl (lv_at hl 0 rfl) ?_
  refine lv_aload_n hE.1 hE.2.1 dX7_copyFrom_25 rfl (lv_at hl 1 rfl) ?_
  obtain ⟨z7, hz7, ez7⟩ := iI_of (v6 105 5)
  refine x_get (x := .int (v6 105 5)) hE hK hP 105 (Nat.lt_of_lt_of_le (by decide) hNN) (xG_7 rfl) rfl hin7 5 (by decide) mw_312 rfl dX7_copyFrom_26 ?_
  refine x_top (y := iI (z7)) ez7 ?_
  refine x_put (x := iI (z7)) hE hK hN hP hS 23 (Nat.lt_of_lt_of_le (by decide) hNN) (xG_7 rfl) rfl hin7 tyX7 tyX7_ok nmX7 5 (by decide) mw_312 rfl rfl rfl (Nat.le_of_ble_eq_true rfl) (xG_7 rfl) dX7_copyFrom_29 (fun v8 H locs hv8 hP hS => ?_)
  have hI := XI_putN hI hv8 (by decide)
  refine lv_aload_n hE.1 hE.2.1 dX7_copyFrom_32 rfl (lv_at hl 0 rfl) ?_
  refine lv_aload_n hE.1 hE.2.1 dX7_copyFrom_33 rfl (lv_at hl 1 rfl) ?_
  obtain ⟨z9, hz9, ez9⟩ := iI_of (v8 105 8)
  refine x_get (x := .int (v8 105 8)) hE hK hP 105 (Nat.lt_of_lt_of_le (by decide) hNN) (xG_7 rfl) rfl hin7 8 (by decide) mw_317 rfl dX7_copyFrom_34 ?_
  refine x_top (y := iI (z9)) ez9 ?_
  refine x_put (x := iI (z9)) hE hK hN hP hS 23 (Nat.lt_of_lt_of_le (by decide) hNN) (xG_7 rfl) rfl hin7 tyX7 tyX7_ok nmX7 8 (by decide) mw_317 rfl rfl rfl (Nat.le_of_ble_eq_true rfl) (xG_7 rfl) dX7_copyFrom_37 (fun v10 H locs hv10 hP hS => ?_)
  have hI := XI_putN hI hv10 (by decide)
  refine lv_aload_n hE.1 hE.2.1 dX7_copyFrom_40 rfl (lv_at hl 0 rfl) ?_
  refine lv_aload_n hE.1 hE.2.1 dX7_copyFrom_41 rfl (lv_at hl 1 rfl) ?_
  obtain ⟨z11, hz11, ez11⟩ := iI_of (v10 105 9)
  refine x_get (x := .int (v10 105 9)) hE hK hP 105 (Nat.lt_of_lt_of_le (by decide) hNN) (xG_7 rfl) rfl hin7 9 (by decide) mw_318 rfl dX7_copyFrom_42 ?_
  refine x_top (y := iI (z11)) ez11 ?_
  refine x_put (x := iI (z11)) hE hK hN hP hS 23 (Nat.lt_of_lt_of_le (by decide) hNN) (xG_7 rfl) rfl hin7 tyX7 tyX7_ok nmX7 9 (by decide) mw_318 rfl rfl rfl (Nat.le_of_ble_eq_true rfl) (xG_7 rfl) dX7_copyFrom_45 (fun v12 H locs hv12 hP hS => ?_)
  have hI := XI_putN hI hv12 (by decide)
  refine lv_aload_n hE.1 hE.2.1 dX7_copyFrom_48 rfl (lv_at hl 1 rfl) ?_
  refine x_get (x := .ref (ad 106)) hE hK hP 105 (Nat.lt_of_lt_of_le (by decide) hNN) (xG_7 rfl) rfl hin7 0 (by decide) mw_295 rfl dX7_copyFrom_49 ?_
  refine lv_iconst (v := iI (0)) hE.1 hE.2.1 dX7_copyFrom_52 (by decide) ?_
  refine lv_aload_n hE.1 hE.2.1 dX7_copyFrom_53 rfl (lv_at hl 0 rfl) ?_
  refine x_get (x := .ref (ad 24)) hE hK hP 23 (Nat.lt_of_lt_of_le (by decide) hNN) (xG_7 rfl) rfl hin7 0 (by decide) mw_295 rfl dX7_copyFrom_54 ?_
  refine lv_iconst (v := iI (0)) hE.1 hE.2.1 dX7_copyFrom_57 (by decide) ?_
  refine lv_bipush (v := iI (18)) hE.1 hE.2.1 dX7_copyFrom_58 (by decide) ?_
  refine x_copyi (rest := []) (sp := iI (0)) (dp := iI (0)) (n := iI (18)) (n0 := 18) (n1 := 18) hE hl.1 hK hN hP hS mw_912 mw_680 mw_679 mw_130 106 24 (Nat.lt_of_lt_of_le (by decide) hNN) (Nat.lt_of_lt_of_le (by decide) hNN) (xG_10 rfl) (fun _ => xG_10 rfl) (by decide) (by decide) (by decide) (by decide) (by decide) (by decide) (by decide) dX7_copyFrom_60 (fun ar13 H locs ha13 hP hS => ?_)
  refine lv_aload_n hE.1 hE.2.1 dX7_copyFrom_63 rfl (lv_at hl 1 rfl) ?_
  refine x_get (x := .ref (ad 107)) hE hK hP 105 (Nat.lt_of_lt_of_le (by decide) hNN) (xG_7 rfl) rfl hin7 1 (by decide) mw_299 rfl dX7_copyFrom_64 ?_
  refine lv_iconst (v := iI (0)) hE.1 hE.2.1 dX7_copyFrom_67 (by decide) ?_
  refine lv_aload_n hE.1 hE.2.1 dX7_copyFrom_68 rfl (lv_at hl 0 rfl) ?_
  refine x_get (x := .ref (ad 25)) hE hK hP 23 (Nat.lt_of_lt_of_le (by decide) hNN) (xG_7 rfl) rfl hin7 1 (by decide) mw_299 rfl dX7_copyFrom_69 ?_
  refine lv_iconst (v := iI (0)) hE.1 hE.2.1 dX7_copyFrom_72 (by decide) ?_
  refine lv_bipush (v := iI (9)) hE.1 hE.2.1 dX7_copyFrom_73 (by decide) ?_
  refine x_copyi (rest := []) (sp := iI (0)) (dp := iI (0)) (n := iI (9)) (n0 := 9) (n1 := 9) hE hl.1 hK hN hP hS mw_912 mw_680 mw_679 mw_130 107 25 (Nat.lt_of_lt_of_le (by decide) hNN) (Nat.lt_of_lt_of_le (by decide) hNN) (xG_10 rfl) (fun _ => xG_10 rfl) (by decide) (by decide) (by decide) (by decide) (by decide) (by decide) (by decide) dX7_copyFrom_75 (fun ar14 H locs ha14 hP hS => ?_)
  refine lv_aload_n hE.1 hE.2.1 dX7_copyFrom_78 rfl (lv_at hl 1 rfl) ?_
  refine x_get (x := .ref (ad 108)) hE hK hP 105 (Nat.lt_of_lt_of_le (by decide) hNN) (xG_7 rfl) rfl hin7 7 (by decide) mw_316 rfl dX7_copyFrom_79 ?_
  refine lv_iconst (v := iI (0)) hE.1 hE.2.1 dX7_copyFrom_82 (by decide) ?_
  refine lv_aload_n hE.1 hE.2.1 dX7_copyFrom_83 rfl (lv_at hl 0 rfl) ?_
  refine x_get (x := .ref (ad 26)) hE hK hP 23 (Nat.lt_of_lt_of_le (by decide) hNN) (xG_7 rfl) rfl hin7 7 (by decide) mw_316 rfl dX7_copyFrom_84 ?_
  refine lv_iconst (v := iI (0)) hE.1 hE.2.1 dX7_copyFrom_87 (by decide) ?_
  refine lv_iconst (v := iI (3)) hE.1 hE.2.1 dX7_copyFrom_88 (by decide) ?_
  refine x_copyi (rest := []) (sp := iI (0)) (dp := iI (0)) (n := iI (3)) (n0 := 3) (n1 := 3) hE hl.1 hK hN hP hS mw_912 mw_680 mw_679 mw_130 108 26 (Nat.lt_of_lt_of_le (by decide) hNN) (Nat.lt_of_lt_of_le (by decide) hNN) (xG_10 rfl) (fun _ => xG_10 rfl) (by decide) (by decide) (by decide) (by decide) (by decide) (by decide) (by decide) dX7_copyFrom_89 (fun ar15 H locs ha15 hP hS => ?_)
  refine lv_aload_n hE.1 hE.2.1 dX7_copyFrom_92 rfl (lv_at hl 1 rfl) ?_
  refine x_get (x := .ref (ad 109)) hE hK hP 105 (Nat.lt_of_lt_of_le (by decide) hNN) (xG_7 rfl) rfl hin7 10 (by decide) mw_319 rfl dX7_copyFrom_93 ?_
  refine lv_iconst (v := iI (0)) hE.1 hE.2.1 dX7_copyFrom_96 (by decide) ?_
  refine lv_aload_n hE.1 hE.2.1 dX7_copyFrom_97 rfl (lv_at hl 0 rfl) ?_
  refine x_get (x := .ref (ad 27)) hE hK hP 23 (Nat.lt_of_lt_of_le (by decide) hNN) (xG_7 rfl) rfl hin7 10 (by decide) mw_319 rfl dX7_copyFrom_98 ?_
  refine lv_iconst (v := iI (0)) hE.1 hE.2.1 dX7_copyFrom_101 (by decide) ?_
  refine lv_bipush (v := iI (18)) hE.1 hE.2.1 dX7_copyFrom_102 (by decide) ?_
  refine x_copyi (rest := []) (sp := iI (0)) (dp := iI (0)) (n := iI (18)) (n0 := 18) (n1 := 18) hE hl.1 hK hN hP hS mw_912 mw_680 mw_679 mw_130 109 27 (Nat.lt_of_lt_of_le (by decide) hNN) (Nat.lt_of_lt_of_le (by decide) hNN) (xG_10 rfl) (fun _ => xG_10 rfl) (by decide) (by decide) (by decide) (by decide) (by decide) (by decide) (by decide) dX7_copyFrom_104 (fun ar16 H locs ha16 hP hS => ?_)
  refine lv_aload_n hE.1 hE.2.1 dX7_copyFrom_107 rfl (lv_at hl 1 rfl) ?_
  refine x_get (x := .ref (ad 110)) hE hK hP 105 (Nat.lt_of_lt_of_le (by decide) hNN) (xG_7 rfl) rfl hin7 11 (by decide) mw_320 rfl dX7_copyFrom_108 ?_
  refine lv_iconst (v := iI (0)) hE.1 hE.2.1 dX7_copyFrom_111 (by decide) ?_
  refine lv_aload_n hE.1 hE.2.1 dX7_copyFrom_112 rfl (lv_at hl 0 rfl) ?_
  refine x_get (x := .ref (ad 28)) hE hK hP 23 (Nat.lt_of_lt_of_le (by decide) hNN) (xG_7 rfl) rfl hin7 11 (by decide) mw_320 rfl dX7_copyFrom_113 ?_
  refine lv_iconst (v := iI (0)) hE.1 hE.2.1 dX7_copyFrom_116 (by decide) ?_
  refine lv_bipush (v := iI (18)) hE.1 hE.2.1 dX7_copyFrom_117 (by decide) ?_
  refine x_copyi (rest := []) (sp := iI (0)) (dp := iI (0)) (n := iI (18)) (n0 := 18) (n1 := 18) hE hl.1 hK hN hP hS mw_912 mw_680 mw_679 mw_130 110 28 (Nat.lt_of_lt_of_le (by decide) hNN) (Nat.lt_of_lt_of_le (by decide) hNN) (xG_10 rfl) (fun _ => xG_10 rfl) (by decide) (by decide) (by decide) (by decide) (by decide) (by decide) (by decide) dX7_copyFrom_119 (fun ar17 H locs ha17 hP hS => ?_)
  refine lv_aload_n hE.1 hE.2.1 dX7_copyFrom_122 rfl (lv_at hl 1 rfl) ?_
  refine x_get (x := .ref (ad 111)) hE hK hP 105 (Nat.lt_of_lt_of_le (by decide) hNN) (xG_7 rfl) rfl hin7 12 (by decide) mw_321 rfl dX7_copyFrom_123 ?_
  refine lv_iconst (v := iI (0)) hE.1 hE.2.1 dX7_copyFrom_126 (by decide) ?_
  refine lv_aload_n hE.1 hE.2.1 dX7_copyFrom_127 rfl (lv_at hl 0 rfl) ?_
  refine x_get (x := .ref (ad 29)) hE hK hP 23 (Nat.lt_of_lt_of_le (by decide) hNN) (xG_7 rfl) rfl hin7 12 (by decide) mw_321 rfl dX7_copyFrom_128 ?_
  refine lv_iconst (v := iI (0)) hE.1 hE.2.1 dX7_copyFrom_131 (by decide) ?_
  refine lv_bipush (v := iI (18)) hE.1 hE.2.1 dX7_copyFrom_132 (by decide) ?_
  refine x_copyi (rest := []) (sp := iI (0)) (dp := iI (0)) (n := iI (18)) (n0 := 18) (n1 := 18) hE hl.1 hK hN hP hS mw_912 mw_680 mw_679 mw_130 111 29 (Nat.lt_of_lt_of_le (by decide) hNN) (Nat.lt_of_lt_of_le (by decide) hNN) (xG_10 rfl) (fun _ => xG_10 rfl) (by decide) (by decide) (by decide) (by decide) (by decide) (by decide) (by decide) dX7_copyFrom_134 (fun ar18 H locs ha18 hP hS => ?_)
  refine lv_aload_n hE.1 hE.2.1 dX7_copyFrom_137 rfl (lv_at hl 1 rfl) ?_
  refine x_get (x := .ref (ad 112)) hE hK hP 105 (Nat.lt_of_lt_of_le (by decide) hNN) (xG_7 rfl) rfl hin7 13 (by decide) mw_322 rfl dX7_copyFrom_138 ?_
  refine lv_iconst (v := iI (0)) hE.1 hE.2.1 dX7_copyFrom_141 (by decide) ?_
  refine lv_aload_n hE.1 hE.2.1 dX7_copyFrom_142 rfl (lv_at hl 0 rfl) ?_
  refine x_get (x := .ref (ad 30)) hE hK hP 23 (Nat.lt_of_lt_of_le (by decide) hNN) (xG_7 rfl) rfl hin7 13 (by decide) mw_322 rfl dX7_copyFrom_143 ?_
  refine lv_iconst (v := iI (0)) hE.1 hE.2.1 dX7_copyFrom_146 (by decide) ?_
  refine lv_bipush (v := iI (18)) hE.1 hE.2.1 dX7_copyFrom_147 (by decide) ?_
  refine x_copyi (rest := []) (sp := iI (0)) (dp := iI (0)) (n := iI (18)) (n0 := 18) (n1 := 18) hE hl.1 hK hN hP hS mw_912 mw_680 mw_679 mw_130 112 30 (Nat.lt_of_lt_of_le (by decide) hNN) (Nat.lt_of_lt_of_le (by decide) hNN) (xG_10 rfl) (fun _ => xG_10 rfl) (by decide) (by decide) (by decide) (by decide) (by decide) (by decide) (by decide) dX7_copyFrom_149 (fun ar19 H locs ha19 hP hS => ?_)
  exact kr _ _ _ _ _ _ _ ⟨hI, fun i j h => ((up_oth hv12 (fun q => h (by rcases q with ⟨rfl, rfl⟩; decide))).trans ((up_oth hv10 (fun q => h (by rcases q with ⟨rfl, rfl⟩; decide))).trans ((up_oth hv8 (fun q => h (by rcases q with ⟨rfl, rfl⟩; decide))).trans ((up_oth hv6 (fun q => h (by rcases q with ⟨rfl, rfl⟩; decide))).trans ((up_oth hv4 (fun q => h (by rcases q with ⟨rfl, rfl⟩; decide))).trans (up_oth hv2 (fun q => h (by rcases q with ⟨rfl, rfl⟩; decide))))))))⟩ hP hS dX7_copyFrom_152

set_option maxHeartbeats 4000000 in
set_option maxRecDepth 100000 in
theorem s_X1_copyFrom_3_114 (l : Launch) (D : va_G) (K : Nat → ClassId) (ad : Nat → Nat) (mm : Option Nat) (N : Nat) (hNN : 132 ≤ N) (v ar : sI) (al : sL) (hI : XI v) : Met l yX1_copyFrom (wM yX1_copyFrom cX1_copyFrom 2 none) (rmD 1) (va_Pc [.ref (ad 3), .ref (ad 114)] (wPre D K ad (xG ad K mm) N v ar al)) (va_Qv (fun u : sT => XI u.1 ∧ (∀ i j : Nat, (i, j) ∉ ([(3, 0), (3, 1), (3, 2), (3, 3), (3, 4), (3, 5), (3, 6), (3, 7), (3, 8), (3, 9), (3, 10)] : List (Nat × Nat)) → u.1 i j = v i j)) (wB D ad (xG ad K mm) N) (inW ad N)) 0 0 (inW ad N) := by
  refine s_metV (by decide) (Nat.le_of_ble_eq_true rfl) ?_
  intro p e s m below meth c ls args Q hE hB hl kr
  have hE : CallFix p m c cX1_copyFrom 2 s args tbG "TaleCourt$Court" := hE
  obtain ⟨hP, hK, hN⟩ := hB
  have hS : va_S (inW ad N) s.heap s.heap [] := va_S.rf
  have hl : lv_has ls 2 [(0, .ref (ad 3)), (1, .ref (ad 114))] := hl
  refine lv_aload_n hE.1 hE.2.1 dX1_copyFrom_0 rfl (lv_at hl 0 rfl) ?_
  refine lv_aload_n hE.1 hE.2.1 dX1_copyFrom_1 rfl (lv_at hl 1 rfl) ?_
  obtain ⟨z1, hz1, ez1⟩ := XI_get hI 114 0 0 3 (by decide)
  refine x_get (x := .int (v 114 0)) hE hK hP 114 (Nat.lt_of_lt_of_le (by decide) hNN) (xG_1 rfl) rfl hin1 0 (by decide) mw_178 rfl dX1_copyFrom_2 ?_
  refine x_top (y := iI (z1)) ez1 ?_
  refine x_put (x := iI (z1)) hE hK hN hP hS 3 (Nat.lt_of_lt_of_le (by decide) hNN) (xG_1 rfl) rfl hin1 tyX1 tyX1_ok nmX1 0 (by decide) mw_178 rfl rfl rfl (Nat.le_of_ble_eq_true rfl) (xG_1 rfl) dX1_copyFrom_5 (fun v2 H locs hv2 hP hS => ?_)
  have hI := XI_putB (z := z1) hI hv2 0 3 (by omega) (by decide) (by omega)
  refine lv_aload_n hE.1 hE.2.1 dX1_copyFrom_8 rfl (lv_at hl 0 rfl) ?_
  refine lv_aload_n hE.1 hE.2.1 dX1_copyFrom_9 rfl (lv_at hl 1 rfl) ?_
  obtain ⟨z3, hz3, ez3⟩ := iI_of (v2 114 1)
  refine x_get (x := .int (v2 114 1)) hE hK hP 114 (Nat.lt_of_lt_of_le (by decide) hNN) (xG_1 rfl) rfl hin1 1 (by decide) mw_182 rfl dX1_copyFrom_10 ?_
  refine x_top (y := iI (z3)) ez3 ?_
  refine x_put (x := iI (z3)) hE hK hN hP hS 3 (Nat.lt_of_lt_of_le (by decide) hNN) (xG_1 rfl) rfl hin1 tyX1 tyX1_ok nmX1 1 (by decide) mw_182 rfl rfl rfl (Nat.le_of_ble_eq_true rfl) (xG_1 rfl) dX1_copyFrom_13 (fun v4 H locs hv4 hP hS => ?_)
  have hI := XI_putN hI hv4 (by decide)
  refine lv_aload_n hE.1 hE.2.1 dX1_copyFrom_16 rfl (lv_at hl 0 rfl) ?_
  refine lv_aload_n hE.1 hE.2.1 dX1_copyFrom_17 rfl (lv_at hl 1 rfl) ?_
  obtain ⟨z5, hz5, ez5⟩ := XI_get hI 114 2 0 9 (by decide)
  refine x_get (x := .int (v4 114 2)) hE hK hP 114 (Nat.lt_of_lt_of_le (by decide) hNN) (xG_1 rfl) rfl hin1 2 (by decide) mw_187 rfl dX1_copyFrom_18 ?_
  refine x_top (y := iI (z5)) ez5 ?_
  refine x_put (x := iI (z5)) hE hK hN hP hS 3 (Nat.lt_of_lt_of_le (by decide) hNN) (xG_1 rfl) rfl hin1 tyX1 tyX1_ok nmX1 2 (by decide) mw_187 rfl rfl rfl (Nat.le_of_ble_eq_true rfl) (xG_1 rfl) dX1_copyFrom_21 (fun v6 H locs hv6 hP hS => ?_)
  have hI := XI_putB (z := z5) hI hv6 0 9 (by omega) (by decide) (by omega)
  refine lv_aload_n hE.1 hE.2.1 dX1_copyFrom_24 rfl (lv_at hl 0 rfl) ?_
  refine lv_aload_n hE.1 hE.2.1 dX1_copyFrom_25 rfl (lv_at hl 1 rfl) ?_
  obtain ⟨z7, hz7, ez7⟩ := XI_get hI 114 3 0 8 (by decide)
  refine x_get (x := .int (v6 114 3)) hE hK hP 114 (Nat.lt_of_lt_of_le (by decide) hNN) (xG_1 rfl) rfl hin1 3 (by decide) mw_190 rfl dX1_copyFrom_26 ?_
  refine x_top (y := iI (z7)) ez7 ?_
  refine x_put (x := iI (z7)) hE hK hN hP hS 3 (Nat.lt_of_lt_of_le (by decide) hNN) (xG_1 rfl) rfl hin1 tyX1 tyX1_ok nmX1 3 (by decide) mw_190 rfl rfl rfl (Nat.le_of_ble_eq_true rfl) (xG_1 rfl) dX1_copyFrom_29 (fun v8 H locs hv8 hP hS => ?_)
  have hI := XI_putB (z := z7) hI hv8 0 8 (by omega) (by decide) (by omega)
  refine lv_aload_n hE.1 hE.2.1 dX1_copyFrom_32 rfl (lv_at hl 0 rfl) ?_
  refine lv_aload_n hE.1 hE.2.1 dX1_copyFrom_33 rfl (lv_at hl 1 rfl) ?_
  obtain ⟨z9, hz9, ez9⟩ := iI_of (v8 114 4)
  refine x_get (x := .int (v8 114 4)) hE hK hP 114 (Nat.lt_of_lt_of_le (by decide) hNN) (xG_1 rfl) rfl hin1 4 (by decide) mw_194 rfl dX1_copyFrom_34 ?_
  refine x_top (y := iI (z9)) ez9 ?_
  refine x_put (x := iI (z9)) hE hK hN hP hS 3 (Nat.lt_of_lt_of_le (by decide) hNN) (xG_1 rfl) rfl hin1 tyX1 tyX1_ok nmX1 4 (by decide) mw_194 rfl rfl rfl (Nat.le_of_ble_eq_true rfl) (xG_1 rfl) dX1_copyFrom_37 (fun v10 H locs hv10 hP hS => ?_)
  have hI := XI_putN hI hv10 (by decide)
  refine lv_aload_n hE.1 hE.2.1 dX1_copyFrom_40 rfl (lv_at hl 0 rfl) ?_
  refine lv_aload_n hE.1 hE.2.1 dX1_copyFrom_41 rfl (lv_at hl 1 rfl) ?_
  obtain ⟨z11, hz11, ez11⟩ := iI_of (v10 114 5)
  refine x_get (x := .int (v10 114 5)) hE hK hP 114 (Nat.lt_of_lt_of_le (by decide) hNN) (xG_1 rfl) rfl hin1 5 (by decide) mw_197 rfl dX1_copyFrom_42 ?_
  refine x_top (y := iI (z11)) ez11 ?_
  refine x_put (x := iI (z11)) hE hK hN hP hS 3 (Nat.lt_of_lt_of_le (by decide) hNN) (xG_1 rfl) rfl hin1 tyX1 tyX1_ok nmX1 5 (by decide) mw_197 rfl rfl rfl (Nat.le_of_ble_eq_true rfl) (xG_1 rfl) dX1_copyFrom_45 (fun v12 H locs hv12 hP hS => ?_)
  have hI := XI_putN hI hv12 (by decide)
  refine lv_aload_n hE.1 hE.2.1 dX1_copyFrom_48 rfl (lv_at hl 0 rfl) ?_
  refine lv_aload_n hE.1 hE.2.1 dX1_copyFrom_49 rfl (lv_at hl 1 rfl) ?_
  obtain ⟨z13, hz13, ez13⟩ := iI_of (v12 114 6)
  refine x_get (x := .int (v12 114 6)) hE hK hP 114 (Nat.lt_of_lt_of_le (by decide) hNN) (xG_1 rfl) rfl hin1 6 (by decide) mw_200 rfl dX1_copyFrom_50 ?_
  refine x_top (y := iI (z13)) ez13 ?_
  refine x_put (x := iI (z13)) hE hK hN hP hS 3 (Nat.lt_of_lt_of_le (by decide) hNN) (xG_1 rfl) rfl hin1 tyX1 tyX1_ok nmX1 6 (by decide) mw_200 rfl rfl rfl (Nat.le_of_ble_eq_true rfl) (xG_1 rfl) dX1_copyFrom_53 (fun v14 H locs hv14 hP hS => ?_)
  have hI := XI_putN hI hv14 (by decide)
  refine lv_aload_n hE.1 hE.2.1 dX1_copyFrom_56 rfl (lv_at hl 0 rfl) ?_
  refine lv_aload_n hE.1 hE.2.1 dX1_copyFrom_57 rfl (lv_at hl 1 rfl) ?_
  obtain ⟨z15, hz15, ez15⟩ := iI_of (v14 114 7)
  refine x_get (x := .int (v14 114 7)) hE hK hP 114 (Nat.lt_of_lt_of_le (by decide) hNN) (xG_1 rfl) rfl hin1 7 (by decide) mw_203 rfl dX1_copyFrom_58 ?_
  refine x_top (y := iI (z15)) ez15 ?_
  refine x_put (x := iI (z15)) hE hK hN hP hS 3 (Nat.lt_of_lt_of_le (by decide) hNN) (xG_1 rfl) rfl hin1 tyX1 tyX1_ok nmX1 7 (by decide) mw_203 rfl rfl rfl (Nat.le_of_ble_eq_true rfl) (xG_1 rfl) dX1_copyFrom_61 (fun v16 H locs hv16 hP hS => ?_)
  have hI := XI_putN hI hv16 (by decide)
  refine lv_aload_n hE.1 hE.2.1 dX1_copyFrom_64 rfl (lv_at hl 0 rfl) ?_
  refine lv_aload_n hE.1 hE.2.1 dX1_copyFrom_65 rfl (lv_at hl 1 rfl) ?_
  obtain ⟨z17, hz17, ez17⟩ := iI_of (v16 114 8)
  refine x_get (x := .int (v16 114 8)) hE hK hP 114 (Nat.lt_of_lt_of_le (by decide) hNN) (xG_1 rfl) rfl hin1 8 (by decide) mw_207 rfl dX1_copyFrom_66 ?_
  refine x_top (y := iI (z17)) ez17 ?_
  refine x_put (x := iI (z17)) hE hK hN hP hS 3 (Nat.lt_of_lt_of_le (by decide) hNN) (xG_1 rfl) rfl hin1 tyX1 tyX1_ok nmX1 8 (by decide) mw_207 rfl rfl rfl (Nat.le_of_ble_eq_true rfl) (xG_1 rfl) dX1_copyFrom_69 (fun v18 H locs hv18 hP hS => ?_)
  have hI := XI_putN hI hv18 (by decide)
  refine lv_aload_n hE.1 hE.2.1 dX1_copyFrom_72 rfl (lv_at hl 0 rfl) ?_
  refine lv_aload_n hE.1 hE.2.1 dX1_copyFrom_73 rfl (lv_at hl 1 rfl) ?_
  obtain ⟨z19, hz19, ez19⟩ := iI_of (v18 114 9)
  refine x_get (x := .int (v18 114 9)) hE hK hP 114 (Nat.lt_of_lt_of_le (by decide) hNN) (xG_1 rfl) rfl hin1 9 (by decide) mw_211 rfl dX1_copyFrom_74 ?_
  refine x_top (y := iI (z19)) ez19 ?_
  refine x_put (x := iI (z19)) hE hK hN hP hS 3 (Nat.lt_of_lt_of_le (by decide) hNN) (xG_1 rfl) rfl hin1 tyX1 tyX1_ok nmX1 9 (by decide) mw_211 rfl rfl rfl (Nat.le_of_ble_eq_true rfl) (xG_1 rfl) dX1_copyFrom_77 (fun v20 H locs hv20 hP hS => ?_)
  have hI := XI_putN hI hv20 (by decide)
  refine lv_aload_n hE.1 hE.2.1 dX1_copyFrom_80 rfl (lv_at hl 0 rfl) ?_
  refine lv_aload_n hE.1 hE.2.1 dX1_copyFrom_81 rfl (lv_at hl 1 rfl) ?_
  obtain ⟨z21, hz21, ez21⟩ := iI_of (v20 114 10)
  refine x_get (x := .int (v20 114 10)) hE hK hP 114 (Nat.lt_of_lt_of_le (by decide) hNN) (xG_1 rfl) rfl hin1 10 (by decide) mw_214 rfl dX1_copyFrom_82 ?_
  refine x_top (y := iI (z21)) ez21 ?_
  refine x_put (x := iI (z21)) hE hK hN hP hS 3 (Nat.lt_of_lt_of_le (by decide) hNN) (xG_1 rfl) rfl hin1 tyX1 tyX1_ok nmX1 10 (by decide) mw_214 rfl rfl rfl (Nat.le_of_ble_eq_true rfl) (xG_1 rfl) dX1_copyFrom_85 (fun v22 H locs hv22 hP hS => ?_)
  have hI := XI_putN hI hv22 (by decide)
  refine lv_aload_n hE.1 hE.2.1 dX1_copyFrom_88 rfl (lv_at hl 1 rfl) ?_
  refine x_get (x := .ref (ad 115)) hE hK hP 114 (Nat.lt_of_lt_of_le (by decide) hNN) (xG_1 rfl) rfl hin1 11 (by decide) mw_218 rfl dX1_copyFrom_89 ?_
  refine lv_iconst (v := iI (0)) hE.1 hE.2.1 dX1_copyFrom_92 (by decide) ?_
  refine lv_aload_n hE.1 hE.2.1 dX1_copyFrom_93 rfl (lv_at hl 0 rfl) ?_
  refine x_get (x := .ref (ad 4)) hE hK hP 3 (Nat.lt_of_lt_of_le (by decide) hNN) (xG_1 rfl) rfl hin1 11 (by decide) mw_218 rfl dX1_copyFrom_94 ?_
  refine lv_iconst (v := iI (0)) hE.1 hE.2.1 dX1_copyFrom_97 (by decide) ?_
  refine lv_bipush (v := iI (9)) hE.1 hE.2.1 dX1_copyFrom_98 (by decide) ?_
  refine x_copyi (rest := []) (sp := iI (0)) (dp := iI (0)) (n := iI (9)) (n0 := 9) (n1 := 9) hE hl.1 hK hN hP hS mw_678 mw_680 mw_679 mw_130 115 4 (Nat.lt_of_lt_of_le (by decide) hNN) (Nat.lt_of_lt_of_le (by decide) hNN) (xG_10 rfl) (fun _ => xG_10 rfl) (by decide) (by decide) (by decide) (by decide) (by decide) (by decide) (by decide) dX1_copyFrom_100 (fun ar23 H locs ha23 hP hS => ?_)
  refine lv_aload_n hE.1 hE.2.1 dX1_copyFrom_103 rfl (lv_at hl 1 rfl) ?_
  refine x_get (x := .ref (ad 116)) hE hK hP 114 (Nat.lt_of_lt_of_le (by decide) hNN) (xG_1 rfl) rfl hin1 12 (by decide) mw_221 rfl dX1_copyFrom_104 ?_
  refine lv_iconst (v := iI (0)) hE.1 hE.2.1 dX1_copyFrom_107 (by decide) ?_
  refine lv_aload_n hE.1 hE.2.1 dX1_copyFrom_108 rfl (lv_at hl 0 rfl) ?_
  refine x_get (x := .ref (ad 5)) hE hK hP 3 (Nat.lt_of_lt_of_le (by decide) hNN) (xG_1 rfl) rfl hin1 12 (by decide) mw_221 rfl dX1_copyFrom_109 ?_
  refine lv_iconst (v := iI (0)) hE.1 hE.2.1 dX1_copyFrom_112 (by decide) ?_
  refine lv_bipush (v := iI (9)) hE.1 hE.2.1 dX1_copyFrom_113 (by decide) ?_
  refine x_copyi (rest := []) (sp := iI (0)) (dp := iI (0)) (n := iI (9)) (n0 := 9) (n1 := 9) hE hl.1 hK hN hP hS mw_678 mw_680 mw_679 mw_130 116 5 (Nat.lt_of_lt_of_le (by decide) hNN) (Nat.lt_of_lt_of_le (by decide) hNN) (xG_10 rfl) (fun _ => xG_10 rfl) (by decide) (by decide) (by decide) (by decide) (by decide) (by decide) (by decide) dX1_copyFrom_115 (fun ar24 H locs ha24 hP hS => ?_)
  refine lv_aload_n hE.1 hE.2.1 dX1_copyFrom_118 rfl (lv_at hl 1 rfl) ?_
  refine x_get (x := .ref (ad 117)) hE hK hP 114 (Nat.lt_of_lt_of_le (by decide) hNN) (xG_1 rfl) rfl hin1 13 (by decide) mw_225 rfl dX1_copyFrom_119 ?_
  refine lv_iconst (v := iI (0)) hE.1 hE.2.1 dX1_copyFrom_122 (by decide) ?_
  refine lv_aload_n hE.1 hE.2.1 dX1_copyFrom_123 rfl (lv_at hl 0 rfl) ?_
  refine x_get (x := .ref (ad 6)) hE hK hP 3 (Nat.lt_of_lt_of_le (by decide) hNN) (xG_1 rfl) rfl hin1 13 (by decide) mw_225 rfl dX1_copyFrom_124 ?_
  refine lv_iconst (v := iI (0)) hE.1 hE.2.1 dX1_copyFrom_127 (by decide) ?_
  refine lv_bipush (v := iI (9)) hE.1 hE.2.1 dX1_copyFrom_128 (by decide) ?_
  refine x_copyi (rest := []) (sp := iI (0)) (dp := iI (0)) (n := iI (9)) (n0 := 9) (n1 := 9) hE hl.1 hK hN hP hS mw_678 mw_680 mw_679 mw_130 117 6 (Nat.lt_of_lt_of_le (by decide) hNN) (Nat.lt_of_lt_of_le (by decide) hNN) (xG_10 rfl) (fun _ => xG_10 rfl) (by decide) (by decide) (by decide) (by decide) (by decide) (by decide) (by decide) dX1_copyFrom_130 (fun ar25 H locs ha25 hP hS => ?_)
  refine lv_aload_n hE.1 hE.2.1 dX1_copyFrom_133 rfl (lv_at hl 1 rfl) ?_
  refine x_get (x := .ref (ad 118)) hE hK hP 114 (Nat.lt_of_lt_of_le (by decide) hNN) (xG_1 rfl) rfl hin1 14 (by decide) mw_229 rfl dX1_copyFrom_134 ?_
  refine lv_iconst (v := iI (0)) hE.1 hE.2.1 dX1_copyFrom_137 (by decide) ?_
  refine lv_aload_n hE.1 hE.2.1 dX1_copyFrom_138 rfl (lv_at hl 0 rfl) ?_
  refine x_get (x := .ref (ad 7)) hE hK hP 3 (Nat.lt_of_lt_of_le (by decide) hNN) (xG_1 rfl) rfl hin1 14 (by decide) mw_229 rfl dX1_copyFrom_139 ?_
  refine lv_iconst (v := iI (0)) hE.1 hE.2.1 dX1_copyFrom_142 (by decide) ?_
  refine lv_bipush (v := iI (9)) hE.1 hE.2.1 dX1_copyFrom_143 (by decide) ?_
  refine x_copyi (rest := []) (sp := iI (0)) (dp := iI (0)) (n := iI (9)) (n0 := 9) (n1 := 9) hE hl.1 hK hN hP hS mw_678 mw_680 mw_679 mw_130 118 7 (Nat.lt_of_lt_of_le (by decide) hNN) (Nat.lt_of_lt_of_le (by decide) hNN) (xG_10 rfl) (fun _ => xG_10 rfl) (by decide) (by decide) (by decide) (by decide) (by decide) (by decide) (by decide) dX1_copyFrom_145 (fun ar26 H locs ha26 hP hS => ?_)
  refine lv_aload_n hE.1 hE.2.1 dX1_copyFrom_148 rfl (lv_at hl 1 rfl) ?_
  refine x_get (x := .ref (ad 119)) hE hK hP 114 (Nat.lt_of_lt_of_le (by decide) hNN) (xG_1 rfl) rfl hin1 15 (by decide) mw_231 rfl dX1_copyFrom_149 ?_
  refine lv_iconst (v := iI (0)) hE.1 hE.2.1 dX1_copyFrom_152 (by decide) ?_
  refine lv_aload_n hE.1 hE.2.1 dX1_copyFrom_153 rfl (lv_at hl 0 rfl) ?_
  refine x_get (x := .ref (ad 8)) hE hK hP 3 (Nat.lt_of_lt_of_le (by decide) hNN) (xG_1 rfl) rfl hin1 15 (by decide) mw_231 rfl dX1_copyFrom_154 ?_
  refine lv_iconst (v := iI (0)) hE.1 hE.2.1 dX1_copyFrom_157 (by decide) ?_
  refine lv_bipush (v := iI (9)) hE.1 hE.2.1 dX1_copyFrom_158 (by decide) ?_
  refine x_copyi (rest := []) (sp := iI (0)) (dp := iI (0)) (n := iI (9)) (n0 := 9) (n1 := 9) hE hl.1 hK hN hP hS mw_678 mw_680 mw_679 mw_130 119 8 (Nat.lt_of_lt_of_le (by decide) hNN) (Nat.lt_of_lt_of_le (by decide) hNN) (xG_10 rfl) (fun _ => xG_10 rfl) (by decide) (by decide) (by decide) (by decide) (by decide) (by decide) (by decide) dX1_copyFrom_160 (fun ar27 H locs ha27 hP hS => ?_)
  refine lv_aload_n hE.1 hE.2.1 dX1_copyFrom_163 rfl (lv_at hl 1 rfl) ?_
  refine x_get (x := .ref (ad 120)) hE hK hP 114 (Nat.lt_of_lt_of_le (by decide) hNN) (xG_1 rfl) rfl hin1 16 (by decide) mw_235 rfl dX1_copyFrom_164 ?_
  refine lv_iconst (v := iI (0)) hE.1 hE.2.1 dX1_copyFrom_167 (by decide) ?_
  refine lv_aload_n hE.1 hE.2.1 dX1_copyFrom_168 rfl (lv_at hl 0 rfl) ?_
  refine x_get (x := .ref (ad 9)) hE hK hP 3 (Nat.lt_of_lt_of_le (by decide) hNN) (xG_1 rfl) rfl hin1 16 (by decide) mw_235 rfl dX1_copyFrom_169 ?_
  refine lv_iconst (v := iI (0)) hE.1 hE.2.1 dX1_copyFrom_172 (by decide) ?_
  refine lv_bipush (v := iI (9)) hE.1 hE.2.1 dX1_copyFrom_173 (by decide) ?_
  refine x_copyi (rest := []) (sp := iI (0)) (dp := iI (0)) (n := iI (9)) (n0 := 9) (n1 := 9) hE hl.1 hK hN hP hS mw_678 mw_680 mw_679 mw_130 120 9 (Nat.lt_of_lt_of_le (by decide) hNN) (Nat.lt_of_lt_of_le (by decide) hNN) (xG_10 rfl) (fun _ => xG_10 rfl) (by decide) (by decide) (by decide) (by decide) (by decide) (by decide) (by decide) dX1_copyFrom_175 (fun ar28 H locs ha28 hP hS => ?_)
  refine lv_aload_n hE.1 hE.2.1 dX1_copyFrom_178 rfl (lv_at hl 1 rfl) ?_
  refine x_get (x := .ref (ad 121)) hE hK hP 114 (Nat.lt_of_lt_of_le (by decide) hNN) (xG_1 rfl) rfl hin1 17 (by decide) mw_239 rfl dX1_copyFrom_179 ?_
  refine lv_iconst (v := iI (0)) hE.1 hE.2.1 dX1_copyFrom_182 (by decide) ?_
  refine lv_aload_n hE.1 hE.2.1 dX1_copyFrom_183 rfl (lv_at hl 0 rfl) ?_
  refine x_get (x := .ref (ad 10)) hE hK hP 3 (Nat.lt_of_lt_of_le (by decide) hNN) (xG_1 rfl) rfl hin1 17 (by decide) mw_239 rfl dX1_copyFrom_184 ?_
  refine lv_iconst (v := iI (0)) hE.1 hE.2.1 dX1_copyFrom_187 (by decide) ?_
  refine lv_iconst (v := iI (3)) hE.1 hE.2.1 dX1_copyFrom_188 (by decide) ?_
  refine x_copyi (rest := []) (sp := iI (0)) (dp := iI (0)) (n := iI (3)) (n0 := 3) (n1 := 3) hE hl.1 hK hN hP hS mw_678 mw_680 mw_679 mw_130 121 10 (Nat.lt_of_lt_of_le (by decide) hNN) (Nat.lt_of_lt_of_le (by decide) hNN) (xG_10 rfl) (fun _ => xG_10 rfl) (by decide) (by decide) (by decide) (by decide) (by decide) (by decide) (by decide) dX1_copyFrom_189 (fun ar29 H locs ha29 hP hS => ?_)
  refine lv_aload_n hE.1 hE.2.1 dX1_copyFrom_192 rfl (lv_at hl 1 rfl) ?_
  refine x_get (x := .ref (ad 122)) hE hK hP 114 (Nat.lt_of_lt_of_le (by decide) hNN) (xG_1 rfl) rfl hin1 18 (by decide) mw_241 rfl dX1_copyFrom_193 ?_
  refine lv_iconst (v := iI (0)) hE.1 hE.2.1 dX1_copyFrom_196 (by decide) ?_
  refine lv_aload_n hE.1 hE.2.1 dX1_copyFrom_197 rfl (lv_at hl 0 rfl) ?_
  refine x_get (x := .ref (ad 11)) hE hK hP 3 (Nat.lt_of_lt_of_le (by decide) hNN) (xG_1 rfl) rfl hin1 18 (by decide) mw_241 rfl dX1_copyFrom_198 ?_
  refine lv_iconst (v := iI (0)) hE.1 hE.2.1 dX1_copyFrom_201 (by decide) ?_
  refine lv_bipush (v := iI (8)) hE.1 hE.2.1 dX1_copyFrom_202 (by decide) ?_
  refine x_copyi (rest := []) (sp := iI (0)) (dp := iI (0)) (n := iI (8)) (n0 := 8) (n1 := 8) hE hl.1 hK hN hP hS mw_678 mw_680 mw_679 mw_130 122 11 (Nat.lt_of_lt_of_le (by decide) hNN) (Nat.lt_of_lt_of_le (by decide) hNN) (xG_10 rfl) (fun _ => xG_10 rfl) (by decide) (by decide) (by decide) (by decide) (by decide) (by decide) (by decide) dX1_copyFrom_204 (fun ar30 H locs ha30 hP hS => ?_)
  refine lv_aload_n hE.1 hE.2.1 dX1_copyFrom_207 rfl (lv_at hl 1 rfl) ?_
  refine x_get (x := .ref (ad 123)) hE hK hP 114 (Nat.lt_of_lt_of_le (by decide) hNN) (xG_1 rfl) rfl hin1 19 (by decide) mw_244 rfl dX1_copyFrom_208 ?_
  refine lv_iconst (v := iI (0)) hE.1 hE.2.1 dX1_copyFrom_211 (by decide) ?_
  refine lv_aload_n hE.1 hE.2.1 dX1_copyFrom_212 rfl (lv_at hl 0 rfl) ?_
  refine x_get (x := .ref (ad 12)) hE hK hP 3 (Nat.lt_of_lt_of_le (by decide) hNN) (xG_1 rfl) rfl hin1 19 (by decide) mw_244 rfl dX1_copyFrom_213 ?_
  refine lv_iconst (v := iI (0)) hE.1 hE.2.1 dX1_copyFrom_216 (by decide) ?_
  refine lv_bipush (v := iI (8)) hE.1 hE.2.1 dX1_copyFrom_217 (by decide) ?_
  refine x_copyi (rest := []) (sp := iI (0)) (dp := iI (0)) (n := iI (8)) (n0 := 8) (n1 := 8) hE hl.1 hK hN hP hS mw_678 mw_680 mw_679 mw_130 123 12 (Nat.lt_of_lt_of_le (by decide) hNN) (Nat.lt_of_lt_of_le (by decide) hNN) (xG_10 rfl) (fun _ => xG_10 rfl) (by decide) (by decide) (by decide) (by decide) (by decide) (by decide) (by decide) dX1_copyFrom_219 (fun ar31 H locs ha31 hP hS => ?_)
  exact kr _ _ _ _ _ _ _ ⟨hI, fun i j h => ((up_oth hv22 (fun q => h (by rcases q with ⟨rfl, rfl⟩; decide))).trans ((up_oth hv20 (fun q => h (by rcases q with ⟨rfl, rfl⟩; decide))).trans ((up_oth hv18 (fun q => h (by rcases q with ⟨rfl, rfl⟩; decide))).trans ((up_oth hv16 (fun q => h (by rcases q with ⟨rfl, rfl⟩; decide))).trans ((up_oth hv14 (fun q => h (by rcases q with ⟨rfl, rfl⟩; decide))).trans ((up_oth hv12 (fun q => h (by rcases q with ⟨rfl, rfl⟩; decide))).trans ((up_oth hv10 (fun q => h (by rcases q with ⟨rfl, rfl⟩; decide))).trans ((up_oth hv8 (fun q => h (by rcases q with ⟨rfl, rfl⟩; decide))).trans ((up_oth hv6 (fun q => h (by rcases q with ⟨rfl, rfl⟩; decide))).trans ((up_oth hv4 (fun q => h (by rcases q with ⟨rfl, rfl⟩; decide))).trans (up_oth hv2 (fun q => h (by rcases q with ⟨rfl, rfl⟩; decide)))))))))))))⟩ hP hS dX1_copyFrom_222

set_option maxHeartbeats 4000000 in
set_option maxRecDepth 100000 in
theorem s_X7_copyFrom_23_124 (l : Launch) (D : va_G) (K : Nat → ClassId) (ad : Nat → Nat) (mm : Option Nat) (N : Nat) (hNN : 132 ≤ N) (v ar : sI) (al : sL) (hI : XI v) : Met l yX7_copyFrom (wM yX7_copyFrom cX7_copyFrom 2 none) (rmD 1) (va_Pc [.ref (ad 23), .ref (ad 124)] (wPre D K ad (xG ad K mm) N v ar al)) (va_Qv (fun u : sT => XI u.1 ∧ (∀ i j : Nat, (i, j) ∉ ([(23, 2), (23, 3), (23, 4), (23, 5), (23, 8), (23, 9)] : List (Nat × Nat)) → u.1 i j = v i j)) (wB D ad (xG ad K mm) N) (inW ad N)) 0 0 (inW ad N) := by
  refine s_metV (by decide) (Nat.le_of_ble_eq_true rfl) ?_
  intro p e s m below meth c ls args Q hE hB hl kr
  have hE : CallFix p m c cX7_copyFrom 2 s args tbG "TaleCourt$Telling" := hE
  obtain ⟨hP, hK, hN⟩ := hB
  have hS : va_S (inW ad N) s.heap s.heap [] := va_S.rf
  have hl : lv_has ls 2 [(0, .ref (ad 23)), (1, .ref (ad 124))] := hl
  refine lv_aload_n hE.1 hE.2.1 dX7_copyFrom_0 rfl (lv_at hl 0 rfl) ?_
  refine lv_aload_n hE.1 hE.2.1 dX7_copyFrom_1 rfl (lv_at hl 1 rfl) ?_
  obtain ⟨z1, hz1, ez1⟩ := XI_get hI 124 2 0 18 (by decide)
  refine x_get (x := .int (v 124 2)) hE hK hP 124 (Nat.lt_of_lt_of_le (by decide) hNN) (xG_7 rfl) rfl hin7 2 (by decide) mw_301 rfl dX7_copyFrom_2 ?_
  refine x_top (y := iI (z1)) ez1 ?_
  refine x_put (x := iI (z1)) hE hK hN hP hS 23 (Nat.lt_of_lt_of_le (by decide) hNN) (xG_7 rfl) rfl hin7 tyX7 tyX7_ok nmX7 2 (by decide) mw_301 rfl rfl rfl (Nat.le_of_ble_eq_true rfl) (xG_7 rfl) dX7_copyFrom_5 (fun v2 H locs hv2 hP hS => ?_)
  have hI := XI_putB (z := z1) hI hv2 0 18 (by omega) (by decide) (by omega)
  refine lv_aload_n hE.1 hE.2.1 dX7_copyFrom_8 rfl (lv_at hl 0 rfl) ?_
  refine lv_aload_n hE.1 hE.2.1 dX7_copyFrom_9 rfl (lv_at hl 1 rfl) ?_
  obtain ⟨z3, hz3, ez3⟩ := iI_of (v2 124 3)
  refine x_get (x := .int (v2 124 3)) hE hK hP 124 (Nat.lt_of_lt_of_le (by decide) hNN) (xG_7 rfl) rfl hin7 3 (by decide) mw_305 rfl dX7_copyFrom_10 ?_
  refine x_top (y := iI (z3)) ez3 ?_
  refine x_put (x := iI (z3)) hE hK hN hP hS 23 (Nat.lt_of_lt_of_le (by decide) hNN) (xG_7 rfl) rfl hin7 tyX7 tyX7_ok nmX7 3 (by decide) mw_305 rfl rfl rfl (Nat.le_of_ble_eq_true rfl) (xG_7 rfl) dX7_copyFrom_13 (fun v4 H locs hv4 hP hS => ?_)
  have hI := XI_putN hI hv4 (by decide)
  refine lv_aload_n hE.1 hE.2.1 dX7_copyFrom_16 rfl (lv_at hl 0 rfl) ?_
  refine lv_aload_n hE.1 hE.2.1 dX7_copyFrom_17 rfl (lv_at hl 1 rfl) ?_
  obtain ⟨z5, hz5, ez5⟩ := iI_of (v4 124 4)
  refine x_get (x := .int (v4 124 4)) hE hK hP 124 (Nat.lt_of_lt_of_le (by decide) hNN) (xG_7 rfl) rfl hin7 4 (by decide) mw_309 rfl dX7_copyFrom_18 ?_
  refine x_top (y := iI (z5)) ez5 ?_
  refine x_put (x := iI (z5)) hE hK hN hP hS 23 (Nat.lt_of_lt_of_le (by decide) hNN) (xG_7 rfl) rfl hin7 tyX7 tyX7_ok nmX7 4 (by decide) mw_309 rfl rfl rfl (Nat.le_of_ble_eq_true rfl) (xG_7 rfl) dX7_copyFrom_21 (fun v6 H locs hv6 hP hS => ?_)
  have hI := XI_putN hI hv6 (by decide)
  refine lv_aload_n hE.1 hE.2.1 dX7_copyFrom_24 rfl (lv_at hl 0 rfl) ?_
  refine lv_aload_n hE.1 hE.2.1 dX7_copyFrom_25 rfl (lv_at hl 1 rfl) ?_
  obtain ⟨z7, hz7, ez7⟩ := iI_of (v6 124 5)
  refine x_get (x := .int (v6 124 5)) hE hK hP 124 (Nat.lt_of_lt_of_le (by decide) hNN) (xG_7 rfl) rfl hin7 5 (by decide) mw_312 rfl dX7_copyFrom_26 ?_
  refine x_top (y := iI (z7)) ez7 ?_
  refine x_put (x := iI (z7)) hE hK hN hP hS 23 (Nat.lt_of_lt_of_le (by decide) hNN) (xG_7 rfl) rfl hin7 tyX7 tyX7_ok nmX7 5 (by decide) mw_312 rfl rfl rfl (Nat.le_of_ble_eq_true rfl) (xG_7 rfl) dX7_copyFrom_29 (fun v8 H locs hv8 hP hS => ?_)
  have hI := XI_putN hI hv8 (by decide)
  refine lv_aload_n hE.1 hE.2.1 dX7_copyFrom_32 rfl (lv_at hl 0 rfl) ?_
  refine lv_aload_n hE.1 hE.2.1 dX7_copyFrom_33 rfl (lv_at hl 1 rfl) ?_
  obtain ⟨z9, hz9, ez9⟩ := iI_of (v8 124 8)
  refine x_get (x := .int (v8 124 8)) hE hK hP 124 (Nat.lt_of_lt_of_le (by decide) hNN) (xG_7 rfl) rfl hin7 8 (by decide) mw_317 rfl dX7_copyFrom_34 ?_
  refine x_top (y := iI (z9)) ez9 ?_
  refine x_put (x := iI (z9)) hE hK hN hP hS 23 (Nat.lt_of_lt_of_le (by decide) hNN) (xG_7 rfl) rfl hin7 tyX7 tyX7_ok nmX7 8 (by decide) mw_317 rfl rfl rfl (Nat.le_of_ble_eq_true rfl) (xG_7 rfl) dX7_copyFrom_37 (fun v10 H locs hv10 hP hS => ?_)
  have hI := XI_putN hI hv10 (by decide)
  refine lv_aload_n hE.1 hE.2.1 dX7_copyFrom_40 rfl (lv_at hl 0 rfl) ?_
  refine lv_aload_n hE.1 hE.2.1 dX7_copyFrom_41 rfl (lv_at hl 1 rfl) ?_
  obtain ⟨z11, hz11, ez11⟩ := iI_of (v10 124 9)
  refine x_get (x := .int (v10 124 9)) hE hK hP 124 (Nat.lt_of_lt_of_le (by decide) hNN) (xG_7 rfl) rfl hin7 9 (by decide) mw_318 rfl dX7_copyFrom_42 ?_
  refine x_top (y := iI (z11)) ez11 ?_
  refine x_put (x := iI (z11)) hE hK hN hP hS 23 (Nat.lt_of_lt_of_le (by decide) hNN) (xG_7 rfl) rfl hin7 tyX7 tyX7_ok nmX7 9 (by decide) mw_318 rfl rfl rfl (Nat.le_of_ble_eq_true rfl) (xG_7 rfl) dX7_copyFrom_45 (fun v12 H locs hv12 hP hS => ?_)
  have hI := XI_putN hI hv12 (by decide)
  refine lv_aload_n hE.1 hE.2.1 dX7_copyFrom_48 rfl (lv_at hl 1 rfl) ?_
  refine x_get (x := .ref (ad 125)) hE hK hP 124 (Nat.lt_of_lt_of_le (by decide) hNN) (xG_7 rfl) rfl hin7 0 (by decide) mw_295 rfl dX7_copyFrom_49 ?_
  refine lv_iconst (v := iI (0)) hE.1 hE.2.1 dX7_copyFrom_52 (by decide) ?_
  refine lv_aload_n hE.1 hE.2.1 dX7_copyFrom_53 rfl (lv_at hl 0 rfl) ?_
  refine x_get (x := .ref (ad 24)) hE hK hP 23 (Nat.lt_of_lt_of_le (by decide) hNN) (xG_7 rfl) rfl hin7 0 (by decide) mw_295 rfl dX7_copyFrom_54 ?_
  refine lv_iconst (v := iI (0)) hE.1 hE.2.1 dX7_copyFrom_57 (by decide) ?_
  refine lv_bipush (v := iI (18)) hE.1 hE.2.1 dX7_copyFrom_58 (by decide) ?_
  refine x_copyi (rest := []) (sp := iI (0)) (dp := iI (0)) (n := iI (18)) (n0 := 18) (n1 := 18) hE hl.1 hK hN hP hS mw_912 mw_680 mw_679 mw_130 125 24 (Nat.lt_of_lt_of_le (by decide) hNN) (Nat.lt_of_lt_of_le (by decide) hNN) (xG_10 rfl) (fun _ => xG_10 rfl) (by decide) (by decide) (by decide) (by decide) (by decide) (by decide) (by decide) dX7_copyFrom_60 (fun ar13 H locs ha13 hP hS => ?_)
  refine lv_aload_n hE.1 hE.2.1 dX7_copyFrom_63 rfl (lv_at hl 1 rfl) ?_
  refine x_get (x := .ref (ad 126)) hE hK hP 124 (Nat.lt_of_lt_of_le (by decide) hNN) (xG_7 rfl) rfl hin7 1 (by decide) mw_299 rfl dX7_copyFrom_64 ?_
  refine lv_iconst (v := iI (0)) hE.1 hE.2.1 dX7_copyFrom_67 (by decide) ?_
  refine lv_aload_n hE.1 hE.2.1 dX7_copyFrom_68 rfl (lv_at hl 0 rfl) ?_
  refine x_get (x := .ref (ad 25)) hE hK hP 23 (Nat.lt_of_lt_of_le (by decide) hNN) (xG_7 rfl) rfl hin7 1 (by decide) mw_299 rfl dX7_copyFrom_69 ?_
  refine lv_iconst (v := iI (0)) hE.1 hE.2.1 dX7_copyFrom_72 (by decide) ?_
  refine lv_bipush (v := iI (9)) hE.1 hE.2.1 dX7_copyFrom_73 (by decide) ?_
  refine x_copyi (rest := []) (sp := iI (0)) (dp := iI (0)) (n := iI (9)) (n0 := 9) (n1 := 9) hE hl.1 hK hN hP hS mw_912 mw_680 mw_679 mw_130 126 25 (Nat.lt_of_lt_of_le (by decide) hNN) (Nat.lt_of_lt_of_le (by decide) hNN) (xG_10 rfl) (fun _ => xG_10 rfl) (by decide) (by decide) (by decide) (by decide) (by decide) (by decide) (by decide) dX7_copyFrom_75 (fun ar14 H locs ha14 hP hS => ?_)
  refine lv_aload_n hE.1 hE.2.1 dX7_copyFrom_78 rfl (lv_at hl 1 rfl) ?_
  refine x_get (x := .ref (ad 127)) hE hK hP 124 (Nat.lt_of_lt_of_le (by decide) hNN) (xG_7 rfl) rfl hin7 7 (by decide) mw_316 rfl dX7_copyFrom_79 ?_
  refine lv_iconst (v := iI (0)) hE.1 hE.2.1 dX7_copyFrom_82 (by decide) ?_
  refine lv_aload_n hE.1 hE.2.1 dX7_copyFrom_83 rfl (lv_at hl 0 rfl) ?_
  refine x_get (x := .ref (ad 26)) hE hK hP 23 (Nat.lt_of_lt_of_le (by decide) hNN) (xG_7 rfl) rfl hin7 7 (by decide) mw_316 rfl dX7_copyFrom_84 ?_
  refine lv_iconst (v := iI (0)) hE.1 hE.2.1 dX7_copyFrom_87 (by decide) ?_
  refine lv_iconst (v := iI (3)) hE.1 hE.2.1 dX7_copyFrom_88 (by decide) ?_
  refine x_copyi (rest := []) (sp := iI (0)) (dp := iI (0)) (n := iI (3)) (n0 := 3) (n1 := 3) hE hl.1 hK hN hP hS mw_912 mw_680 mw_679 mw_130 127 26 (Nat.lt_of_lt_of_le (by decide) hNN) (Nat.lt_of_lt_of_le (by decide) hNN) (xG_10 rfl) (fun _ => xG_10 rfl) (by decide) (by decide) (by decide) (by decide) (by decide) (by decide) (by decide) dX7_copyFrom_89 (fun ar15 H locs ha15 hP hS => ?_)
  refine lv_aload_n hE.1 hE.2.1 dX7_copyFrom_92 rfl (lv_at hl 1 rfl) ?_
  refine x_get (x := .ref (ad 128)) hE hK hP 124 (Nat.lt_of_lt_of_le (by decide) hNN) (xG_7 rfl) rfl hin7 10 (by decide) mw_319 rfl dX7_copyFrom_93 ?_
  refine lv_iconst (v := iI (0)) hE.1 hE.2.1 dX7_copyFrom_96 (by decide) ?_
  refine lv_aload_n hE.1 hE.2.1 dX7_copyFrom_97 rfl (lv_at hl 0 rfl) ?_
  refine x_get (x := .ref (ad 27)) hE hK hP 23 (Nat.lt_of_lt_of_le (by decide) hNN) (xG_7 rfl) rfl hin7 10 (by decide) mw_319 rfl dX7_copyFrom_98 ?_
  refine lv_iconst (v := iI (0)) hE.1 hE.2.1 dX7_copyFrom_101 (by decide) ?_
  refine lv_bipush (v := iI (18)) hE.1 hE.2.1 dX7_copyFrom_102 (by decide) ?_
  refine x_copyi (rest := []) (sp := iI (0)) (dp := iI (0)) (n := iI (18)) (n0 := 18) (n1 := 18) hE hl.1 hK hN hP hS mw_912 mw_680 mw_679 mw_130 128 27 (Nat.lt_of_lt_of_le (by decide) hNN) (Nat.lt_of_lt_of_le (by decide) hNN) (xG_10 rfl) (fun _ => xG_10 rfl) (by decide) (by decide) (by decide) (by decide) (by decide) (by decide) (by decide) dX7_copyFrom_104 (fun ar16 H locs ha16 hP hS => ?_)
  refine lv_aload_n hE.1 hE.2.1 dX7_copyFrom_107 rfl (lv_at hl 1 rfl) ?_
  refine x_get (x := .ref (ad 129)) hE hK hP 124 (Nat.lt_of_lt_of_le (by decide) hNN) (xG_7 rfl) rfl hin7 11 (by decide) mw_320 rfl dX7_copyFrom_108 ?_
  refine lv_iconst (v := iI (0)) hE.1 hE.2.1 dX7_copyFrom_111 (by decide) ?_
  refine lv_aload_n hE.1 hE.2.1 dX7_copyFrom_112 rfl (lv_at hl 0 rfl) ?_
  refine x_get (x := .ref (ad 28)) hE hK hP 23 (Nat.lt_of_lt_of_le (by decide) hNN) (xG_7 rfl) rfl hin7 11 (by decide) mw_320 rfl dX7_copyFrom_113 ?_
  refine lv_iconst (v := iI (0)) hE.1 hE.2.1 dX7_copyFrom_116 (by decide) ?_
  refine lv_bipush (v := iI (18)) hE.1 hE.2.1 dX7_copyFrom_117 (by decide) ?_
  refine x_copyi (rest := []) (sp := iI (0)) (dp := iI (0)) (n := iI (18)) (n0 := 18) (n1 := 18) hE hl.1 hK hN hP hS mw_912 mw_680 mw_679 mw_130 129 28 (Nat.lt_of_lt_of_le (by decide) hNN) (Nat.lt_of_lt_of_le (by decide) hNN) (xG_10 rfl) (fun _ => xG_10 rfl) (by decide) (by decide) (by decide) (by decide) (by decide) (by decide) (by decide) dX7_copyFrom_119 (fun ar17 H locs ha17 hP hS => ?_)
  refine lv_aload_n hE.1 hE.2.1 dX7_copyFrom_122 rfl (lv_at hl 1 rfl) ?_
  refine x_get (x := .ref (ad 130)) hE hK hP 124 (Nat.lt_of_lt_of_le (by decide) hNN) (xG_7 rfl) rfl hin7 12 (by decide) mw_321 rfl dX7_copyFrom_123 ?_
  refine lv_iconst (v := iI (0)) hE.1 hE.2.1 dX7_copyFrom_126 (by decide) ?_
  refine lv_aload_n hE.1 hE.2.1 dX7_copyFrom_127 rfl (lv_at hl 0 rfl) ?_
  refine x_get (x := .ref (ad 29)) hE hK hP 23 (Nat.lt_of_lt_of_le (by decide) hNN) (xG_7 rfl) rfl hin7 12 (by decide) mw_321 rfl dX7_copyFrom_128 ?_
  refine lv_iconst (v := iI (0)) hE.1 hE.2.1 dX7_copyFrom_131 (by decide) ?_
  refine lv_bipush (v := iI (18)) hE.1 hE.2.1 dX7_copyFrom_132 (by decide) ?_
  refine x_copyi (rest := []) (sp := iI (0)) (dp := iI (0)) (n := iI (18)) (n0 := 18) (n1 := 18) hE hl.1 hK hN hP hS mw_912 mw_680 mw_679 mw_130 130 29 (Nat.lt_of_lt_of_le (by decide) hNN) (Nat.lt_of_lt_of_le (by decide) hNN) (xG_10 rfl) (fun _ => xG_10 rfl) (by decide) (by decide) (by decide) (by decide) (by decide) (by decide) (by decide) dX7_copyFrom_134 (fun ar18 H locs ha18 hP hS => ?_)
  refine lv_aload_n hE.1 hE.2.1 dX7_copyFrom_137 rfl (lv_at hl 1 rfl) ?_
  refine x_get (x := .ref (ad 131)) hE hK hP 124 (Nat.lt_of_lt_of_le (by decide) hNN) (xG_7 rfl) rfl hin7 13 (by decide) mw_322 rfl dX7_copyFrom_138 ?_
  refine lv_iconst (v := iI (0)) hE.1 hE.2.1 dX7_copyFrom_141 (by decide) ?_
  refine lv_aload_n hE.1 hE.2.1 dX7_copyFrom_142 rfl (lv_at hl 0 rfl) ?_
  refine x_get (x := .ref (ad 30)) hE hK hP 23 (Nat.lt_of_lt_of_le (by decide) hNN) (xG_7 rfl) rfl hin7 13 (by decide) mw_322 rfl dX7_copyFrom_143 ?_
  refine lv_iconst (v := iI (0)) hE.1 hE.2.1 dX7_copyFrom_146 (by decide) ?_
  refine lv_bipush (v := iI (18)) hE.1 hE.2.1 dX7_copyFrom_147 (by decide) ?_
  refine x_copyi (rest := []) (sp := iI (0)) (dp := iI (0)) (n := iI (18)) (n0 := 18) (n1 := 18) hE hl.1 hK hN hP hS mw_912 mw_680 mw_679 mw_130 131 30 (Nat.lt_of_lt_of_le (by decide) hNN) (Nat.lt_of_lt_of_le (by decide) hNN) (xG_10 rfl) (fun _ => xG_10 rfl) (by decide) (by decide) (by decide) (by decide) (by decide) (by decide) (by decide) dX7_copyFrom_149 (fun ar19 H locs ha19 hP hS => ?_)
  exact kr _ _ _ _ _ _ _ ⟨hI, fun i j h => ((up_oth hv12 (fun q => h (by rcases q with ⟨rfl, rfl⟩; decide))).trans ((up_oth hv10 (fun q => h (by rcases q with ⟨rfl, rfl⟩; decide))).trans ((up_oth hv8 (fun q => h (by rcases q with ⟨rfl, rfl⟩; decide))).trans ((up_oth hv6 (fun q => h (by rcases q with ⟨rfl, rfl⟩; decide))).trans ((up_oth hv4 (fun q => h (by rcases q with ⟨rfl, rfl⟩; decide))).trans (up_oth hv2 (fun q => h (by rcases q with ⟨rfl, rfl⟩; decide))))))))⟩ hP hS dX7_copyFrom_152

theorem dX8_back_0 : decode cX8_back 0 = .ok (.iload_n 1, 1) := by decide +kernel
theorem dX8_back_1 : decode cX8_back 1 = .ok (.ifCond .lt 8, 3) := by decide +kernel
theorem dX8_back_4 : decode cX8_back 4 = .ok (.iload_n 1, 1) := by decide +kernel
theorem dX8_back_5 : decode cX8_back 5 = .ok (.iconst 3, 1) := by decide +kernel
theorem dX8_back_6 : decode cX8_back 6 = .ok (.if_icmp .lt 6, 3) := by decide +kernel
theorem dX8_back_9 : decode cX8_back 9 = .ok (.bipush (-2), 2) := by decide +kernel
theorem dX8_back_11 : decode cX8_back 11 = .ok (.ireturn, 1) := by decide +kernel
theorem dX8_back_12 : decode cX8_back 12 = .ok (.aload_n 0, 1) := by decide +kernel
theorem dX8_back_13 : decode cX8_back 13 = .ok (.getfield 69, 3) := by decide +kernel
theorem dX8_back_16 : decode cX8_back 16 = .ok (.iload_n 1, 1) := by decide +kernel
theorem dX8_back_17 : decode cX8_back 17 = .ok (.aaload, 1) := by decide +kernel
theorem dX8_back_18 : decode cX8_back 18 = .ok (.astore_n 2, 1) := by decide +kernel
theorem dX8_back_19 : decode cX8_back 19 = .ok (.aload_n 2, 1) := by decide +kernel
theorem dX8_back_20 : decode cX8_back 20 = .ok (.getfield 363, 3) := by decide +kernel
theorem dX8_back_23 : decode cX8_back 23 = .ok (.ifCond .ne 6, 3) := by decide +kernel
theorem dX8_back_26 : decode cX8_back 26 = .ok (.bipush (-6), 2) := by decide +kernel
theorem dX8_back_28 : decode cX8_back 28 = .ok (.ireturn, 1) := by decide +kernel
theorem dX8_back_29 : decode cX8_back 29 = .ok (.aload_n 0, 1) := by decide +kernel
theorem dX8_back_30 : decode cX8_back 30 = .ok (.getfield 19, 3) := by decide +kernel
theorem dX8_back_33 : decode cX8_back 33 = .ok (.aload_n 2, 1) := by decide +kernel
theorem dX8_back_34 : decode cX8_back 34 = .ok (.getfield 359, 3) := by decide +kernel
theorem dX8_back_37 : decode cX8_back 37 = .ok (.invokevirtual 87, 3) := by decide +kernel
theorem dX8_back_40 : decode cX8_back 40 = .ok (.aload_n 0, 1) := by decide +kernel
theorem dX8_back_41 : decode cX8_back 41 = .ok (.getfield 31, 3) := by decide +kernel
theorem dX8_back_44 : decode cX8_back 44 = .ok (.aload_n 2, 1) := by decide +kernel
theorem dX8_back_45 : decode cX8_back 45 = .ok (.getfield 360, 3) := by decide +kernel
theorem dX8_back_48 : decode cX8_back 48 = .ok (.invokevirtual 327, 3) := by decide +kernel
theorem dX8_back_51 : decode cX8_back 51 = .ok (.iconst 0, 1) := by decide +kernel
theorem dX8_back_52 : decode cX8_back 52 = .ok (.ireturn, 1) := by decide +kernel
set_option maxHeartbeats 4000000 in
set_option maxRecDepth 100000 in
theorem s_X8_back_0 (l : Launch) (D : va_G) (K : Nat → ClassId) (ad : Nat → Nat) (mm : Option Nat) (N : Nat) (hNN : 132 ≤ N) (v ar : sI) (al : sL) (hI : XI v) (w_1 : Int) (hw_1 : -2147483648 ≤ w_1 ∧ w_1 ≤ 2147483647) (ew_1 : v 75 2 = iI w_1) (w_2 : Int) (hw_2 : -2147483648 ≤ w_2 ∧ w_2 ≤ 2147483647) (ew_2 : v 94 2 = iI w_2) (w_3 : Int) (hw_3 : -2147483648 ≤ w_3 ∧ w_3 ≤ 2147483647) (ew_3 : v 113 2 = iI w_3) (z_1 : Int) (hz_1 : -2147483648 ≤ z_1 ∧ z_1 ≤ 2147483647) : Met l yX8_back (wM yX8_back cX8_back 3 (some .int)) (rmD 2) (va_Pc [.ref (ad 0), .int (iI (z_1))] (wPre D K ad (xG ad K mm) N v ar al)) (va_Qi (fun (r : Int32) (u : sT) => (∃ z : Int, (((z_1 < 0 ∨ 2 < z_1) ∧ z = -2) ∨ (z_1 = 0 ∧ ((w_1 = 0 ∧ z = -6) ∨ (w_1 ≠ 0 ∧ z = 0))) ∨ (z_1 = 1 ∧ ((w_2 = 0 ∧ z = -6) ∨ (w_2 ≠ 0 ∧ z = 0))) ∨ (z_1 = 2 ∧ ((w_3 = 0 ∧ z = -6) ∨ (w_3 ≠ 0 ∧ z = 0)))) ∧ r = iI z) ∧ XI u.1 ∧ (∀ i j : Nat, (i, j) ∉ ([(3, 0), (3, 1), (3, 2), (3, 3), (3, 4), (3, 5), (3, 6), (3, 7), (3, 8), (3, 9), (3, 10), (23, 2), (23, 3), (23, 4), (23, 5), (23, 8), (23, 9)] : List (Nat × Nat)) → u.1 i j = v i j)) (wB D ad (xG ad K mm) N) (inW ad N)) 0 0 (inW ad N) := by
  refine s_metI (by decide) (Nat.le_of_ble_eq_true rfl) ?_
  intro p e s m below meth c ls args Q hE hB hl kr
  have hE : CallFix p m c cX8_back 3 s args tbG "TaleCourt" := hE
  obtain ⟨hP, hK, hN⟩ := hB
  have hS : va_S (inW ad N) s.heap s.heap [] := va_S.rf
  have hl : lv_has ls 3 [(0, .ref (ad 0)), (1, .int (iI (z_1)))] := hl
  refine lv_iload_n hE.1 hE.2.1 dX8_back_0 rfl (lv_at hl 1 rfl) ?_
  refine s_if_lt (a := z_1) (tgt := 9) hE.1 hE.2.1 (by omega) dX8_back_1 (by decide) (fun c1 => ?_) (fun c1 => ?_)
  · skip
    refine lv_bipush (v := iI (-2)) hE.1 hE.2.1 dX8_back_9 (by decide) ?_
    exact kr _ _ _ _ _ _ _ _ rfl ⟨⟨-2, by omega, rfl⟩, hI, fun i j h => rfl⟩ hP hS dX8_back_11
  · skip
    refine lv_iload_n hE.1 hE.2.1 dX8_back_4 rfl (lv_at hl 1 rfl) ?_
    refine lv_iconst (v := iI (3)) hE.1 hE.2.1 dX8_back_5 (by decide) ?_
    refine s_icmp_lt (a := z_1) (b := 3) (tgt := 12) hE.1 hE.2.1 (by omega) (by omega) dX8_back_6 (by decide) (fun c2 => ?_) (fun c2 => ?_)
    · skip
      refine lv_aload_n hE.1 hE.2.1 dX8_back_12 rfl (lv_at hl 0 rfl) ?_
      refine x_get (x := .ref (ad 66)) hE hK hP 0 (Nat.lt_of_lt_of_le (by decide) hNN) (xG_8 rfl) rfl hin8 9 (by decide) mw_489 rfl dX8_back_13 ?_
      refine lv_iload_n hE.1 hE.2.1 dX8_back_16 rfl (lv_at hl 1 rfl) ?_
      rcases (show z_1 = 0 ∨ z_1 = 1 ∨ z_1 = 2 by omega) with rfl | rfl | rfl
      · skip
        refine x_aald (r := .ref (ad 75)) hE hK hP 66 5 (Nat.lt_of_lt_of_le (by decide) hNN) (xG_14 rfl) rfl (by unfold vp_in; decide) rfl dX8_back_17 ?_
        refine lv_astore_n (lv' := [(2, .ref (ad 75)), (0, .ref (ad 0)), (1, .int (iI (0)))]) hE.1 hE.2.1 dX8_back_18 rfl hl (by decide) rfl (fun ls hl => ?_)
        refine lv_aload_n hE.1 hE.2.1 dX8_back_19 rfl (lv_at hl 0 rfl) ?_
        refine x_get (x := .int (v 75 2)) hE hK hP 75 (Nat.lt_of_lt_of_le (by decide) hNN) (xG_3 rfl) rfl hin3 2 (by decide) mw_472 rfl dX8_back_20 ?_
        refine x_top (y := iI (w_1)) ew_1 ?_
        refine s_if_ne (a := w_1) (tgt := 29) hE.1 hE.2.1 (by omega) dX8_back_23 (by decide) (fun c3 => ?_) (fun c3 => ?_)
        · skip
          refine lv_aload_n hE.1 hE.2.1 dX8_back_29 rfl (lv_at hl 1 rfl) ?_
          refine x_get (x := .ref (ad 3)) hE hK hP 0 (Nat.lt_of_lt_of_le (by decide) hNN) (xG_8 rfl) rfl hin8 1 (by decide) mw_481 rfl dX8_back_30 ?_
          refine lv_aload_n hE.1 hE.2.1 dX8_back_33 rfl (lv_at hl 0 rfl) ?_
          refine x_get (x := .ref (ad 76)) hE hK hP 75 (Nat.lt_of_lt_of_le (by decide) hNN) (xG_3 rfl) rfl hin3 0 (by decide) mw_469 rfl dX8_back_34 ?_
          refine x_vv (nn := 1) (As := [.ref (ad 76)]) (rest := []) hE hK hN hP hS (s_X1_copyFrom_3_76 l D K ad mm N hNN v ar al hI  ) (x_recv hK hP 3 (Nat.lt_of_lt_of_le (by decide) hNN) (xG_1 rfl) rfl) rfl mw_674 mw_675 mw_676 mw_116 mw_677 (by decide +kernel) ⟨by decide, by decide⟩ hl.1 rfl (Nat.le_of_ble_eq_true rfl) ⟨Nat.zero_le _, Nat.zero_le _⟩ dX8_back_37 (fun v4 ar4 al4 H locs hq4 hP hS => ?_)
          obtain ⟨hI, hq4⟩ := hq4
          have hI : XI v4 := hI
          refine lv_aload_n hE.1 hE.2.1 dX8_back_40 rfl (lv_at hl 1 rfl) ?_
          refine x_get (x := .ref (ad 23)) hE hK hP 0 (Nat.lt_of_lt_of_le (by decide) hNN) (xG_8 rfl) rfl hin8 3 (by decide) mw_483 rfl dX8_back_41 ?_
          refine lv_aload_n hE.1 hE.2.1 dX8_back_44 rfl (lv_at hl 0 rfl) ?_
          refine x_get (x := .ref (ad 86)) hE hK hP 75 (Nat.lt_of_lt_of_le (by decide) hNN) (xG_3 rfl) rfl hin3 1 (by decide) mw_471 rfl dX8_back_45 ?_
          refine x_vv (nn := 1) (As := [.ref (ad 86)]) (rest := []) hE hK hN hP hS (s_X7_copyFrom_23_86 l D K ad mm N hNN v4 ar4 al4 hI  ) (x_recv hK hP 23 (Nat.lt_of_lt_of_le (by decide) hNN) (xG_7 rfl) rfl) rfl mw_1267 mw_909 mw_910 mw_117 mw_911 (by decide +kernel) ⟨by decide, by decide⟩ hl.1 rfl (Nat.le_of_ble_eq_true rfl) ⟨Nat.zero_le _, Nat.zero_le _⟩ dX8_back_48 (fun v5 ar5 al5 H locs hq5 hP hS => ?_)
          obtain ⟨hI, hq5⟩ := hq5
          have hI : XI v5 := hI
          refine lv_iconst (v := iI (0)) hE.1 hE.2.1 dX8_back_51 (by decide) ?_
          exact kr _ _ _ _ _ _ _ _ rfl ⟨⟨0, by omega, rfl⟩, hI, fun i j h => ((hq5 i j (fun q => h (mem_sub (by decide) q))).trans (hq4 i j (fun q => h (mem_sub (by decide) q))))⟩ hP hS dX8_back_52
        · skip
          refine lv_bipush (v := iI (-6)) hE.1 hE.2.1 dX8_back_26 (by decide) ?_
          exact kr _ _ _ _ _ _ _ _ rfl ⟨⟨-6, by omega, rfl⟩, hI, fun i j h => rfl⟩ hP hS dX8_back_28
      · skip
        refine x_aald (r := .ref (ad 94)) hE hK hP 66 5 (Nat.lt_of_lt_of_le (by decide) hNN) (xG_14 rfl) rfl (by unfold vp_in; decide) rfl dX8_back_17 ?_
        refine lv_astore_n (lv' := [(2, .ref (ad 94)), (0, .ref (ad 0)), (1, .int (iI (1)))]) hE.1 hE.2.1 dX8_back_18 rfl hl (by decide) rfl (fun ls hl => ?_)
        refine lv_aload_n hE.1 hE.2.1 dX8_back_19 rfl (lv_at hl 0 rfl) ?_
        refine x_get (x := .int (v 94 2)) hE hK hP 94 (Nat.lt_of_lt_of_le (by decide) hNN) (xG_3 rfl) rfl hin3 2 (by decide) mw_472 rfl dX8_back_20 ?_
        refine x_top (y := iI (w_2)) ew_2 ?_
        refine s_if_ne (a := w_2) (tgt := 29) hE.1 hE.2.1 (by omega) dX8_back_23 (by decide) (fun c6 => ?_) (fun c6 => ?_)
        · skip
          refine lv_aload_n hE.1 hE.2.1 dX8_back_29 rfl (lv_at hl 1 rfl) ?_
          refine x_get (x := .ref (ad 3)) hE hK hP 0 (Nat.lt_of_lt_of_le (by decide) hNN) (xG_8 rfl) rfl hin8 1 (by decide) mw_481 rfl dX8_back_30 ?_
          refine lv_aload_n hE.1 hE.2.1 dX8_back_33 rfl (lv_at hl 0 rfl) ?_
          refine x_get (x := .ref (ad 95)) hE hK hP 94 (Nat.lt_of_lt_of_le (by decide) hNN) (xG_3 rfl) rfl hin3 0 (by decide) mw_469 rfl dX8_back_34 ?_
          refine x_vv (nn := 1) (As := [.ref (ad 95)]) (rest := []) hE hK hN hP hS (s_X1_copyFrom_3_95 l D K ad mm N hNN v ar al hI  ) (x_recv hK hP 3 (Nat.lt_of_lt_of_le (by decide) hNN) (xG_1 rfl) rfl) rfl mw_674 mw_675 mw_676 mw_116 mw_677 (by decide +kernel) ⟨by decide, by decide⟩ hl.1 rfl (Nat.le_of_ble_eq_true rfl) ⟨Nat.zero_le _, Nat.zero_le _⟩ dX8_back_37 (fun v7 ar7 al7 H locs hq7 hP hS => ?_)
          obtain ⟨hI, hq7⟩ := hq7
          have hI : XI v7 := hI
          refine lv_aload_n hE.1 hE.2.1 dX8_back_40 rfl (lv_at hl 1 rfl) ?_
          refine x_get (x := .ref (ad 23)) hE hK hP 0 (Nat.lt_of_lt_of_le (by decide) hNN) (xG_8 rfl) rfl hin8 3 (by decide) mw_483 rfl dX8_back_41 ?_
          refine lv_aload_n hE.1 hE.2.1 dX8_back_44 rfl (lv_at hl 0 rfl) ?_
          refine x_get (x := .ref (ad 105)) hE hK hP 94 (Nat.lt_of_lt_of_le (by decide) hNN) (xG_3 rfl) rfl hin3 1 (by decide) mw_471 rfl dX8_back_45 ?_
          refine x_vv (nn := 1) (As := [.ref (ad 105)]) (rest := []) hE hK hN hP hS (s_X7_copyFrom_23_105 l D K ad mm N hNN v7 ar7 al7 hI  ) (x_recv hK hP 23 (Nat.lt_of_lt_of_le (by decide) hNN) (xG_7 rfl) rfl) rfl mw_1267 mw_909 mw_910 mw_117 mw_911 (by decide +kernel) ⟨by decide, by decide⟩ hl.1 rfl (Nat.le_of_ble_eq_true rfl) ⟨Nat.zero_le _, Nat.zero_le _⟩ dX8_back_48 (fun v8 ar8 al8 H locs hq8 hP hS => ?_)
          obtain ⟨hI, hq8⟩ := hq8
          have hI : XI v8 := hI
          refine lv_iconst (v := iI (0)) hE.1 hE.2.1 dX8_back_51 (by decide) ?_
          exact kr _ _ _ _ _ _ _ _ rfl ⟨⟨0, by omega, rfl⟩, hI, fun i j h => ((hq8 i j (fun q => h (mem_sub (by decide) q))).trans (hq7 i j (fun q => h (mem_sub (by decide) q))))⟩ hP hS dX8_back_52
        · skip
          refine lv_bipush (v := iI (-6)) hE.1 hE.2.1 dX8_back_26 (by decide) ?_
          exact kr _ _ _ _ _ _ _ _ rfl ⟨⟨-6, by omega, rfl⟩, hI, fun i j h => rfl⟩ hP hS dX8_back_28
      · skip
        refine x_aald (r := .ref (ad 113)) hE hK hP 66 5 (Nat.lt_of_lt_of_le (by decide) hNN) (xG_14 rfl) rfl (by unfold vp_in; decide) rfl dX8_back_17 ?_
        refine lv_astore_n (lv' := [(2, .ref (ad 113)), (0, .ref (ad 0)), (1, .int (iI (2)))]) hE.1 hE.2.1 dX8_back_18 rfl hl (by decide) rfl (fun ls hl => ?_)
        refine lv_aload_n hE.1 hE.2.1 dX8_back_19 rfl (lv_at hl 0 rfl) ?_
        refine x_get (x := .int (v 113 2)) hE hK hP 113 (Nat.lt_of_lt_of_le (by decide) hNN) (xG_3 rfl) rfl hin3 2 (by decide) mw_472 rfl dX8_back_20 ?_
        refine x_top (y := iI (w_3)) ew_3 ?_
        refine s_if_ne (a := w_3) (tgt := 29) hE.1 hE.2.1 (by omega) dX8_back_23 (by decide) (fun c9 => ?_) (fun c9 => ?_)
        · skip
          refine lv_aload_n hE.1 hE.2.1 dX8_back_29 rfl (lv_at hl 1 rfl) ?_
          refine x_get (x := .ref (ad 3)) hE hK hP 0 (Nat.lt_of_lt_of_le (by decide) hNN) (xG_8 rfl) rfl hin8 1 (by decide) mw_481 rfl dX8_back_30 ?_
          refine lv_aload_n hE.1 hE.2.1 dX8_back_33 rfl (lv_at hl 0 rfl) ?_
          refine x_get (x := .ref (ad 114)) hE hK hP 113 (Nat.lt_of_lt_of_le (by decide) hNN) (xG_3 rfl) rfl hin3 0 (by decide) mw_469 rfl dX8_back_34 ?_
          refine x_vv (nn := 1) (As := [.ref (ad 114)]) (rest := []) hE hK hN hP hS (s_X1_copyFrom_3_114 l D K ad mm N hNN v ar al hI  ) (x_recv hK hP 3 (Nat.lt_of_lt_of_le (by decide) hNN) (xG_1 rfl) rfl) rfl mw_674 mw_675 mw_676 mw_116 mw_677 (by decide +kernel) ⟨by decide, by decide⟩ hl.1 rfl (Nat.le_of_ble_eq_true rfl) ⟨Nat.zero_le _, Nat.zero_le _⟩ dX8_back_37 (fun v10 ar10 al10 H locs hq10 hP hS => ?_)
          obtain ⟨hI, hq10⟩ := hq10
          have hI : XI v10 := hI
          refine lv_aload_n hE.1 hE.2.1 dX8_back_40 rfl (lv_at hl 1 rfl) ?_
          refine x_get (x := .ref (ad 23)) hE hK hP 0 (Nat.lt_of_lt_of_le (by decide) hNN) (xG_8 rfl) rfl hin8 3 (by decide) mw_483 rfl dX8_back_41 ?_
          refine lv_aload_n hE.1 hE.2.1 dX8_back_44 rfl (lv_at hl 0 rfl) ?_
          refine x_get (x := .ref (ad 124)) hE hK hP 113 (Nat.lt_of_lt_of_le (by decide) hNN) (xG_3 rfl) rfl hin3 1 (by decide) mw_471 rfl dX8_back_45 ?_
          refine x_vv (nn := 1) (As := [.ref (ad 124)]) (rest := []) hE hK hN hP hS (s_X7_copyFrom_23_124 l D K ad mm N hNN v10 ar10 al10 hI  ) (x_recv hK hP 23 (Nat.lt_of_lt_of_le (by decide) hNN) (xG_7 rfl) rfl) rfl mw_1267 mw_909 mw_910 mw_117 mw_911 (by decide +kernel) ⟨by decide, by decide⟩ hl.1 rfl (Nat.le_of_ble_eq_true rfl) ⟨Nat.zero_le _, Nat.zero_le _⟩ dX8_back_48 (fun v11 ar11 al11 H locs hq11 hP hS => ?_)
          obtain ⟨hI, hq11⟩ := hq11
          have hI : XI v11 := hI
          refine lv_iconst (v := iI (0)) hE.1 hE.2.1 dX8_back_51 (by decide) ?_
          exact kr _ _ _ _ _ _ _ _ rfl ⟨⟨0, by omega, rfl⟩, hI, fun i j h => ((hq11 i j (fun q => h (mem_sub (by decide) q))).trans (hq10 i j (fun q => h (mem_sub (by decide) q))))⟩ hP hS dX8_back_52
        · skip
          refine lv_bipush (v := iI (-6)) hE.1 hE.2.1 dX8_back_26 (by decide) ?_
          exact kr _ _ _ _ _ _ _ _ rfl ⟨⟨-6, by omega, rfl⟩, hI, fun i j h => rfl⟩ hP hS dX8_back_28
    · skip
      refine lv_bipush (v := iI (-2)) hE.1 hE.2.1 dX8_back_9 (by decide) ?_
      exact kr _ _ _ _ _ _ _ _ rfl ⟨⟨-2, by omega, rfl⟩, hI, fun i j h => rfl⟩ hP hS dX8_back_11

theorem dX8_isSlot_0 : decode cX8_isSlot 0 = .ok (.iload_n 0, 1) := by decide +kernel
theorem dX8_isSlot_1 : decode cX8_isSlot 1 = .ok (.ifCond .lt 12, 3) := by decide +kernel
theorem dX8_isSlot_4 : decode cX8_isSlot 4 = .ok (.iload_n 0, 1) := by decide +kernel
theorem dX8_isSlot_5 : decode cX8_isSlot 5 = .ok (.iconst 4, 1) := by decide +kernel
theorem dX8_isSlot_6 : decode cX8_isSlot 6 = .ok (.if_icmp .ge 7, 3) := by decide +kernel
theorem dX8_isSlot_9 : decode cX8_isSlot 9 = .ok (.iconst 1, 1) := by decide +kernel
theorem dX8_isSlot_10 : decode cX8_isSlot 10 = .ok (.goto 4, 3) := by decide +kernel
theorem dX8_isSlot_13 : decode cX8_isSlot 13 = .ok (.iconst 0, 1) := by decide +kernel
theorem dX8_isSlot_14 : decode cX8_isSlot 14 = .ok (.ireturn, 1) := by decide +kernel
set_option maxHeartbeats 4000000 in
set_option maxRecDepth 100000 in
theorem s_X8_isSlot (l : Launch) (z_1 : Int) (hz_1 : -2147483648 ≤ z_1 ∧ z_1 ≤ 2147483647) : Met l yX8_isSlot (wM yX8_isSlot cX8_isSlot 1 (some .boolean)) (rmD 0) (va_Pc [.int (iI (z_1))] (fun _ => True)) (vp_Si (fun r => ∃ z : Int, ((z = 0 ∧ (z_1 < 0 ∨ 3 < z_1)) ∨ (z = 1 ∧ 0 ≤ z_1 ∧ z_1 ≤ 3)) ∧ r = iI z)) 0 0 (fun _ => False) := by
  refine s_metP (by decide) (Nat.le_of_ble_eq_true rfl) ?_
  intro p e s m below meth c ls args Q hE hB hl kr
  have hE : CallFix p m c cX8_isSlot 1 s args tbG "TaleCourt" := hE
  have hl : lv_has ls 1 [(0, .int (iI (z_1)))] := hl
  refine lv_iload_n hE.1 hE.2.1 dX8_isSlot_0 rfl (lv_at hl 0 rfl) ?_
  refine s_if_lt (a := z_1) (tgt := 13) hE.1 hE.2.1 (by omega) dX8_isSlot_1 (by decide) (fun c1 => ?_) (fun c1 => ?_)
  · skip
    refine lv_iconst (v := iI (0)) hE.1 hE.2.1 dX8_isSlot_13 (by decide) ?_
    exact kr _ _ _ (nar01 (by omega)) ⟨0, by omega, rfl⟩ dX8_isSlot_14
  · skip
    refine lv_iload_n hE.1 hE.2.1 dX8_isSlot_4 rfl (lv_at hl 0 rfl) ?_
    refine lv_iconst (v := iI (4)) hE.1 hE.2.1 dX8_isSlot_5 (by decide) ?_
    refine s_icmp_ge (a := z_1) (b := 4) (tgt := 13) hE.1 hE.2.1 (by omega) (by omega) dX8_isSlot_6 (by decide) (fun c2 => ?_) (fun c2 => ?_)
    · skip
      refine lv_iconst (v := iI (0)) hE.1 hE.2.1 dX8_isSlot_13 (by decide) ?_
      exact kr _ _ _ (nar01 (by omega)) ⟨0, by omega, rfl⟩ dX8_isSlot_14
    · skip
      refine lv_iconst (v := iI (1)) hE.1 hE.2.1 dX8_isSlot_9 (by decide) ?_
      refine lv_goto (tgt := 14) hE.1 hE.2.1 dX8_isSlot_10 (by decide) ?_
      exact kr _ _ _ (nar01 (by omega)) ⟨1, by omega, rfl⟩ dX8_isSlot_14

theorem dX5_begin_0 : decode cX5_begin 0 = .ok (.aload_n 0, 1) := by decide +kernel
theorem dX5_begin_1 : decode cX5_begin 1 = .ok (.iload_n 1, 1) := by decide +kernel
theorem dX5_begin_2 : decode cX5_begin 2 = .ok (.putfield 19, 3) := by decide +kernel
theorem dX5_begin_5 : decode cX5_begin 5 = .ok (.aload_n 0, 1) := by decide +kernel
theorem dX5_begin_6 : decode cX5_begin 6 = .ok (.iload_n 2, 1) := by decide +kernel
theorem dX5_begin_7 : decode cX5_begin 7 = .ok (.putfield 15, 3) := by decide +kernel
theorem dX5_begin_10 : decode cX5_begin 10 = .ok (.aload_n 0, 1) := by decide +kernel
theorem dX5_begin_11 : decode cX5_begin 11 = .ok (.getfield 9, 3) := by decide +kernel
theorem dX5_begin_14 : decode cX5_begin 14 = .ok (.lconst 0, 1) := by decide +kernel
theorem dX5_begin_15 : decode cX5_begin 15 = .ok (.invokestatic 22, 3) := by decide +kernel
theorem dX5_begin_18 : decode cX5_begin 18 = .ok (.return_, 1) := by decide +kernel
set_option maxHeartbeats 4000000 in
set_option maxRecDepth 100000 in
theorem s_X5_begin_67 (l : Launch) (D : va_G) (K : Nat → ClassId) (ad : Nat → Nat) (mm : Option Nat) (N : Nat) (hNN : 132 ≤ N) (v ar : sI) (al : sL) (hI : XI v) (z_1 : Int) (hz_1 : -2147483648 ≤ z_1 ∧ z_1 ≤ 2147483647) (z_2 : Int) (hz_2 : 0 ≤ z_2 ∧ z_2 ≤ 60) : Met l yX5_begin (wM yX5_begin cX5_begin 3 none) (rmD 1) (va_Pc [.ref (ad 67), .int (iI (z_1)), .int (iI (z_2))] (wPre D K ad (xG ad K mm) N v ar al)) (va_Qv (fun u : sT => XI u.1 ∧ (∀ i j : Nat, (i, j) ∉ ([(67, 1), (67, 2)] : List (Nat × Nat)) → u.1 i j = v i j)) (wB D ad (xG ad K mm) N) (inW ad N)) 0 0 (inW ad N) := by
  refine s_metV (by decide) (Nat.le_of_ble_eq_true rfl) ?_
  intro p e s m below meth c ls args Q hE hB hl kr
  have hE : CallFix p m c cX5_begin 3 s args tbG "TaleCourt$Row" := hE
  obtain ⟨hP, hK, hN⟩ := hB
  have hS : va_S (inW ad N) s.heap s.heap [] := va_S.rf
  have hl : lv_has ls 3 [(0, .ref (ad 67)), (1, .int (iI (z_1))), (2, .int (iI (z_2)))] := hl
  refine lv_aload_n hE.1 hE.2.1 dX5_begin_0 rfl (lv_at hl 0 rfl) ?_
  refine lv_iload_n hE.1 hE.2.1 dX5_begin_1 rfl (lv_at hl 1 rfl) ?_
  refine x_put (x := iI (z_1)) hE hK hN hP hS 67 (Nat.lt_of_lt_of_le (by decide) hNN) (xG_5 rfl) rfl hin5 tyX5 tyX5_ok nmX5 1 (by decide) mw_447 rfl rfl rfl (Nat.le_of_ble_eq_true rfl) (xG_5 rfl) dX5_begin_2 (fun v1 H locs hv1 hP hS => ?_)
  have hI := XI_putN hI hv1 (by decide)
  refine lv_aload_n hE.1 hE.2.1 dX5_begin_5 rfl (lv_at hl 0 rfl) ?_
  refine lv_iload_n hE.1 hE.2.1 dX5_begin_6 rfl (lv_at hl 2 rfl) ?_
  refine x_put (x := iI (z_2)) hE hK hN hP hS 67 (Nat.lt_of_lt_of_le (by decide) hNN) (xG_5 rfl) rfl hin5 tyX5 tyX5_ok nmX5 2 (by decide) mw_449 rfl rfl rfl (Nat.le_of_ble_eq_true rfl) (xG_5 rfl) dX5_begin_7 (fun v2 H locs hv2 hP hS => ?_)
  have hI := XI_putB (z := z_2) hI hv2 (-1) 60 (by omega) (by decide) (by omega)
  refine lv_aload_n hE.1 hE.2.1 dX5_begin_10 rfl (lv_at hl 0 rfl) ?_
  refine x_get (x := .ref (ad 68)) hE hK hP 67 (Nat.lt_of_lt_of_le (by decide) hNN) (xG_5 rfl) rfl hin5 0 (by decide) mw_445 rfl dX5_begin_11 ?_
  refine lv_lconst (v := lI (0)) hE.1 hE.2.1 dX5_begin_14 (by decide) ?_
  refine x_sv (nn := 2) (As := [.ref (ad 68), .long (lI (0))]) (rest := []) hE hK hN hP hS (k_fillL l D K ad v2 ar al 68 60 (Nat.lt_of_lt_of_le (by decide) hNN) (fun _ => xG_11 rfl) (Nat.le_of_ble_eq_true rfl) (lI (0))) rfl mw_1307 mw_1308 mw_124 mw_1309 (by decide +kernel) ⟨by decide, by decide⟩ hl.1 rfl (Nat.le_of_ble_eq_true rfl) ⟨Nat.zero_le _, Nat.zero_le _⟩ dX5_begin_15 (fun v3 ar3 al3 H locs hq3 hP hS => ?_)
  rw [show v3 = v2 from hq3.1] at hP
  exact kr _ _ _ _ _ _ _ ⟨hI, fun i j h => ((up_oth hv2 (fun q => h (by rcases q with ⟨rfl, rfl⟩; decide))).trans (up_oth hv1 (fun q => h (by rcases q with ⟨rfl, rfl⟩; decide))))⟩ hP hS dX5_begin_18

set_option maxHeartbeats 4000000 in
set_option maxRecDepth 100000 in
theorem s_X5_begin_69 (l : Launch) (D : va_G) (K : Nat → ClassId) (ad : Nat → Nat) (mm : Option Nat) (N : Nat) (hNN : 132 ≤ N) (v ar : sI) (al : sL) (hI : XI v) (z_1 : Int) (hz_1 : -2147483648 ≤ z_1 ∧ z_1 ≤ 2147483647) (z_2 : Int) (hz_2 : 0 ≤ z_2 ∧ z_2 ≤ 60) : Met l yX5_begin (wM yX5_begin cX5_begin 3 none) (rmD 1) (va_Pc [.ref (ad 69), .int (iI (z_1)), .int (iI (z_2))] (wPre D K ad (xG ad K mm) N v ar al)) (va_Qv (fun u : sT => XI u.1 ∧ (∀ i j : Nat, (i, j) ∉ ([(69, 1), (69, 2)] : List (Nat × Nat)) → u.1 i j = v i j)) (wB D ad (xG ad K mm) N) (inW ad N)) 0 0 (inW ad N) := by
  refine s_metV (by decide) (Nat.le_of_ble_eq_true rfl) ?_
  intro p e s m below meth c ls args Q hE hB hl kr
  have hE : CallFix p m c cX5_begin 3 s args tbG "TaleCourt$Row" := hE
  obtain ⟨hP, hK, hN⟩ := hB
  have hS : va_S (inW ad N) s.heap s.heap [] := va_S.rf
  have hl : lv_has ls 3 [(0, .ref (ad 69)), (1, .int (iI (z_1))), (2, .int (iI (z_2)))] := hl
  refine lv_aload_n hE.1 hE.2.1 dX5_begin_0 rfl (lv_at hl 0 rfl) ?_
  refine lv_iload_n hE.1 hE.2.1 dX5_begin_1 rfl (lv_at hl 1 rfl) ?_
  refine x_put (x := iI (z_1)) hE hK hN hP hS 69 (Nat.lt_of_lt_of_le (by decide) hNN) (xG_5 rfl) rfl hin5 tyX5 tyX5_ok nmX5 1 (by decide) mw_447 rfl rfl rfl (Nat.le_of_ble_eq_true rfl) (xG_5 rfl) dX5_begin_2 (fun v1 H locs hv1 hP hS => ?_)
  have hI := XI_putN hI hv1 (by decide)
  refine lv_aload_n hE.1 hE.2.1 dX5_begin_5 rfl (lv_at hl 0 rfl) ?_
  refine lv_iload_n hE.1 hE.2.1 dX5_begin_6 rfl (lv_at hl 2 rfl) ?_
  refine x_put (x := iI (z_2)) hE hK hN hP hS 69 (Nat.lt_of_lt_of_le (by decide) hNN) (xG_5 rfl) rfl hin5 tyX5 tyX5_ok nmX5 2 (by decide) mw_449 rfl rfl rfl (Nat.le_of_ble_eq_true rfl) (xG_5 rfl) dX5_begin_7 (fun v2 H locs hv2 hP hS => ?_)
  have hI := XI_putB (z := z_2) hI hv2 (-1) 60 (by omega) (by decide) (by omega)
  refine lv_aload_n hE.1 hE.2.1 dX5_begin_10 rfl (lv_at hl 0 rfl) ?_
  refine x_get (x := .ref (ad 70)) hE hK hP 69 (Nat.lt_of_lt_of_le (by decide) hNN) (xG_5 rfl) rfl hin5 0 (by decide) mw_445 rfl dX5_begin_11 ?_
  refine lv_lconst (v := lI (0)) hE.1 hE.2.1 dX5_begin_14 (by decide) ?_
  refine x_sv (nn := 2) (As := [.ref (ad 70), .long (lI (0))]) (rest := []) hE hK hN hP hS (k_fillL l D K ad v2 ar al 70 60 (Nat.lt_of_lt_of_le (by decide) hNN) (fun _ => xG_11 rfl) (Nat.le_of_ble_eq_true rfl) (lI (0))) rfl mw_1307 mw_1308 mw_124 mw_1309 (by decide +kernel) ⟨by decide, by decide⟩ hl.1 rfl (Nat.le_of_ble_eq_true rfl) ⟨Nat.zero_le _, Nat.zero_le _⟩ dX5_begin_15 (fun v3 ar3 al3 H locs hq3 hP hS => ?_)
  rw [show v3 = v2 from hq3.1] at hP
  exact kr _ _ _ _ _ _ _ ⟨hI, fun i j h => ((up_oth hv2 (fun q => h (by rcases q with ⟨rfl, rfl⟩; decide))).trans (up_oth hv1 (fun q => h (by rcases q with ⟨rfl, rfl⟩; decide))))⟩ hP hS dX5_begin_18

set_option maxHeartbeats 4000000 in
set_option maxRecDepth 100000 in
theorem s_X5_begin_71 (l : Launch) (D : va_G) (K : Nat → ClassId) (ad : Nat → Nat) (mm : Option Nat) (N : Nat) (hNN : 132 ≤ N) (v ar : sI) (al : sL) (hI : XI v) (z_1 : Int) (hz_1 : -2147483648 ≤ z_1 ∧ z_1 ≤ 2147483647) (z_2 : Int) (hz_2 : 0 ≤ z_2 ∧ z_2 ≤ 60) : Met l yX5_begin (wM yX5_begin cX5_begin 3 none) (rmD 1) (va_Pc [.ref (ad 71), .int (iI (z_1)), .int (iI (z_2))] (wPre D K ad (xG ad K mm) N v ar al)) (va_Qv (fun u : sT => XI u.1 ∧ (∀ i j : Nat, (i, j) ∉ ([(71, 1), (71, 2)] : List (Nat × Nat)) → u.1 i j = v i j)) (wB D ad (xG ad K mm) N) (inW ad N)) 0 0 (inW ad N) := by
  refine s_metV (by decide) (Nat.le_of_ble_eq_true rfl) ?_
  intro p e s m below meth c ls args Q hE hB hl kr
  have hE : CallFix p m c cX5_begin 3 s args tbG "TaleCourt$Row" := hE
  obtain ⟨hP, hK, hN⟩ := hB
  have hS : va_S (inW ad N) s.heap s.heap [] := va_S.rf
  have hl : lv_has ls 3 [(0, .ref (ad 71)), (1, .int (iI (z_1))), (2, .int (iI (z_2)))] := hl
  refine lv_aload_n hE.1 hE.2.1 dX5_begin_0 rfl (lv_at hl 0 rfl) ?_
  refine lv_iload_n hE.1 hE.2.1 dX5_begin_1 rfl (lv_at hl 1 rfl) ?_
  refine x_put (x := iI (z_1)) hE hK hN hP hS 71 (Nat.lt_of_lt_of_le (by decide) hNN) (xG_5 rfl) rfl hin5 tyX5 tyX5_ok nmX5 1 (by decide) mw_447 rfl rfl rfl (Nat.le_of_ble_eq_true rfl) (xG_5 rfl) dX5_begin_2 (fun v1 H locs hv1 hP hS => ?_)
  have hI := XI_putN hI hv1 (by decide)
  refine lv_aload_n hE.1 hE.2.1 dX5_begin_5 rfl (lv_at hl 0 rfl) ?_
  refine lv_iload_n hE.1 hE.2.1 dX5_begin_6 rfl (lv_at hl 2 rfl) ?_
  refine x_put (x := iI (z_2)) hE hK hN hP hS 71 (Nat.lt_of_lt_of_le (by decide) hNN) (xG_5 rfl) rfl hin5 tyX5 tyX5_ok nmX5 2 (by decide) mw_449 rfl rfl rfl (Nat.le_of_ble_eq_true rfl) (xG_5 rfl) dX5_begin_7 (fun v2 H locs hv2 hP hS => ?_)
  have hI := XI_putB (z := z_2) hI hv2 (-1) 60 (by omega) (by decide) (by omega)
  refine lv_aload_n hE.1 hE.2.1 dX5_begin_10 rfl (lv_at hl 0 rfl) ?_
  refine x_get (x := .ref (ad 72)) hE hK hP 71 (Nat.lt_of_lt_of_le (by decide) hNN) (xG_5 rfl) rfl hin5 0 (by decide) mw_445 rfl dX5_begin_11 ?_
  refine lv_lconst (v := lI (0)) hE.1 hE.2.1 dX5_begin_14 (by decide) ?_
  refine x_sv (nn := 2) (As := [.ref (ad 72), .long (lI (0))]) (rest := []) hE hK hN hP hS (k_fillL l D K ad v2 ar al 72 60 (Nat.lt_of_lt_of_le (by decide) hNN) (fun _ => xG_11 rfl) (Nat.le_of_ble_eq_true rfl) (lI (0))) rfl mw_1307 mw_1308 mw_124 mw_1309 (by decide +kernel) ⟨by decide, by decide⟩ hl.1 rfl (Nat.le_of_ble_eq_true rfl) ⟨Nat.zero_le _, Nat.zero_le _⟩ dX5_begin_15 (fun v3 ar3 al3 H locs hq3 hP hS => ?_)
  rw [show v3 = v2 from hq3.1] at hP
  exact kr _ _ _ _ _ _ _ ⟨hI, fun i j h => ((up_oth hv2 (fun q => h (by rcases q with ⟨rfl, rfl⟩; decide))).trans (up_oth hv1 (fun q => h (by rcases q with ⟨rfl, rfl⟩; decide))))⟩ hP hS dX5_begin_18

set_option maxHeartbeats 4000000 in
set_option maxRecDepth 100000 in
theorem s_X5_begin_73 (l : Launch) (D : va_G) (K : Nat → ClassId) (ad : Nat → Nat) (mm : Option Nat) (N : Nat) (hNN : 132 ≤ N) (v ar : sI) (al : sL) (hI : XI v) (z_1 : Int) (hz_1 : -2147483648 ≤ z_1 ∧ z_1 ≤ 2147483647) (z_2 : Int) (hz_2 : 0 ≤ z_2 ∧ z_2 ≤ 60) : Met l yX5_begin (wM yX5_begin cX5_begin 3 none) (rmD 1) (va_Pc [.ref (ad 73), .int (iI (z_1)), .int (iI (z_2))] (wPre D K ad (xG ad K mm) N v ar al)) (va_Qv (fun u : sT => XI u.1 ∧ (∀ i j : Nat, (i, j) ∉ ([(73, 1), (73, 2)] : List (Nat × Nat)) → u.1 i j = v i j)) (wB D ad (xG ad K mm) N) (inW ad N)) 0 0 (inW ad N) := by
  refine s_metV (by decide) (Nat.le_of_ble_eq_true rfl) ?_
  intro p e s m below meth c ls args Q hE hB hl kr
  have hE : CallFix p m c cX5_begin 3 s args tbG "TaleCourt$Row" := hE
  obtain ⟨hP, hK, hN⟩ := hB
  have hS : va_S (inW ad N) s.heap s.heap [] := va_S.rf
  have hl : lv_has ls 3 [(0, .ref (ad 73)), (1, .int (iI (z_1))), (2, .int (iI (z_2)))] := hl
  refine lv_aload_n hE.1 hE.2.1 dX5_begin_0 rfl (lv_at hl 0 rfl) ?_
  refine lv_iload_n hE.1 hE.2.1 dX5_begin_1 rfl (lv_at hl 1 rfl) ?_
  refine x_put (x := iI (z_1)) hE hK hN hP hS 73 (Nat.lt_of_lt_of_le (by decide) hNN) (xG_5 rfl) rfl hin5 tyX5 tyX5_ok nmX5 1 (by decide) mw_447 rfl rfl rfl (Nat.le_of_ble_eq_true rfl) (xG_5 rfl) dX5_begin_2 (fun v1 H locs hv1 hP hS => ?_)
  have hI := XI_putN hI hv1 (by decide)
  refine lv_aload_n hE.1 hE.2.1 dX5_begin_5 rfl (lv_at hl 0 rfl) ?_
  refine lv_iload_n hE.1 hE.2.1 dX5_begin_6 rfl (lv_at hl 2 rfl) ?_
  refine x_put (x := iI (z_2)) hE hK hN hP hS 73 (Nat.lt_of_lt_of_le (by decide) hNN) (xG_5 rfl) rfl hin5 tyX5 tyX5_ok nmX5 2 (by decide) mw_449 rfl rfl rfl (Nat.le_of_ble_eq_true rfl) (xG_5 rfl) dX5_begin_7 (fun v2 H locs hv2 hP hS => ?_)
  have hI := XI_putB (z := z_2) hI hv2 (-1) 60 (by omega) (by decide) (by omega)
  refine lv_aload_n hE.1 hE.2.1 dX5_begin_10 rfl (lv_at hl 0 rfl) ?_
  refine x_get (x := .ref (ad 74)) hE hK hP 73 (Nat.lt_of_lt_of_le (by decide) hNN) (xG_5 rfl) rfl hin5 0 (by decide) mw_445 rfl dX5_begin_11 ?_
  refine lv_lconst (v := lI (0)) hE.1 hE.2.1 dX5_begin_14 (by decide) ?_
  refine x_sv (nn := 2) (As := [.ref (ad 74), .long (lI (0))]) (rest := []) hE hK hN hP hS (k_fillL l D K ad v2 ar al 74 60 (Nat.lt_of_lt_of_le (by decide) hNN) (fun _ => xG_11 rfl) (Nat.le_of_ble_eq_true rfl) (lI (0))) rfl mw_1307 mw_1308 mw_124 mw_1309 (by decide +kernel) ⟨by decide, by decide⟩ hl.1 rfl (Nat.le_of_ble_eq_true rfl) ⟨Nat.zero_le _, Nat.zero_le _⟩ dX5_begin_15 (fun v3 ar3 al3 H locs hq3 hP hS => ?_)
  rw [show v3 = v2 from hq3.1] at hP
  exact kr _ _ _ _ _ _ _ ⟨hI, fun i j h => ((up_oth hv2 (fun q => h (by rcases q with ⟨rfl, rfl⟩; decide))).trans (up_oth hv1 (fun q => h (by rcases q with ⟨rfl, rfl⟩; decide))))⟩ hP hS dX5_begin_18

theorem dX8_row_0 : decode cX8_row 0 = .ok (.iload_n 1, 1) := by decide +kernel
theorem dX8_row_1 : decode cX8_row 1 = .ok (.invokestatic 260, 3) := by decide +kernel
theorem dX8_row_4 : decode cX8_row 4 = .ok (.ifCond .eq 18, 3) := by decide +kernel
theorem dX8_row_7 : decode cX8_row 7 = .ok (.iload_n 2, 1) := by decide +kernel
theorem dX8_row_8 : decode cX8_row 8 = .ok (.ifCond .lt 14, 3) := by decide +kernel
theorem dX8_row_11 : decode cX8_row 11 = .ok (.iload_n 2, 1) := by decide +kernel
theorem dX8_row_12 : decode cX8_row 12 = .ok (.iconst 4, 1) := by decide +kernel
theorem dX8_row_13 : decode cX8_row 13 = .ok (.if_icmp .ge 9, 3) := by decide +kernel
theorem dX8_row_16 : decode cX8_row 16 = .ok (.iload_n 3, 1) := by decide +kernel
theorem dX8_row_17 : decode cX8_row 17 = .ok (.bipush 60, 2) := by decide +kernel
theorem dX8_row_19 : decode cX8_row 19 = .ok (.if_icmp .le 6, 3) := by decide +kernel
theorem dX8_row_22 : decode cX8_row 22 = .ok (.bipush (-2), 2) := by decide +kernel
theorem dX8_row_24 : decode cX8_row 24 = .ok (.ireturn, 1) := by decide +kernel
theorem dX8_row_25 : decode cX8_row 25 = .ok (.iload_n 3, 1) := by decide +kernel
theorem dX8_row_26 : decode cX8_row 26 = .ok (.ifCond .ge 6, 3) := by decide +kernel
theorem dX8_row_29 : decode cX8_row 29 = .ok (.bipush (-3), 2) := by decide +kernel
theorem dX8_row_31 : decode cX8_row 31 = .ok (.ireturn, 1) := by decide +kernel
theorem dX8_row_32 : decode cX8_row 32 = .ok (.aload_n 0, 1) := by decide +kernel
theorem dX8_row_33 : decode cX8_row 33 = .ok (.getfield 63, 3) := by decide +kernel
theorem dX8_row_36 : decode cX8_row 36 = .ok (.iload_n 1, 1) := by decide +kernel
theorem dX8_row_37 : decode cX8_row 37 = .ok (.aaload, 1) := by decide +kernel
theorem dX8_row_38 : decode cX8_row 38 = .ok (.iload_n 2, 1) := by decide +kernel
theorem dX8_row_39 : decode cX8_row 39 = .ok (.iload_n 3, 1) := by decide +kernel
theorem dX8_row_40 : decode cX8_row 40 = .ok (.invokevirtual 367, 3) := by decide +kernel
theorem dX8_row_43 : decode cX8_row 43 = .ok (.iconst 0, 1) := by decide +kernel
theorem dX8_row_44 : decode cX8_row 44 = .ok (.ireturn, 1) := by decide +kernel
set_option maxHeartbeats 4000000 in
set_option maxRecDepth 100000 in
theorem s_X8_row_0 (l : Launch) (D : va_G) (K : Nat → ClassId) (ad : Nat → Nat) (mm : Option Nat) (N : Nat) (hNN : 132 ≤ N) (v ar : sI) (al : sL) (hI : XI v) (z_1 : Int) (hz_1 : -2147483648 ≤ z_1 ∧ z_1 ≤ 2147483647) (z_2 : Int) (hz_2 : -2147483648 ≤ z_2 ∧ z_2 ≤ 2147483647) (z_3 : Int) (hz_3 : -2147483648 ≤ z_3 ∧ z_3 ≤ 2147483647) : Met l yX8_row (wM yX8_row cX8_row 4 (some .int)) (rmD 2) (va_Pc [.ref (ad 0), .int (iI (z_1)), .int (iI (z_2)), .int (iI (z_3))] (wPre D K ad (xG ad K mm) N v ar al)) (va_Qi (fun (r : Int32) (u : sT) => (∃ z : Int, (((z_1 < 0 ∨ 3 < z_1 ∨ z_2 < 0 ∨ 3 < z_2 ∨ 60 < z_3) ∧ z = -2) ∨ (0 ≤ z_1 ∧ z_1 ≤ 3 ∧ 0 ≤ z_2 ∧ z_2 ≤ 3 ∧ z_3 ≤ 60 ∧ ((z_3 < 0 ∧ z = -3) ∨ (0 ≤ z_3 ∧ z = 0)))) ∧ r = iI z) ∧ XI u.1 ∧ (∀ i j : Nat, (i, j) ∉ ([(67, 1), (67, 2), (69, 1), (69, 2), (71, 1), (71, 2), (73, 1), (73, 2)] : List (Nat × Nat)) → u.1 i j = v i j)) (wB D ad (xG ad K mm) N) (inW ad N)) 0 0 (inW ad N) := by
  refine s_metI (by decide) (Nat.le_of_ble_eq_true rfl) ?_
  intro p e s m below meth c ls args Q hE hB hl kr
  have hE : CallFix p m c cX8_row 4 s args tbG "TaleCourt" := hE
  obtain ⟨hP, hK, hN⟩ := hB
  have hS : va_S (inW ad N) s.heap s.heap [] := va_S.rf
  have hl : lv_has ls 4 [(0, .ref (ad 0)), (1, .int (iI (z_1))), (2, .int (iI (z_2))), (3, .int (iI (z_3)))] := hl
  refine lv_iload_n hE.1 hE.2.1 dX8_row_0 rfl (lv_at hl 1 rfl) ?_
  refine x_sp (nn := 1) (As := [.int (iI (z_1))]) (rest := []) hE (s_X8_isSlot l (z_1) (by omega)) tt_blind (fun _ _ _ => trivial) rfl mw_1134 mw_1135 mw_114 mw_1136 (by decide +kernel) ⟨by decide, by decide⟩ hl.1 rfl (Nat.le_of_ble_eq_true rfl) ⟨Nat.zero_le _, Nat.zero_le _⟩ dX8_row_1 (fun r1 hr1 => ?_)
  obtain ⟨z1, hz1, rfl⟩ := hr1
  refine s_if_eq (a := z1) (tgt := 22) hE.1 hE.2.1 (by omega) dX8_row_4 (by decide) (fun c2 => ?_) (fun c2 => ?_)
  · skip
    refine lv_bipush (v := iI (-2)) hE.1 hE.2.1 dX8_row_22 (by decide) ?_
    exact kr _ _ _ _ _ _ _ _ rfl ⟨⟨-2, by omega, rfl⟩, hI, fun i j h => rfl⟩ hP hS dX8_row_24
  · skip
    refine lv_iload_n hE.1 hE.2.1 dX8_row_7 rfl (lv_at hl 2 rfl) ?_
    refine s_if_lt (a := z_2) (tgt := 22) hE.1 hE.2.1 (by omega) dX8_row_8 (by decide) (fun c3 => ?_) (fun c3 => ?_)
    · skip
      refine lv_bipush (v := iI (-2)) hE.1 hE.2.1 dX8_row_22 (by decide) ?_
      exact kr _ _ _ _ _ _ _ _ rfl ⟨⟨-2, by omega, rfl⟩, hI, fun i j h => rfl⟩ hP hS dX8_row_24
    · skip
      refine lv_iload_n hE.1 hE.2.1 dX8_row_11 rfl (lv_at hl 2 rfl) ?_
      refine lv_iconst (v := iI (4)) hE.1 hE.2.1 dX8_row_12 (by decide) ?_
      refine s_icmp_ge (a := z_2) (b := 4) (tgt := 22) hE.1 hE.2.1 (by omega) (by omega) dX8_row_13 (by decide) (fun c4 => ?_) (fun c4 => ?_)
      · skip
        refine lv_bipush (v := iI (-2)) hE.1 hE.2.1 dX8_row_22 (by decide) ?_
        exact kr _ _ _ _ _ _ _ _ rfl ⟨⟨-2, by omega, rfl⟩, hI, fun i j h => rfl⟩ hP hS dX8_row_24
      · skip
        refine lv_iload_n hE.1 hE.2.1 dX8_row_16 rfl (lv_at hl 3 rfl) ?_
        refine lv_bipush (v := iI (60)) hE.1 hE.2.1 dX8_row_17 (by decide) ?_
        refine s_icmp_le (a := z_3) (b := 60) (tgt := 25) hE.1 hE.2.1 (by omega) (by omega) dX8_row_19 (by decide) (fun c5 => ?_) (fun c5 => ?_)
        · skip
          refine lv_iload_n hE.1 hE.2.1 dX8_row_25 rfl (lv_at hl 3 rfl) ?_
          refine s_if_ge (a := z_3) (tgt := 32) hE.1 hE.2.1 (by omega) dX8_row_26 (by decide) (fun c6 => ?_) (fun c6 => ?_)
          · skip
            refine lv_aload_n hE.1 hE.2.1 dX8_row_32 rfl (lv_at hl 0 rfl) ?_
            refine x_get (x := .ref (ad 65)) hE hK hP 0 (Nat.lt_of_lt_of_le (by decide) hNN) (xG_8 rfl) rfl hin8 8 (by decide) mw_488 rfl dX8_row_33 ?_
            refine lv_iload_n hE.1 hE.2.1 dX8_row_36 rfl (lv_at hl 1 rfl) ?_
            rcases (show z_1 = 0 ∨ z_1 = 1 ∨ z_1 = 2 ∨ z_1 = 3 by omega) with rfl | rfl | rfl | rfl
            · skip
              refine x_aald (r := .ref (ad 67)) hE hK hP 65 4 (Nat.lt_of_lt_of_le (by decide) hNN) (xG_13 rfl) rfl (by unfold vp_in; decide) rfl dX8_row_37 ?_
              refine lv_iload_n hE.1 hE.2.1 dX8_row_38 rfl (lv_at hl 2 rfl) ?_
              refine lv_iload_n hE.1 hE.2.1 dX8_row_39 rfl (lv_at hl 3 rfl) ?_
              refine x_vv (nn := 2) (As := [.int (iI (z_2)), .int (iI (z_3))]) (rest := []) hE hK hN hP hS (s_X5_begin_67 l D K ad mm N hNN v ar al hI  (z_2) (by omega) (z_3) (by omega)) (x_recv hK hP 67 (Nat.lt_of_lt_of_le (by decide) hNN) (xG_5 rfl) rfl) rfl mw_1303 mw_1304 mw_1305 mw_121 mw_1306 (by decide +kernel) ⟨by decide, by decide⟩ hl.1 rfl (Nat.le_of_ble_eq_true rfl) ⟨Nat.zero_le _, Nat.zero_le _⟩ dX8_row_40 (fun v7 ar7 al7 H locs hq7 hP hS => ?_)
              obtain ⟨hI, hq7⟩ := hq7
              have hI : XI v7 := hI
              refine lv_iconst (v := iI (0)) hE.1 hE.2.1 dX8_row_43 (by decide) ?_
              exact kr _ _ _ _ _ _ _ _ rfl ⟨⟨0, by omega, rfl⟩, hI, fun i j h => (hq7 i j (fun q => h (mem_sub (by decide) q)))⟩ hP hS dX8_row_44
            · skip
              refine x_aald (r := .ref (ad 69)) hE hK hP 65 4 (Nat.lt_of_lt_of_le (by decide) hNN) (xG_13 rfl) rfl (by unfold vp_in; decide) rfl dX8_row_37 ?_
              refine lv_iload_n hE.1 hE.2.1 dX8_row_38 rfl (lv_at hl 2 rfl) ?_
              refine lv_iload_n hE.1 hE.2.1 dX8_row_39 rfl (lv_at hl 3 rfl) ?_
              refine x_vv (nn := 2) (As := [.int (iI (z_2)), .int (iI (z_3))]) (rest := []) hE hK hN hP hS (s_X5_begin_69 l D K ad mm N hNN v ar al hI  (z_2) (by omega) (z_3) (by omega)) (x_recv hK hP 69 (Nat.lt_of_lt_of_le (by decide) hNN) (xG_5 rfl) rfl) rfl mw_1303 mw_1304 mw_1305 mw_121 mw_1306 (by decide +kernel) ⟨by decide, by decide⟩ hl.1 rfl (Nat.le_of_ble_eq_true rfl) ⟨Nat.zero_le _, Nat.zero_le _⟩ dX8_row_40 (fun v8 ar8 al8 H locs hq8 hP hS => ?_)
              obtain ⟨hI, hq8⟩ := hq8
              have hI : XI v8 := hI
              refine lv_iconst (v := iI (0)) hE.1 hE.2.1 dX8_row_43 (by decide) ?_
              exact kr _ _ _ _ _ _ _ _ rfl ⟨⟨0, by omega, rfl⟩, hI, fun i j h => (hq8 i j (fun q => h (mem_sub (by decide) q)))⟩ hP hS dX8_row_44
            · skip
              refine x_aald (r := .ref (ad 71)) hE hK hP 65 4 (Nat.lt_of_lt_of_le (by decide) hNN) (xG_13 rfl) rfl (by unfold vp_in; decide) rfl dX8_row_37 ?_
              refine lv_iload_n hE.1 hE.2.1 dX8_row_38 rfl (lv_at hl 2 rfl) ?_
              refine lv_iload_n hE.1 hE.2.1 dX8_row_39 rfl (lv_at hl 3 rfl) ?_
              refine x_vv (nn := 2) (As := [.int (iI (z_2)), .int (iI (z_3))]) (rest := []) hE hK hN hP hS (s_X5_begin_71 l D K ad mm N hNN v ar al hI  (z_2) (by omega) (z_3) (by omega)) (x_recv hK hP 71 (Nat.lt_of_lt_of_le (by decide) hNN) (xG_5 rfl) rfl) rfl mw_1303 mw_1304 mw_1305 mw_121 mw_1306 (by decide +kernel) ⟨by decide, by decide⟩ hl.1 rfl (Nat.le_of_ble_eq_true rfl) ⟨Nat.zero_le _, Nat.zero_le _⟩ dX8_row_40 (fun v9 ar9 al9 H locs hq9 hP hS => ?_)
              obtain ⟨hI, hq9⟩ := hq9
              have hI : XI v9 := hI
              refine lv_iconst (v := iI (0)) hE.1 hE.2.1 dX8_row_43 (by decide) ?_
              exact kr _ _ _ _ _ _ _ _ rfl ⟨⟨0, by omega, rfl⟩, hI, fun i j h => (hq9 i j (fun q => h (mem_sub (by decide) q)))⟩ hP hS dX8_row_44
            · skip
              refine x_aald (r := .ref (ad 73)) hE hK hP 65 4 (Nat.lt_of_lt_of_le (by decide) hNN) (xG_13 rfl) rfl (by unfold vp_in; decide) rfl dX8_row_37 ?_
              refine lv_iload_n hE.1 hE.2.1 dX8_row_38 rfl (lv_at hl 2 rfl) ?_
              refine lv_iload_n hE.1 hE.2.1 dX8_row_39 rfl (lv_at hl 3 rfl) ?_
              refine x_vv (nn := 2) (As := [.int (iI (z_2)), .int (iI (z_3))]) (rest := []) hE hK hN hP hS (s_X5_begin_73 l D K ad mm N hNN v ar al hI  (z_2) (by omega) (z_3) (by omega)) (x_recv hK hP 73 (Nat.lt_of_lt_of_le (by decide) hNN) (xG_5 rfl) rfl) rfl mw_1303 mw_1304 mw_1305 mw_121 mw_1306 (by decide +kernel) ⟨by decide, by decide⟩ hl.1 rfl (Nat.le_of_ble_eq_true rfl) ⟨Nat.zero_le _, Nat.zero_le _⟩ dX8_row_40 (fun v10 ar10 al10 H locs hq10 hP hS => ?_)
              obtain ⟨hI, hq10⟩ := hq10
              have hI : XI v10 := hI
              refine lv_iconst (v := iI (0)) hE.1 hE.2.1 dX8_row_43 (by decide) ?_
              exact kr _ _ _ _ _ _ _ _ rfl ⟨⟨0, by omega, rfl⟩, hI, fun i j h => (hq10 i j (fun q => h (mem_sub (by decide) q)))⟩ hP hS dX8_row_44
          · skip
            refine lv_bipush (v := iI (-3)) hE.1 hE.2.1 dX8_row_29 (by decide) ?_
            exact kr _ _ _ _ _ _ _ _ rfl ⟨⟨-3, by omega, rfl⟩, hI, fun i j h => rfl⟩ hP hS dX8_row_31
        · skip
          refine lv_bipush (v := iI (-2)) hE.1 hE.2.1 dX8_row_22 (by decide) ?_
          exact kr _ _ _ _ _ _ _ _ rfl ⟨⟨-2, by omega, rfl⟩, hI, fun i j h => rfl⟩ hP hS dX8_row_24

theorem dX5_put_0 : decode cX5_put 0 = .ok (.iload_n 1, 1) := by decide +kernel
theorem dX5_put_1 : decode cX5_put 1 = .ok (.ifCond .lt 9, 3) := by decide +kernel
theorem dX5_put_4 : decode cX5_put 4 = .ok (.iload_n 1, 1) := by decide +kernel
theorem dX5_put_5 : decode cX5_put 5 = .ok (.bipush 60, 2) := by decide +kernel
theorem dX5_put_7 : decode cX5_put 7 = .ok (.if_icmp .lt 4, 3) := by decide +kernel
theorem dX5_put_10 : decode cX5_put 10 = .ok (.return_, 1) := by decide +kernel
theorem dX5_put_11 : decode cX5_put 11 = .ok (.aload_n 0, 1) := by decide +kernel
theorem dX5_put_12 : decode cX5_put 12 = .ok (.getfield 19, 3) := by decide +kernel
theorem dX5_put_15 : decode cX5_put 15 = .ok (.tableswitch 63 0 2 #[25, 38, 51], 25) := by decide +kernel
theorem dX5_put_40 : decode cX5_put 40 = .ok (.aload_n 0, 1) := by decide +kernel
theorem dX5_put_41 : decode cX5_put 41 = .ok (.getfield 9, 3) := by decide +kernel
theorem dX5_put_44 : decode cX5_put 44 = .ok (.iload_n 1, 1) := by decide +kernel
theorem dX5_put_45 : decode cX5_put 45 = .ok (.lload_n 2, 1) := by decide +kernel
theorem dX5_put_46 : decode cX5_put 46 = .ok (.l2i, 1) := by decide +kernel
theorem dX5_put_47 : decode cX5_put 47 = .ok (.i2b, 1) := by decide +kernel
theorem dX5_put_48 : decode cX5_put 48 = .ok (.i2l, 1) := by decide +kernel
theorem dX5_put_49 : decode cX5_put 49 = .ok (.lastore, 1) := by decide +kernel
theorem dX5_put_50 : decode cX5_put 50 = .ok (.goto 35, 3) := by decide +kernel
theorem dX5_put_53 : decode cX5_put 53 = .ok (.aload_n 0, 1) := by decide +kernel
theorem dX5_put_54 : decode cX5_put 54 = .ok (.getfield 9, 3) := by decide +kernel
theorem dX5_put_57 : decode cX5_put 57 = .ok (.iload_n 1, 1) := by decide +kernel
theorem dX5_put_58 : decode cX5_put 58 = .ok (.lload_n 2, 1) := by decide +kernel
theorem dX5_put_59 : decode cX5_put 59 = .ok (.l2i, 1) := by decide +kernel
theorem dX5_put_60 : decode cX5_put 60 = .ok (.i2s, 1) := by decide +kernel
theorem dX5_put_61 : decode cX5_put 61 = .ok (.i2l, 1) := by decide +kernel
theorem dX5_put_62 : decode cX5_put 62 = .ok (.lastore, 1) := by decide +kernel
theorem dX5_put_63 : decode cX5_put 63 = .ok (.goto 22, 3) := by decide +kernel
theorem dX5_put_66 : decode cX5_put 66 = .ok (.aload_n 0, 1) := by decide +kernel
theorem dX5_put_67 : decode cX5_put 67 = .ok (.getfield 9, 3) := by decide +kernel
theorem dX5_put_70 : decode cX5_put 70 = .ok (.iload_n 1, 1) := by decide +kernel
theorem dX5_put_71 : decode cX5_put 71 = .ok (.lload_n 2, 1) := by decide +kernel
theorem dX5_put_72 : decode cX5_put 72 = .ok (.l2i, 1) := by decide +kernel
theorem dX5_put_73 : decode cX5_put 73 = .ok (.i2l, 1) := by decide +kernel
theorem dX5_put_74 : decode cX5_put 74 = .ok (.lastore, 1) := by decide +kernel
theorem dX5_put_75 : decode cX5_put 75 = .ok (.goto 10, 3) := by decide +kernel
theorem dX5_put_78 : decode cX5_put 78 = .ok (.aload_n 0, 1) := by decide +kernel
theorem dX5_put_79 : decode cX5_put 79 = .ok (.getfield 9, 3) := by decide +kernel
theorem dX5_put_82 : decode cX5_put 82 = .ok (.iload_n 1, 1) := by decide +kernel
theorem dX5_put_83 : decode cX5_put 83 = .ok (.lload_n 2, 1) := by decide +kernel
theorem dX5_put_84 : decode cX5_put 84 = .ok (.lastore, 1) := by decide +kernel
theorem dX5_put_85 : decode cX5_put 85 = .ok (.return_, 1) := by decide +kernel
set_option maxHeartbeats 4000000 in
set_option maxRecDepth 100000 in
theorem s_X5_put_67 (l : Launch) (D : va_G) (K : Nat → ClassId) (ad : Nat → Nat) (mm : Option Nat) (N : Nat) (hNN : 132 ≤ N) (v ar : sI) (al : sL) (hI : XI v) (z_1 : Int) (hz_1 : -2147483648 ≤ z_1 ∧ z_1 ≤ 2147483647) (z_2 : Int) (hz_2 : -9223372036854775808 ≤ z_2 ∧ z_2 ≤ 9223372036854775807) : Met l yX5_put (wM yX5_put cX5_put 4 none) (rmD 0) (va_Pc [.ref (ad 67), .int (iI (z_1)), .long (lI (z_2))] (wPre D K ad (xG ad K mm) N v ar al)) (va_Qv (fun u : sT => XI u.1 ∧ (∀ i j : Nat, (i, j) ∉ ([] : List (Nat × Nat)) → u.1 i j = v i j)) (wB D ad (xG ad K mm) N) (inW ad N)) 0 0 (inW ad N) := by
  refine s_metV (by decide) (Nat.le_of_ble_eq_true rfl) ?_
  intro p e s m below meth c ls args Q hE hB hl kr
  have hE : CallFix p m c cX5_put 4 s args tbG "TaleCourt$Row" := hE
  obtain ⟨hP, hK, hN⟩ := hB
  have hS : va_S (inW ad N) s.heap s.heap [] := va_S.rf
  have hl : lv_has ls 4 [(0, .ref (ad 67)), (1, .int (iI (z_1))), (2, .long (lI (z_2)))] := hl
  refine lv_iload_n hE.1 hE.2.1 dX5_put_0 rfl (lv_at hl 1 rfl) ?_
  refine s_if_lt (a := z_1) (tgt := 10) hE.1 hE.2.1 (by omega) dX5_put_1 (by decide) (fun c1 => ?_) (fun c1 => ?_)
  · skip
    exact kr _ _ _ _ _ _ _ ⟨hI, fun i j h => rfl⟩ hP hS dX5_put_10
  · skip
    refine lv_iload_n hE.1 hE.2.1 dX5_put_4 rfl (lv_at hl 1 rfl) ?_
    refine lv_bipush (v := iI (60)) hE.1 hE.2.1 dX5_put_5 (by decide) ?_
    refine s_icmp_lt (a := z_1) (b := 60) (tgt := 11) hE.1 hE.2.1 (by omega) (by omega) dX5_put_7 (by decide) (fun c2 => ?_) (fun c2 => ?_)
    · skip
      refine lv_aload_n hE.1 hE.2.1 dX5_put_11 rfl (lv_at hl 0 rfl) ?_
      obtain ⟨z3, hz3, ez3⟩ := iI_of (v 67 1)
      refine x_get (x := .int (v 67 1)) hE hK hP 67 (Nat.lt_of_lt_of_le (by decide) hNN) (xG_5 rfl) rfl hin5 1 (by decide) mw_447 rfl dX5_put_12 ?_
      refine x_top (y := iI (z3)) ez3 ?_
      by_cases ho4 : z3 < 0 ∨ 2 < z3
      · skip
        refine s_tabOut (a := z3) (tgt := 78) hE.1 hE.2.1 (by omega) dX5_put_15 ho4 (by decide) ?_
        refine lv_aload_n hE.1 hE.2.1 dX5_put_78 rfl (lv_at hl 0 rfl) ?_
        refine x_get (x := .ref (ad 68)) hE hK hP 67 (Nat.lt_of_lt_of_le (by decide) hNN) (xG_5 rfl) rfl hin5 0 (by decide) mw_445 rfl dX5_put_79 ?_
        refine lv_iload_n hE.1 hE.2.1 dX5_put_82 rfl (lv_at hl 1 rfl) ?_
        refine lv_lload_n hE.1 hE.2.1 dX5_put_83 rfl (lv_at hl 2 rfl) ?_
        refine x_last (j := iI (z_1)) hE hK hN hP hS 68 (Nat.lt_of_lt_of_le (by decide) hNN) (fun _ => xG_11 rfl) (iI_in (n := 60) (by omega)) dX5_put_84 (fun al5 H locs ha5 hP hS => ?_)
        exact kr _ _ _ _ _ _ _ ⟨hI, fun i j h => rfl⟩ hP hS dX5_put_85
      · skip
        rcases (show z3 = 0 ∨ z3 = 1 ∨ z3 = 2 by omega) with rfl | rfl | rfl
        · skip
          refine lv_tableIn (off := 25) (tgt := 40) hE.1 hE.2.1 dX5_put_15 (by decide) (by decide) (by decide) (by decide) ?_
          refine lv_aload_n hE.1 hE.2.1 dX5_put_40 rfl (lv_at hl 0 rfl) ?_
          refine x_get (x := .ref (ad 68)) hE hK hP 67 (Nat.lt_of_lt_of_le (by decide) hNN) (xG_5 rfl) rfl hin5 0 (by decide) mw_445 rfl dX5_put_41 ?_
          refine lv_iload_n hE.1 hE.2.1 dX5_put_44 rfl (lv_at hl 1 rfl) ?_
          refine lv_lload_n hE.1 hE.2.1 dX5_put_45 rfl (lv_at hl 2 rfl) ?_
          refine lv_l2i (v := iI (z_2)) hE.1 hE.2.1 dX5_put_46 (lI_l2i _) ?_
          obtain ⟨z6, hz6, ez6⟩ := iI_of (iI (z_2))
          refine x_top ez6 ?_
          obtain ⟨z7, hz7, ez7⟩ := iI_of ((iI (z6)).toInt8.toInt32)
          refine lv_i2b (v := iI (z7)) hE.1 hE.2.1 dX5_put_47 ez7 ?_
          refine lv_i2l (v := lI (z7)) hE.1 hE.2.1 dX5_put_48 (iI_i2l (by omega)) ?_
          refine x_last (j := iI (z_1)) hE hK hN hP hS 68 (Nat.lt_of_lt_of_le (by decide) hNN) (fun _ => xG_11 rfl) (iI_in (n := 60) (by omega)) dX5_put_49 (fun al8 H locs ha8 hP hS => ?_)
          refine lv_goto (tgt := 85) hE.1 hE.2.1 dX5_put_50 (by decide) ?_
          exact kr _ _ _ _ _ _ _ ⟨hI, fun i j h => rfl⟩ hP hS dX5_put_85
        · skip
          refine lv_tableIn (off := 38) (tgt := 53) hE.1 hE.2.1 dX5_put_15 (by decide) (by decide) (by decide) (by decide) ?_
          refine lv_aload_n hE.1 hE.2.1 dX5_put_53 rfl (lv_at hl 0 rfl) ?_
          refine x_get (x := .ref (ad 68)) hE hK hP 67 (Nat.lt_of_lt_of_le (by decide) hNN) (xG_5 rfl) rfl hin5 0 (by decide) mw_445 rfl dX5_put_54 ?_
          refine lv_iload_n hE.1 hE.2.1 dX5_put_57 rfl (lv_at hl 1 rfl) ?_
          refine lv_lload_n hE.1 hE.2.1 dX5_put_58 rfl (lv_at hl 2 rfl) ?_
          refine lv_l2i (v := iI (z_2)) hE.1 hE.2.1 dX5_put_59 (lI_l2i _) ?_
          obtain ⟨z9, hz9, ez9⟩ := iI_of (iI (z_2))
          refine x_top ez9 ?_
          obtain ⟨z10, hz10, ez10⟩ := iI_of ((iI (z9)).toInt16.toInt32)
          refine lv_i2s (v := iI (z10)) hE.1 hE.2.1 dX5_put_60 ez10 ?_
          refine lv_i2l (v := lI (z10)) hE.1 hE.2.1 dX5_put_61 (iI_i2l (by omega)) ?_
          refine x_last (j := iI (z_1)) hE hK hN hP hS 68 (Nat.lt_of_lt_of_le (by decide) hNN) (fun _ => xG_11 rfl) (iI_in (n := 60) (by omega)) dX5_put_62 (fun al11 H locs ha11 hP hS => ?_)
          refine lv_goto (tgt := 85) hE.1 hE.2.1 dX5_put_63 (by decide) ?_
          exact kr _ _ _ _ _ _ _ ⟨hI, fun i j h => rfl⟩ hP hS dX5_put_85
        · skip
          refine lv_tableIn (off := 51) (tgt := 66) hE.1 hE.2.1 dX5_put_15 (by decide) (by decide) (by decide) (by decide) ?_
          refine lv_aload_n hE.1 hE.2.1 dX5_put_66 rfl (lv_at hl 0 rfl) ?_
          refine x_get (x := .ref (ad 68)) hE hK hP 67 (Nat.lt_of_lt_of_le (by decide) hNN) (xG_5 rfl) rfl hin5 0 (by decide) mw_445 rfl dX5_put_67 ?_
          refine lv_iload_n hE.1 hE.2.1 dX5_put_70 rfl (lv_at hl 1 rfl) ?_
          refine lv_lload_n hE.1 hE.2.1 dX5_put_71 rfl (lv_at hl 2 rfl) ?_
          refine lv_l2i (v := iI (z_2)) hE.1 hE.2.1 dX5_put_72 (lI_l2i _) ?_
          obtain ⟨z12, hz12, ez12⟩ := iI_of (iI (z_2))
          refine x_top ez12 ?_
          refine lv_i2l (v := lI (z12)) hE.1 hE.2.1 dX5_put_73 (iI_i2l (by omega)) ?_
          refine x_last (j := iI (z_1)) hE hK hN hP hS 68 (Nat.lt_of_lt_of_le (by decide) hNN) (fun _ => xG_11 rfl) (iI_in (n := 60) (by omega)) dX5_put_74 (fun al13 H locs ha13 hP hS => ?_)
          refine lv_goto (tgt := 85) hE.1 hE.2.1 dX5_put_75 (by decide) ?_
          exact kr _ _ _ _ _ _ _ ⟨hI, fun i j h => rfl⟩ hP hS dX5_put_85
    · skip
      exact kr _ _ _ _ _ _ _ ⟨hI, fun i j h => rfl⟩ hP hS dX5_put_10

set_option maxHeartbeats 4000000 in
set_option maxRecDepth 100000 in
theorem s_X5_put_69 (l : Launch) (D : va_G) (K : Nat → ClassId) (ad : Nat → Nat) (mm : Option Nat) (N : Nat) (hNN : 132 ≤ N) (v ar : sI) (al : sL) (hI : XI v) (z_1 : Int) (hz_1 : -2147483648 ≤ z_1 ∧ z_1 ≤ 2147483647) (z_2 : Int) (hz_2 : -9223372036854775808 ≤ z_2 ∧ z_2 ≤ 9223372036854775807) : Met l yX5_put (wM yX5_put cX5_put 4 none) (rmD 0) (va_Pc [.ref (ad 69), .int (iI (z_1)), .long (lI (z_2))] (wPre D K ad (xG ad K mm) N v ar al)) (va_Qv (fun u : sT => XI u.1 ∧ (∀ i j : Nat, (i, j) ∉ ([] : List (Nat × Nat)) → u.1 i j = v i j)) (wB D ad (xG ad K mm) N) (inW ad N)) 0 0 (inW ad N) := by
  refine s_metV (by decide) (Nat.le_of_ble_eq_true rfl) ?_
  intro p e s m below meth c ls args Q hE hB hl kr
  have hE : CallFix p m c cX5_put 4 s args tbG "TaleCourt$Row" := hE
  obtain ⟨hP, hK, hN⟩ := hB
  have hS : va_S (inW ad N) s.heap s.heap [] := va_S.rf
  have hl : lv_has ls 4 [(0, .ref (ad 69)), (1, .int (iI (z_1))), (2, .long (lI (z_2)))] := hl
  refine lv_iload_n hE.1 hE.2.1 dX5_put_0 rfl (lv_at hl 1 rfl) ?_
  refine s_if_lt (a := z_1) (tgt := 10) hE.1 hE.2.1 (by omega) dX5_put_1 (by decide) (fun c1 => ?_) (fun c1 => ?_)
  · skip
    exact kr _ _ _ _ _ _ _ ⟨hI, fun i j h => rfl⟩ hP hS dX5_put_10
  · skip
    refine lv_iload_n hE.1 hE.2.1 dX5_put_4 rfl (lv_at hl 1 rfl) ?_
    refine lv_bipush (v := iI (60)) hE.1 hE.2.1 dX5_put_5 (by decide) ?_
    refine s_icmp_lt (a := z_1) (b := 60) (tgt := 11) hE.1 hE.2.1 (by omega) (by omega) dX5_put_7 (by decide) (fun c2 => ?_) (fun c2 => ?_)
    · skip
      refine lv_aload_n hE.1 hE.2.1 dX5_put_11 rfl (lv_at hl 0 rfl) ?_
      obtain ⟨z3, hz3, ez3⟩ := iI_of (v 69 1)
      refine x_get (x := .int (v 69 1)) hE hK hP 69 (Nat.lt_of_lt_of_le (by decide) hNN) (xG_5 rfl) rfl hin5 1 (by decide) mw_447 rfl dX5_put_12 ?_
      refine x_top (y := iI (z3)) ez3 ?_
      by_cases ho4 : z3 < 0 ∨ 2 < z3
      · skip
        refine s_tabOut (a := z3) (tgt := 78) hE.1 hE.2.1 (by omega) dX5_put_15 ho4 (by decide) ?_
        refine lv_aload_n hE.1 hE.2.1 dX5_put_78 rfl (lv_at hl 0 rfl) ?_
        refine x_get (x := .ref (ad 70)) hE hK hP 69 (Nat.lt_of_lt_of_le (by decide) hNN) (xG_5 rfl) rfl hin5 0 (by decide) mw_445 rfl dX5_put_79 ?_
        refine lv_iload_n hE.1 hE.2.1 dX5_put_82 rfl (lv_at hl 1 rfl) ?_
        refine lv_lload_n hE.1 hE.2.1 dX5_put_83 rfl (lv_at hl 2 rfl) ?_
        refine x_last (j := iI (z_1)) hE hK hN hP hS 70 (Nat.lt_of_lt_of_le (by decide) hNN) (fun _ => xG_11 rfl) (iI_in (n := 60) (by omega)) dX5_put_84 (fun al5 H locs ha5 hP hS => ?_)
        exact kr _ _ _ _ _ _ _ ⟨hI, fun i j h => rfl⟩ hP hS dX5_put_85
      · skip
        rcases (show z3 = 0 ∨ z3 = 1 ∨ z3 = 2 by omega) with rfl | rfl | rfl
        · skip
          refine lv_tableIn (off := 25) (tgt := 40) hE.1 hE.2.1 dX5_put_15 (by decide) (by decide) (by decide) (by decide) ?_
          refine lv_aload_n hE.1 hE.2.1 dX5_put_40 rfl (lv_at hl 0 rfl) ?_
          refine x_get (x := .ref (ad 70)) hE hK hP 69 (Nat.lt_of_lt_of_le (by decide) hNN) (xG_5 rfl) rfl hin5 0 (by decide) mw_445 rfl dX5_put_41 ?_
          refine lv_iload_n hE.1 hE.2.1 dX5_put_44 rfl (lv_at hl 1 rfl) ?_
          refine lv_lload_n hE.1 hE.2.1 dX5_put_45 rfl (lv_at hl 2 rfl) ?_
          refine lv_l2i (v := iI (z_2)) hE.1 hE.2.1 dX5_put_46 (lI_l2i _) ?_
          obtain ⟨z6, hz6, ez6⟩ := iI_of (iI (z_2))
          refine x_top ez6 ?_
          obtain ⟨z7, hz7, ez7⟩ := iI_of ((iI (z6)).toInt8.toInt32)
          refine lv_i2b (v := iI (z7)) hE.1 hE.2.1 dX5_put_47 ez7 ?_
          refine lv_i2l (v := lI (z7)) hE.1 hE.2.1 dX5_put_48 (iI_i2l (by omega)) ?_
          refine x_last (j := iI (z_1)) hE hK hN hP hS 70 (Nat.lt_of_lt_of_le (by decide) hNN) (fun _ => xG_11 rfl) (iI_in (n := 60) (by omega)) dX5_put_49 (fun al8 H locs ha8 hP hS => ?_)
          refine lv_goto (tgt := 85) hE.1 hE.2.1 dX5_put_50 (by decide) ?_
          exact kr _ _ _ _ _ _ _ ⟨hI, fun i j h => rfl⟩ hP hS dX5_put_85
        · skip
          refine lv_tableIn (off := 38) (tgt := 53) hE.1 hE.2.1 dX5_put_15 (by decide) (by decide) (by decide) (by decide) ?_
          refine lv_aload_n hE.1 hE.2.1 dX5_put_53 rfl (lv_at hl 0 rfl) ?_
          refine x_get (x := .ref (ad 70)) hE hK hP 69 (Nat.lt_of_lt_of_le (by decide) hNN) (xG_5 rfl) rfl hin5 0 (by decide) mw_445 rfl dX5_put_54 ?_
          refine lv_iload_n hE.1 hE.2.1 dX5_put_57 rfl (lv_at hl 1 rfl) ?_
          refine lv_lload_n hE.1 hE.2.1 dX5_put_58 rfl (lv_at hl 2 rfl) ?_
          refine lv_l2i (v := iI (z_2)) hE.1 hE.2.1 dX5_put_59 (lI_l2i _) ?_
          obtain ⟨z9, hz9, ez9⟩ := iI_of (iI (z_2))
          refine x_top ez9 ?_
          obtain ⟨z10, hz10, ez10⟩ := iI_of ((iI (z9)).toInt16.toInt32)
          refine lv_i2s (v := iI (z10)) hE.1 hE.2.1 dX5_put_60 ez10 ?_
          refine lv_i2l (v := lI (z10)) hE.1 hE.2.1 dX5_put_61 (iI_i2l (by omega)) ?_
          refine x_last (j := iI (z_1)) hE hK hN hP hS 70 (Nat.lt_of_lt_of_le (by decide) hNN) (fun _ => xG_11 rfl) (iI_in (n := 60) (by omega)) dX5_put_62 (fun al11 H locs ha11 hP hS => ?_)
          refine lv_goto (tgt := 85) hE.1 hE.2.1 dX5_put_63 (by decide) ?_
          exact kr _ _ _ _ _ _ _ ⟨hI, fun i j h => rfl⟩ hP hS dX5_put_85
        · skip
          refine lv_tableIn (off := 51) (tgt := 66) hE.1 hE.2.1 dX5_put_15 (by decide) (by decide) (by decide) (by decide) ?_
          refine lv_aload_n hE.1 hE.2.1 dX5_put_66 rfl (lv_at hl 0 rfl) ?_
          refine x_get (x := .ref (ad 70)) hE hK hP 69 (Nat.lt_of_lt_of_le (by decide) hNN) (xG_5 rfl) rfl hin5 0 (by decide) mw_445 rfl dX5_put_67 ?_
          refine lv_iload_n hE.1 hE.2.1 dX5_put_70 rfl (lv_at hl 1 rfl) ?_
          refine lv_lload_n hE.1 hE.2.1 dX5_put_71 rfl (lv_at hl 2 rfl) ?_
          refine lv_l2i (v := iI (z_2)) hE.1 hE.2.1 dX5_put_72 (lI_l2i _) ?_
          obtain ⟨z12, hz12, ez12⟩ := iI_of (iI (z_2))
          refine x_top ez12 ?_
          refine lv_i2l (v := lI (z12)) hE.1 hE.2.1 dX5_put_73 (iI_i2l (by omega)) ?_
          refine x_last (j := iI (z_1)) hE hK hN hP hS 70 (Nat.lt_of_lt_of_le (by decide) hNN) (fun _ => xG_11 rfl) (iI_in (n := 60) (by omega)) dX5_put_74 (fun al13 H locs ha13 hP hS => ?_)
          refine lv_goto (tgt := 85) hE.1 hE.2.1 dX5_put_75 (by decide) ?_
          exact kr _ _ _ _ _ _ _ ⟨hI, fun i j h => rfl⟩ hP hS dX5_put_85
    · skip
      exact kr _ _ _ _ _ _ _ ⟨hI, fun i j h => rfl⟩ hP hS dX5_put_10

set_option maxHeartbeats 4000000 in
set_option maxRecDepth 100000 in
theorem s_X5_put_71 (l : Launch) (D : va_G) (K : Nat → ClassId) (ad : Nat → Nat) (mm : Option Nat) (N : Nat) (hNN : 132 ≤ N) (v ar : sI) (al : sL) (hI : XI v) (z_1 : Int) (hz_1 : -2147483648 ≤ z_1 ∧ z_1 ≤ 2147483647) (z_2 : Int) (hz_2 : -9223372036854775808 ≤ z_2 ∧ z_2 ≤ 9223372036854775807) : Met l yX5_put (wM yX5_put cX5_put 4 none) (rmD 0) (va_Pc [.ref (ad 71), .int (iI (z_1)), .long (lI (z_2))] (wPre D K ad (xG ad K mm) N v ar al)) (va_Qv (fun u : sT => XI u.1 ∧ (∀ i j : Nat, (i, j) ∉ ([] : List (Nat × Nat)) → u.1 i j = v i j)) (wB D ad (xG ad K mm) N) (inW ad N)) 0 0 (inW ad N) := by
  refine s_metV (by decide) (Nat.le_of_ble_eq_true rfl) ?_
  intro p e s m below meth c ls args Q hE hB hl kr
  have hE : CallFix p m c cX5_put 4 s args tbG "TaleCourt$Row" := hE
  obtain ⟨hP, hK, hN⟩ := hB
  have hS : va_S (inW ad N) s.heap s.heap [] := va_S.rf
  have hl : lv_has ls 4 [(0, .ref (ad 71)), (1, .int (iI (z_1))), (2, .long (lI (z_2)))] := hl
  refine lv_iload_n hE.1 hE.2.1 dX5_put_0 rfl (lv_at hl 1 rfl) ?_
  refine s_if_lt (a := z_1) (tgt := 10) hE.1 hE.2.1 (by omega) dX5_put_1 (by decide) (fun c1 => ?_) (fun c1 => ?_)
  · skip
    exact kr _ _ _ _ _ _ _ ⟨hI, fun i j h => rfl⟩ hP hS dX5_put_10
  · skip
    refine lv_iload_n hE.1 hE.2.1 dX5_put_4 rfl (lv_at hl 1 rfl) ?_
    refine lv_bipush (v := iI (60)) hE.1 hE.2.1 dX5_put_5 (by decide) ?_
    refine s_icmp_lt (a := z_1) (b := 60) (tgt := 11) hE.1 hE.2.1 (by omega) (by omega) dX5_put_7 (by decide) (fun c2 => ?_) (fun c2 => ?_)
    · skip
      refine lv_aload_n hE.1 hE.2.1 dX5_put_11 rfl (lv_at hl 0 rfl) ?_
      obtain ⟨z3, hz3, ez3⟩ := iI_of (v 71 1)
      refine x_get (x := .int (v 71 1)) hE hK hP 71 (Nat.lt_of_lt_of_le (by decide) hNN) (xG_5 rfl) rfl hin5 1 (by decide) mw_447 rfl dX5_put_12 ?_
      refine x_top (y := iI (z3)) ez3 ?_
      by_cases ho4 : z3 < 0 ∨ 2 < z3
      · skip
        refine s_tabOut (a := z3) (tgt := 78) hE.1 hE.2.1 (by omega) dX5_put_15 ho4 (by decide) ?_
        refine lv_aload_n hE.1 hE.2.1 dX5_put_78 rfl (lv_at hl 0 rfl) ?_
        refine x_get (x := .ref (ad 72)) hE hK hP 71 (Nat.lt_of_lt_of_le (by decide) hNN) (xG_5 rfl) rfl hin5 0 (by decide) mw_445 rfl dX5_put_79 ?_
        refine lv_iload_n hE.1 hE.2.1 dX5_put_82 rfl (lv_at hl 1 rfl) ?_
        refine lv_lload_n hE.1 hE.2.1 dX5_put_83 rfl (lv_at hl 2 rfl) ?_
        refine x_last (j := iI (z_1)) hE hK hN hP hS 72 (Nat.lt_of_lt_of_le (by decide) hNN) (fun _ => xG_11 rfl) (iI_in (n := 60) (by omega)) dX5_put_84 (fun al5 H locs ha5 hP hS => ?_)
        exact kr _ _ _ _ _ _ _ ⟨hI, fun i j h => rfl⟩ hP hS dX5_put_85
      · skip
        rcases (show z3 = 0 ∨ z3 = 1 ∨ z3 = 2 by omega) with rfl | rfl | rfl
        · skip
          refine lv_tableIn (off := 25) (tgt := 40) hE.1 hE.2.1 dX5_put_15 (by decide) (by decide) (by decide) (by decide) ?_
          refine lv_aload_n hE.1 hE.2.1 dX5_put_40 rfl (lv_at hl 0 rfl) ?_
          refine x_get (x := .ref (ad 72)) hE hK hP 71 (Nat.lt_of_lt_of_le (by decide) hNN) (xG_5 rfl) rfl hin5 0 (by decide) mw_445 rfl dX5_put_41 ?_
          refine lv_iload_n hE.1 hE.2.1 dX5_put_44 rfl (lv_at hl 1 rfl) ?_
          refine lv_lload_n hE.1 hE.2.1 dX5_put_45 rfl (lv_at hl 2 rfl) ?_
          refine lv_l2i (v := iI (z_2)) hE.1 hE.2.1 dX5_put_46 (lI_l2i _) ?_
          obtain ⟨z6, hz6, ez6⟩ := iI_of (iI (z_2))
          refine x_top ez6 ?_
          obtain ⟨z7, hz7, ez7⟩ := iI_of ((iI (z6)).toInt8.toInt32)
          refine lv_i2b (v := iI (z7)) hE.1 hE.2.1 dX5_put_47 ez7 ?_
          refine lv_i2l (v := lI (z7)) hE.1 hE.2.1 dX5_put_48 (iI_i2l (by omega)) ?_
          refine x_last (j := iI (z_1)) hE hK hN hP hS 72 (Nat.lt_of_lt_of_le (by decide) hNN) (fun _ => xG_11 rfl) (iI_in (n := 60) (by omega)) dX5_put_49 (fun al8 H locs ha8 hP hS => ?_)
          refine lv_goto (tgt := 85) hE.1 hE.2.1 dX5_put_50 (by decide) ?_
          exact kr _ _ _ _ _ _ _ ⟨hI, fun i j h => rfl⟩ hP hS dX5_put_85
        · skip
          refine lv_tableIn (off := 38) (tgt := 53) hE.1 hE.2.1 dX5_put_15 (by decide) (by decide) (by decide) (by decide) ?_
          refine lv_aload_n hE.1 hE.2.1 dX5_put_53 rfl (lv_at hl 0 rfl) ?_
          refine x_get (x := .ref (ad 72)) hE hK hP 71 (Nat.lt_of_lt_of_le (by decide) hNN) (xG_5 rfl) rfl hin5 0 (by decide) mw_445 rfl dX5_put_54 ?_
          refine lv_iload_n hE.1 hE.2.1 dX5_put_57 rfl (lv_at hl 1 rfl) ?_
          refine lv_lload_n hE.1 hE.2.1 dX5_put_58 rfl (lv_at hl 2 rfl) ?_
          refine lv_l2i (v := iI (z_2)) hE.1 hE.2.1 dX5_put_59 (lI_l2i _) ?_
          obtain ⟨z9, hz9, ez9⟩ := iI_of (iI (z_2))
          refine x_top ez9 ?_
          obtain ⟨z10, hz10, ez10⟩ := iI_of ((iI (z9)).toInt16.toInt32)
          refine lv_i2s (v := iI (z10)) hE.1 hE.2.1 dX5_put_60 ez10 ?_
          refine lv_i2l (v := lI (z10)) hE.1 hE.2.1 dX5_put_61 (iI_i2l (by omega)) ?_
          refine x_last (j := iI (z_1)) hE hK hN hP hS 72 (Nat.lt_of_lt_of_le (by decide) hNN) (fun _ => xG_11 rfl) (iI_in (n := 60) (by omega)) dX5_put_62 (fun al11 H locs ha11 hP hS => ?_)
          refine lv_goto (tgt := 85) hE.1 hE.2.1 dX5_put_63 (by decide) ?_
          exact kr _ _ _ _ _ _ _ ⟨hI, fun i j h => rfl⟩ hP hS dX5_put_85
        · skip
          refine lv_tableIn (off := 51) (tgt := 66) hE.1 hE.2.1 dX5_put_15 (by decide) (by decide) (by decide) (by decide) ?_
          refine lv_aload_n hE.1 hE.2.1 dX5_put_66 rfl (lv_at hl 0 rfl) ?_
          refine x_get (x := .ref (ad 72)) hE hK hP 71 (Nat.lt_of_lt_of_le (by decide) hNN) (xG_5 rfl) rfl hin5 0 (by decide) mw_445 rfl dX5_put_67 ?_
          refine lv_iload_n hE.1 hE.2.1 dX5_put_70 rfl (lv_at hl 1 rfl) ?_
          refine lv_lload_n hE.1 hE.2.1 dX5_put_71 rfl (lv_at hl 2 rfl) ?_
          refine lv_l2i (v := iI (z_2)) hE.1 hE.2.1 dX5_put_72 (lI_l2i _) ?_
          obtain ⟨z12, hz12, ez12⟩ := iI_of (iI (z_2))
          refine x_top ez12 ?_
          refine lv_i2l (v := lI (z12)) hE.1 hE.2.1 dX5_put_73 (iI_i2l (by omega)) ?_
          refine x_last (j := iI (z_1)) hE hK hN hP hS 72 (Nat.lt_of_lt_of_le (by decide) hNN) (fun _ => xG_11 rfl) (iI_in (n := 60) (by omega)) dX5_put_74 (fun al13 H locs ha13 hP hS => ?_)
          refine lv_goto (tgt := 85) hE.1 hE.2.1 dX5_put_75 (by decide) ?_
          exact kr _ _ _ _ _ _ _ ⟨hI, fun i j h => rfl⟩ hP hS dX5_put_85
    · skip
      exact kr _ _ _ _ _ _ _ ⟨hI, fun i j h => rfl⟩ hP hS dX5_put_10

set_option maxHeartbeats 4000000 in
set_option maxRecDepth 100000 in
theorem s_X5_put_73 (l : Launch) (D : va_G) (K : Nat → ClassId) (ad : Nat → Nat) (mm : Option Nat) (N : Nat) (hNN : 132 ≤ N) (v ar : sI) (al : sL) (hI : XI v) (z_1 : Int) (hz_1 : -2147483648 ≤ z_1 ∧ z_1 ≤ 2147483647) (z_2 : Int) (hz_2 : -9223372036854775808 ≤ z_2 ∧ z_2 ≤ 9223372036854775807) : Met l yX5_put (wM yX5_put cX5_put 4 none) (rmD 0) (va_Pc [.ref (ad 73), .int (iI (z_1)), .long (lI (z_2))] (wPre D K ad (xG ad K mm) N v ar al)) (va_Qv (fun u : sT => XI u.1 ∧ (∀ i j : Nat, (i, j) ∉ ([] : List (Nat × Nat)) → u.1 i j = v i j)) (wB D ad (xG ad K mm) N) (inW ad N)) 0 0 (inW ad N) := by
  refine s_metV (by decide) (Nat.le_of_ble_eq_true rfl) ?_
  intro p e s m below meth c ls args Q hE hB hl kr
  have hE : CallFix p m c cX5_put 4 s args tbG "TaleCourt$Row" := hE
  obtain ⟨hP, hK, hN⟩ := hB
  have hS : va_S (inW ad N) s.heap s.heap [] := va_S.rf
  have hl : lv_has ls 4 [(0, .ref (ad 73)), (1, .int (iI (z_1))), (2, .long (lI (z_2)))] := hl
  refine lv_iload_n hE.1 hE.2.1 dX5_put_0 rfl (lv_at hl 1 rfl) ?_
  refine s_if_lt (a := z_1) (tgt := 10) hE.1 hE.2.1 (by omega) dX5_put_1 (by decide) (fun c1 => ?_) (fun c1 => ?_)
  · skip
    exact kr _ _ _ _ _ _ _ ⟨hI, fun i j h => rfl⟩ hP hS dX5_put_10
  · skip
    refine lv_iload_n hE.1 hE.2.1 dX5_put_4 rfl (lv_at hl 1 rfl) ?_
    refine lv_bipush (v := iI (60)) hE.1 hE.2.1 dX5_put_5 (by decide) ?_
    refine s_icmp_lt (a := z_1) (b := 60) (tgt := 11) hE.1 hE.2.1 (by omega) (by omega) dX5_put_7 (by decide) (fun c2 => ?_) (fun c2 => ?_)
    · skip
      refine lv_aload_n hE.1 hE.2.1 dX5_put_11 rfl (lv_at hl 0 rfl) ?_
      obtain ⟨z3, hz3, ez3⟩ := iI_of (v 73 1)
      refine x_get (x := .int (v 73 1)) hE hK hP 73 (Nat.lt_of_lt_of_le (by decide) hNN) (xG_5 rfl) rfl hin5 1 (by decide) mw_447 rfl dX5_put_12 ?_
      refine x_top (y := iI (z3)) ez3 ?_
      by_cases ho4 : z3 < 0 ∨ 2 < z3
      · skip
        refine s_tabOut (a := z3) (tgt := 78) hE.1 hE.2.1 (by omega) dX5_put_15 ho4 (by decide) ?_
        refine lv_aload_n hE.1 hE.2.1 dX5_put_78 rfl (lv_at hl 0 rfl) ?_
        refine x_get (x := .ref (ad 74)) hE hK hP 73 (Nat.lt_of_lt_of_le (by decide) hNN) (xG_5 rfl) rfl hin5 0 (by decide) mw_445 rfl dX5_put_79 ?_
        refine lv_iload_n hE.1 hE.2.1 dX5_put_82 rfl (lv_at hl 1 rfl) ?_
        refine lv_lload_n hE.1 hE.2.1 dX5_put_83 rfl (lv_at hl 2 rfl) ?_
        refine x_last (j := iI (z_1)) hE hK hN hP hS 74 (Nat.lt_of_lt_of_le (by decide) hNN) (fun _ => xG_11 rfl) (iI_in (n := 60) (by omega)) dX5_put_84 (fun al5 H locs ha5 hP hS => ?_)
        exact kr _ _ _ _ _ _ _ ⟨hI, fun i j h => rfl⟩ hP hS dX5_put_85
      · skip
        rcases (show z3 = 0 ∨ z3 = 1 ∨ z3 = 2 by omega) with rfl | rfl | rfl
        · skip
          refine lv_tableIn (off := 25) (tgt := 40) hE.1 hE.2.1 dX5_put_15 (by decide) (by decide) (by decide) (by decide) ?_
          refine lv_aload_n hE.1 hE.2.1 dX5_put_40 rfl (lv_at hl 0 rfl) ?_
          refine x_get (x := .ref (ad 74)) hE hK hP 73 (Nat.lt_of_lt_of_le (by decide) hNN) (xG_5 rfl) rfl hin5 0 (by decide) mw_445 rfl dX5_put_41 ?_
          refine lv_iload_n hE.1 hE.2.1 dX5_put_44 rfl (lv_at hl 1 rfl) ?_
          refine lv_lload_n hE.1 hE.2.1 dX5_put_45 rfl (lv_at hl 2 rfl) ?_
          refine lv_l2i (v := iI (z_2)) hE.1 hE.2.1 dX5_put_46 (lI_l2i _) ?_
          obtain ⟨z6, hz6, ez6⟩ := iI_of (iI (z_2))
          refine x_top ez6 ?_
          obtain ⟨z7, hz7, ez7⟩ := iI_of ((iI (z6)).toInt8.toInt32)
          refine lv_i2b (v := iI (z7)) hE.1 hE.2.1 dX5_put_47 ez7 ?_
          refine lv_i2l (v := lI (z7)) hE.1 hE.2.1 dX5_put_48 (iI_i2l (by omega)) ?_
          refine x_last (j := iI (z_1)) hE hK hN hP hS 74 (Nat.lt_of_lt_of_le (by decide) hNN) (fun _ => xG_11 rfl) (iI_in (n := 60) (by omega)) dX5_put_49 (fun al8 H locs ha8 hP hS => ?_)
          refine lv_goto (tgt := 85) hE.1 hE.2.1 dX5_put_50 (by decide) ?_
          exact kr _ _ _ _ _ _ _ ⟨hI, fun i j h => rfl⟩ hP hS dX5_put_85
        · skip
          refine lv_tableIn (off := 38) (tgt := 53) hE.1 hE.2.1 dX5_put_15 (by decide) (by decide) (by decide) (by decide) ?_
          refine lv_aload_n hE.1 hE.2.1 dX5_put_53 rfl (lv_at hl 0 rfl) ?_
          refine x_get (x := .ref (ad 74)) hE hK hP 73 (Nat.lt_of_lt_of_le (by decide) hNN) (xG_5 rfl) rfl hin5 0 (by decide) mw_445 rfl dX5_put_54 ?_
          refine lv_iload_n hE.1 hE.2.1 dX5_put_57 rfl (lv_at hl 1 rfl) ?_
          refine lv_lload_n hE.1 hE.2.1 dX5_put_58 rfl (lv_at hl 2 rfl) ?_
          refine lv_l2i (v := iI (z_2)) hE.1 hE.2.1 dX5_put_59 (lI_l2i _) ?_
          obtain ⟨z9, hz9, ez9⟩ := iI_of (iI (z_2))
          refine x_top ez9 ?_
          obtain ⟨z10, hz10, ez10⟩ := iI_of ((iI (z9)).toInt16.toInt32)
          refine lv_i2s (v := iI (z10)) hE.1 hE.2.1 dX5_put_60 ez10 ?_
          refine lv_i2l (v := lI (z10)) hE.1 hE.2.1 dX5_put_61 (iI_i2l (by omega)) ?_
          refine x_last (j := iI (z_1)) hE hK hN hP hS 74 (Nat.lt_of_lt_of_le (by decide) hNN) (fun _ => xG_11 rfl) (iI_in (n := 60) (by omega)) dX5_put_62 (fun al11 H locs ha11 hP hS => ?_)
          refine lv_goto (tgt := 85) hE.1 hE.2.1 dX5_put_63 (by decide) ?_
          exact kr _ _ _ _ _ _ _ ⟨hI, fun i j h => rfl⟩ hP hS dX5_put_85
        · skip
          refine lv_tableIn (off := 51) (tgt := 66) hE.1 hE.2.1 dX5_put_15 (by decide) (by decide) (by decide) (by decide) ?_
          refine lv_aload_n hE.1 hE.2.1 dX5_put_66 rfl (lv_at hl 0 rfl) ?_
          refine x_get (x := .ref (ad 74)) hE hK hP 73 (Nat.lt_of_lt_of_le (by decide) hNN) (xG_5 rfl) rfl hin5 0 (by decide) mw_445 rfl dX5_put_67 ?_
          refine lv_iload_n hE.1 hE.2.1 dX5_put_70 rfl (lv_at hl 1 rfl) ?_
          refine lv_lload_n hE.1 hE.2.1 dX5_put_71 rfl (lv_at hl 2 rfl) ?_
          refine lv_l2i (v := iI (z_2)) hE.1 hE.2.1 dX5_put_72 (lI_l2i _) ?_
          obtain ⟨z12, hz12, ez12⟩ := iI_of (iI (z_2))
          refine x_top ez12 ?_
          refine lv_i2l (v := lI (z12)) hE.1 hE.2.1 dX5_put_73 (iI_i2l (by omega)) ?_
          refine x_last (j := iI (z_1)) hE hK hN hP hS 74 (Nat.lt_of_lt_of_le (by decide) hNN) (fun _ => xG_11 rfl) (iI_in (n := 60) (by omega)) dX5_put_74 (fun al13 H locs ha13 hP hS => ?_)
          refine lv_goto (tgt := 85) hE.1 hE.2.1 dX5_put_75 (by decide) ?_
          exact kr _ _ _ _ _ _ _ ⟨hI, fun i j h => rfl⟩ hP hS dX5_put_85
    · skip
      exact kr _ _ _ _ _ _ _ ⟨hI, fun i j h => rfl⟩ hP hS dX5_put_10

theorem dX8_write_0 : decode cX8_write 0 = .ok (.iload_n 1, 1) := by decide +kernel
theorem dX8_write_1 : decode cX8_write 1 = .ok (.invokestatic 260, 3) := by decide +kernel
theorem dX8_write_4 : decode cX8_write 4 = .ok (.ifCond .ne 6, 3) := by decide +kernel
theorem dX8_write_7 : decode cX8_write 7 = .ok (.bipush (-2), 2) := by decide +kernel
theorem dX8_write_9 : decode cX8_write 9 = .ok (.ireturn, 1) := by decide +kernel
theorem dX8_write_10 : decode cX8_write 10 = .ok (.aload_n 0, 1) := by decide +kernel
theorem dX8_write_11 : decode cX8_write 11 = .ok (.getfield 63, 3) := by decide +kernel
theorem dX8_write_14 : decode cX8_write 14 = .ok (.iload_n 1, 1) := by decide +kernel
theorem dX8_write_15 : decode cX8_write 15 = .ok (.aaload, 1) := by decide +kernel
theorem dX8_write_16 : decode cX8_write 16 = .ok (.astore 5, 2) := by decide +kernel
theorem dX8_write_18 : decode cX8_write 18 = .ok (.aload 5, 2) := by decide +kernel
theorem dX8_write_20 : decode cX8_write 20 = .ok (.getfield 263, 3) := by decide +kernel
theorem dX8_write_23 : decode cX8_write 23 = .ok (.ifCond .ge 6, 3) := by decide +kernel
theorem dX8_write_26 : decode cX8_write 26 = .ok (.bipush (-6), 2) := by decide +kernel
theorem dX8_write_28 : decode cX8_write 28 = .ok (.ireturn, 1) := by decide +kernel
theorem dX8_write_29 : decode cX8_write 29 = .ok (.iload_n 2, 1) := by decide +kernel
theorem dX8_write_30 : decode cX8_write 30 = .ok (.ifCond .lt 12, 3) := by decide +kernel
theorem dX8_write_33 : decode cX8_write 33 = .ok (.iload_n 2, 1) := by decide +kernel
theorem dX8_write_34 : decode cX8_write 34 = .ok (.aload 5, 2) := by decide +kernel
theorem dX8_write_36 : decode cX8_write 36 = .ok (.getfield 263, 3) := by decide +kernel
theorem dX8_write_39 : decode cX8_write 39 = .ok (.if_icmp .lt 6, 3) := by decide +kernel
theorem dX8_write_42 : decode cX8_write 42 = .ok (.bipush (-7), 2) := by decide +kernel
theorem dX8_write_44 : decode cX8_write 44 = .ok (.ireturn, 1) := by decide +kernel
theorem dX8_write_45 : decode cX8_write 45 = .ok (.aload 5, 2) := by decide +kernel
theorem dX8_write_47 : decode cX8_write 47 = .ok (.iload_n 2, 1) := by decide +kernel
theorem dX8_write_48 : decode cX8_write 48 = .ok (.lload_n 3, 1) := by decide +kernel
theorem dX8_write_49 : decode cX8_write 49 = .ok (.invokevirtual 369, 3) := by decide +kernel
theorem dX8_write_52 : decode cX8_write 52 = .ok (.iconst 0, 1) := by decide +kernel
theorem dX8_write_53 : decode cX8_write 53 = .ok (.ireturn, 1) := by decide +kernel
set_option maxHeartbeats 4000000 in
set_option maxRecDepth 100000 in
theorem s_X8_write_0 (l : Launch) (D : va_G) (K : Nat → ClassId) (ad : Nat → Nat) (mm : Option Nat) (N : Nat) (hNN : 132 ≤ N) (v ar : sI) (al : sL) (hI : XI v) (w_1 : Int) (hw_1 : -1 ≤ w_1 ∧ w_1 ≤ 60) (ew_1 : v 67 2 = iI w_1) (w_2 : Int) (hw_2 : -1 ≤ w_2 ∧ w_2 ≤ 60) (ew_2 : v 69 2 = iI w_2) (w_3 : Int) (hw_3 : -1 ≤ w_3 ∧ w_3 ≤ 60) (ew_3 : v 71 2 = iI w_3) (w_4 : Int) (hw_4 : -1 ≤ w_4 ∧ w_4 ≤ 60) (ew_4 : v 73 2 = iI w_4) (z_1 : Int) (hz_1 : -2147483648 ≤ z_1 ∧ z_1 ≤ 2147483647) (z_2 : Int) (hz_2 : -2147483648 ≤ z_2 ∧ z_2 ≤ 2147483647) (z_3 : Int) (hz_3 : -9223372036854775808 ≤ z_3 ∧ z_3 ≤ 9223372036854775807) : Met l yX8_write (wM yX8_write cX8_write 6 (some .int)) (rmD 1) (va_Pc [.ref (ad 0), .int (iI (z_1)), .int (iI (z_2)), .long (lI (z_3))] (wPre D K ad (xG ad K mm) N v ar al)) (va_Qi (fun (r : Int32) (u : sT) => (∃ z : Int, (((z_1 < 0 ∨ 3 < z_1) ∧ z = -2) ∨ (z_1 = 0 ∧ ((w_1 < 0 ∧ z = -6) ∨ (0 ≤ w_1 ∧ (z_2 < 0 ∨ w_1 ≤ z_2) ∧ z = -7) ∨ (0 ≤ z_2 ∧ z_2 < w_1 ∧ z = 0))) ∨ (z_1 = 1 ∧ ((w_2 < 0 ∧ z = -6) ∨ (0 ≤ w_2 ∧ (z_2 < 0 ∨ w_2 ≤ z_2) ∧ z = -7) ∨ (0 ≤ z_2 ∧ z_2 < w_2 ∧ z = 0))) ∨ (z_1 = 2 ∧ ((w_3 < 0 ∧ z = -6) ∨ (0 ≤ w_3 ∧ (z_2 < 0 ∨ w_3 ≤ z_2) ∧ z = -7) ∨ (0 ≤ z_2 ∧ z_2 < w_3 ∧ z = 0))) ∨ (z_1 = 3 ∧ ((w_4 < 0 ∧ z = -6) ∨ (0 ≤ w_4 ∧ (z_2 < 0 ∨ w_4 ≤ z_2) ∧ z = -7) ∨ (0 ≤ z_2 ∧ z_2 < w_4 ∧ z = 0)))) ∧ r = iI z) ∧ XI u.1 ∧ (∀ i j : Nat, (i, j) ∉ ([] : List (Nat × Nat)) → u.1 i j = v i j)) (wB D ad (xG ad K mm) N) (inW ad N)) 0 0 (inW ad N) := by
  refine s_metI (by decide) (Nat.le_of_ble_eq_true rfl) ?_
  intro p e s m below meth c ls args Q hE hB hl kr
  have hE : CallFix p m c cX8_write 6 s args tbG "TaleCourt" := hE
  obtain ⟨hP, hK, hN⟩ := hB
  have hS : va_S (inW ad N) s.heap s.heap [] := va_S.rf
  have hl : lv_has ls 6 [(0, .ref (ad 0)), (1, .int (iI (z_1))), (2, .int (iI (z_2))), (3, .long (lI (z_3)))] := hl
  refine lv_iload_n hE.1 hE.2.1 dX8_write_0 rfl (lv_at hl 1 rfl) ?_
  refine x_sp (nn := 1) (As := [.int (iI (z_1))]) (rest := []) hE (s_X8_isSlot l (z_1) (by omega)) tt_blind (fun _ _ _ => trivial) rfl mw_1134 mw_1135 mw_114 mw_1136 (by decide +kernel) ⟨by decide, by decide⟩ hl.1 rfl (Nat.le_of_ble_eq_true rfl) ⟨Nat.zero_le _, Nat.zero_le _⟩ dX8_write_1 (fun r1 hr1 => ?_)
  obtain ⟨z1, hz1, rfl⟩ := hr1
  refine s_if_ne (a := z1) (tgt := 10) hE.1 hE.2.1 (by omega) dX8_write_4 (by decide) (fun c2 => ?_) (fun c2 => ?_)
  · skip
    refine lv_aload_n hE.1 hE.2.1 dX8_write_10 rfl (lv_at hl 0 rfl) ?_
    refine x_get (x := .ref (ad 65)) hE hK hP 0 (Nat.lt_of_lt_of_le (by decide) hNN) (xG_8 rfl) rfl hin8 8 (by decide) mw_488 rfl dX8_write_11 ?_
    refine lv_iload_n hE.1 hE.2.1 dX8_write_14 rfl (lv_at hl 1 rfl) ?_
    rcases (show z_1 = 0 ∨ z_1 = 1 ∨ z_1 = 2 ∨ z_1 = 3 by omega) with rfl | rfl | rfl | rfl
    · skip
      refine x_aald (r := .ref (ad 67)) hE hK hP 65 4 (Nat.lt_of_lt_of_le (by decide) hNN) (xG_13 rfl) rfl (by unfold vp_in; decide) rfl dX8_write_15 ?_
      refine lv_astore (lv' := [(5, .ref (ad 67)), (0, .ref (ad 0)), (1, .int (iI (0))), (2, .int (iI (z_2))), (3, .long (lI (z_3)))]) hE.1 hE.2.1 dX8_write_16 hl (by decide) rfl (fun ls hl => ?_)
      refine lv_aload hE.1 hE.2.1 dX8_write_18 (lv_at hl 0 rfl) ?_
      refine x_get (x := .int (v 67 2)) hE hK hP 67 (Nat.lt_of_lt_of_le (by decide) hNN) (xG_5 rfl) rfl hin5 2 (by decide) mw_451 rfl dX8_write_20 ?_
      refine x_top (y := iI (w_1)) ew_1 ?_
      refine s_if_ge (a := w_1) (tgt := 29) hE.1 hE.2.1 (by omega) dX8_write_23 (by decide) (fun c3 => ?_) (fun c3 => ?_)
      · skip
        refine lv_iload_n hE.1 hE.2.1 dX8_write_29 rfl (lv_at hl 3 rfl) ?_
        refine s_if_lt (a := z_2) (tgt := 42) hE.1 hE.2.1 (by omega) dX8_write_30 (by decide) (fun c4 => ?_) (fun c4 => ?_)
        · skip
          refine lv_bipush (v := iI (-7)) hE.1 hE.2.1 dX8_write_42 (by decide) ?_
          exact kr _ _ _ _ _ _ _ _ rfl ⟨⟨-7, by omega, rfl⟩, hI, fun i j h => rfl⟩ hP hS dX8_write_44
        · skip
          refine lv_iload_n hE.1 hE.2.1 dX8_write_33 rfl (lv_at hl 3 rfl) ?_
          refine lv_aload hE.1 hE.2.1 dX8_write_34 (lv_at hl 0 rfl) ?_
          refine x_get (x := .int (v 67 2)) hE hK hP 67 (Nat.lt_of_lt_of_le (by decide) hNN) (xG_5 rfl) rfl hin5 2 (by decide) mw_451 rfl dX8_write_36 ?_
          refine x_top (y := iI (w_1)) ew_1 ?_
          refine s_icmp_lt (a := z_2) (b := w_1) (tgt := 45) hE.1 hE.2.1 (by omega) (by omega) dX8_write_39 (by decide) (fun c5 => ?_) (fun c5 => ?_)
          · skip
            refine lv_aload hE.1 hE.2.1 dX8_write_45 (lv_at hl 0 rfl) ?_
            refine lv_iload_n hE.1 hE.2.1 dX8_write_47 rfl (lv_at hl 3 rfl) ?_
            refine lv_lload_n hE.1 hE.2.1 dX8_write_48 rfl (lv_at hl 4 rfl) ?_
            refine x_vv (nn := 2) (As := [.int (iI (z_2)), .long (lI (z_3))]) (rest := []) hE hK hN hP hS (s_X5_put_67 l D K ad mm N hNN v ar al hI  (z_2) (by omega) (z_3) (by omega)) (x_recv hK hP 67 (Nat.lt_of_lt_of_le (by decide) hNN) (xG_5 rfl) rfl) rfl mw_1314 mw_1315 mw_1316 mw_121 mw_1317 (by decide +kernel) ⟨by decide, by decide⟩ hl.1 rfl (Nat.le_of_ble_eq_true rfl) ⟨Nat.zero_le _, Nat.zero_le _⟩ dX8_write_49 (fun v6 ar6 al6 H locs hq6 hP hS => ?_)
            obtain ⟨hI, hq6⟩ := hq6
            have hI : XI v6 := hI
            refine lv_iconst (v := iI (0)) hE.1 hE.2.1 dX8_write_52 (by decide) ?_
            exact kr _ _ _ _ _ _ _ _ rfl ⟨⟨0, by omega, rfl⟩, hI, fun i j h => (hq6 i j (fun q => h (mem_sub (by decide) q)))⟩ hP hS dX8_write_53
          · skip
            refine lv_bipush (v := iI (-7)) hE.1 hE.2.1 dX8_write_42 (by decide) ?_
            exact kr _ _ _ _ _ _ _ _ rfl ⟨⟨-7, by omega, rfl⟩, hI, fun i j h => rfl⟩ hP hS dX8_write_44
      · skip
        refine lv_bipush (v := iI (-6)) hE.1 hE.2.1 dX8_write_26 (by decide) ?_
        exact kr _ _ _ _ _ _ _ _ rfl ⟨⟨-6, by omega, rfl⟩, hI, fun i j h => rfl⟩ hP hS dX8_write_28
    · skip
      refine x_aald (r := .ref (ad 69)) hE hK hP 65 4 (Nat.lt_of_lt_of_le (by decide) hNN) (xG_13 rfl) rfl (by unfold vp_in; decide) rfl dX8_write_15 ?_
      refine lv_astore (lv' := [(5, .ref (ad 69)), (0, .ref (ad 0)), (1, .int (iI (1))), (2, .int (iI (z_2))), (3, .long (lI (z_3)))]) hE.1 hE.2.1 dX8_write_16 hl (by decide) rfl (fun ls hl => ?_)
      refine lv_aload hE.1 hE.2.1 dX8_write_18 (lv_at hl 0 rfl) ?_
      refine x_get (x := .int (v 69 2)) hE hK hP 69 (Nat.lt_of_lt_of_le (by decide) hNN) (xG_5 rfl) rfl hin5 2 (by decide) mw_451 rfl dX8_write_20 ?_
      refine x_top (y := iI (w_2)) ew_2 ?_
      refine s_if_ge (a := w_2) (tgt := 29) hE.1 hE.2.1 (by omega) dX8_write_23 (by decide) (fun c7 => ?_) (fun c7 => ?_)
      · skip
        refine lv_iload_n hE.1 hE.2.1 dX8_write_29 rfl (lv_at hl 3 rfl) ?_
        refine s_if_lt (a := z_2) (tgt := 42) hE.1 hE.2.1 (by omega) dX8_write_30 (by decide) (fun c8 => ?_) (fun c8 => ?_)
        · skip
          refine lv_bipush (v := iI (-7)) hE.1 hE.2.1 dX8_write_42 (by decide) ?_
          exact kr _ _ _ _ _ _ _ _ rfl ⟨⟨-7, by omega, rfl⟩, hI, fun i j h => rfl⟩ hP hS dX8_write_44
        · skip
          refine lv_iload_n hE.1 hE.2.1 dX8_write_33 rfl (lv_at hl 3 rfl) ?_
          refine lv_aload hE.1 hE.2.1 dX8_write_34 (lv_at hl 0 rfl) ?_
          refine x_get (x := .int (v 69 2)) hE hK hP 69 (Nat.lt_of_lt_of_le (by decide) hNN) (xG_5 rfl) rfl hin5 2 (by decide) mw_451 rfl dX8_write_36 ?_
          refine x_top (y := iI (w_2)) ew_2 ?_
          refine s_icmp_lt (a := z_2) (b := w_2) (tgt := 45) hE.1 hE.2.1 (by omega) (by omega) dX8_write_39 (by decide) (fun c9 => ?_) (fun c9 => ?_)
          · skip
            refine lv_aload hE.1 hE.2.1 dX8_write_45 (lv_at hl 0 rfl) ?_
            refine lv_iload_n hE.1 hE.2.1 dX8_write_47 rfl (lv_at hl 3 rfl) ?_
            refine lv_lload_n hE.1 hE.2.1 dX8_write_48 rfl (lv_at hl 4 rfl) ?_
            refine x_vv (nn := 2) (As := [.int (iI (z_2)), .long (lI (z_3))]) (rest := []) hE hK hN hP hS (s_X5_put_69 l D K ad mm N hNN v ar al hI  (z_2) (by omega) (z_3) (by omega)) (x_recv hK hP 69 (Nat.lt_of_lt_of_le (by decide) hNN) (xG_5 rfl) rfl) rfl mw_1314 mw_1315 mw_1316 mw_121 mw_1317 (by decide +kernel) ⟨by decide, by decide⟩ hl.1 rfl (Nat.le_of_ble_eq_true rfl) ⟨Nat.zero_le _, Nat.zero_le _⟩ dX8_write_49 (fun v10 ar10 al10 H locs hq10 hP hS => ?_)
            obtain ⟨hI, hq10⟩ := hq10
            have hI : XI v10 := hI
            refine lv_iconst (v := iI (0)) hE.1 hE.2.1 dX8_write_52 (by decide) ?_
            exact kr _ _ _ _ _ _ _ _ rfl ⟨⟨0, by omega, rfl⟩, hI, fun i j h => (hq10 i j (fun q => h (mem_sub (by decide) q)))⟩ hP hS dX8_write_53
          · skip
            refine lv_bipush (v := iI (-7)) hE.1 hE.2.1 dX8_write_42 (by decide) ?_
            exact kr _ _ _ _ _ _ _ _ rfl ⟨⟨-7, by omega, rfl⟩, hI, fun i j h => rfl⟩ hP hS dX8_write_44
      · skip
        refine lv_bipush (v := iI (-6)) hE.1 hE.2.1 dX8_write_26 (by decide) ?_
        exact kr _ _ _ _ _ _ _ _ rfl ⟨⟨-6, by omega, rfl⟩, hI, fun i j h => rfl⟩ hP hS dX8_write_28
    · skip
      refine x_aald (r := .ref (ad 71)) hE hK hP 65 4 (Nat.lt_of_lt_of_le (by decide) hNN) (xG_13 rfl) rfl (by unfold vp_in; decide) rfl dX8_write_15 ?_
      refine lv_astore (lv' := [(5, .ref (ad 71)), (0, .ref (ad 0)), (1, .int (iI (2))), (2, .int (iI (z_2))), (3, .long (lI (z_3)))]) hE.1 hE.2.1 dX8_write_16 hl (by decide) rfl (fun ls hl => ?_)
      refine lv_aload hE.1 hE.2.1 dX8_write_18 (lv_at hl 0 rfl) ?_
      refine x_get (x := .int (v 71 2)) hE hK hP 71 (Nat.lt_of_lt_of_le (by decide) hNN) (xG_5 rfl) rfl hin5 2 (by decide) mw_451 rfl dX8_write_20 ?_
      refine x_top (y := iI (w_3)) ew_3 ?_
      refine s_if_ge (a := w_3) (tgt := 29) hE.1 hE.2.1 (by omega) dX8_write_23 (by decide) (fun c11 => ?_) (fun c11 => ?_)
      · skip
        refine lv_iload_n hE.1 hE.2.1 dX8_write_29 rfl (lv_at hl 3 rfl) ?_
        refine s_if_lt (a := z_2) (tgt := 42) hE.1 hE.2.1 (by omega) dX8_write_30 (by decide) (fun c12 => ?_) (fun c12 => ?_)
        · skip
          refine lv_bipush (v := iI (-7)) hE.1 hE.2.1 dX8_write_42 (by decide) ?_
          exact kr _ _ _ _ _ _ _ _ rfl ⟨⟨-7, by omega, rfl⟩, hI, fun i j h => rfl⟩ hP hS dX8_write_44
        · skip
          refine lv_iload_n hE.1 hE.2.1 dX8_write_33 rfl (lv_at hl 3 rfl) ?_
          refine lv_aload hE.1 hE.2.1 dX8_write_34 (lv_at hl 0 rfl) ?_
          refine x_get (x := .int (v 71 2)) hE hK hP 71 (Nat.lt_of_lt_of_le (by decide) hNN) (xG_5 rfl) rfl hin5 2 (by decide) mw_451 rfl dX8_write_36 ?_
          refine x_top (y := iI (w_3)) ew_3 ?_
          refine s_icmp_lt (a := z_2) (b := w_3) (tgt := 45) hE.1 hE.2.1 (by omega) (by omega) dX8_write_39 (by decide) (fun c13 => ?_) (fun c13 => ?_)
          · skip
            refine lv_aload hE.1 hE.2.1 dX8_write_45 (lv_at hl 0 rfl) ?_
            refine lv_iload_n hE.1 hE.2.1 dX8_write_47 rfl (lv_at hl 3 rfl) ?_
            refine lv_lload_n hE.1 hE.2.1 dX8_write_48 rfl (lv_at hl 4 rfl) ?_
            refine x_vv (nn := 2) (As := [.int (iI (z_2)), .long (lI (z_3))]) (rest := []) hE hK hN hP hS (s_X5_put_71 l D K ad mm N hNN v ar al hI  (z_2) (by omega) (z_3) (by omega)) (x_recv hK hP 71 (Nat.lt_of_lt_of_le (by decide) hNN) (xG_5 rfl) rfl) rfl mw_1314 mw_1315 mw_1316 mw_121 mw_1317 (by decide +kernel) ⟨by decide, by decide⟩ hl.1 rfl (Nat.le_of_ble_eq_true rfl) ⟨Nat.zero_le _, Nat.zero_le _⟩ dX8_write_49 (fun v14 ar14 al14 H locs hq14 hP hS => ?_)
            obtain ⟨hI, hq14⟩ := hq14
            have hI : XI v14 := hI
            refine lv_iconst (v := iI (0)) hE.1 hE.2.1 dX8_write_52 (by decide) ?_
            exact kr _ _ _ _ _ _ _ _ rfl ⟨⟨0, by omega, rfl⟩, hI, fun i j h => (hq14 i j (fun q => h (mem_sub (by decide) q)))⟩ hP hS dX8_write_53
          · skip
            refine lv_bipush (v := iI (-7)) hE.1 hE.2.1 dX8_write_42 (by decide) ?_
            exact kr _ _ _ _ _ _ _ _ rfl ⟨⟨-7, by omega, rfl⟩, hI, fun i j h => rfl⟩ hP hS dX8_write_44
      · skip
        refine lv_bipush (v := iI (-6)) hE.1 hE.2.1 dX8_write_26 (by decide) ?_
        exact kr _ _ _ _ _ _ _ _ rfl ⟨⟨-6, by omega, rfl⟩, hI, fun i j h => rfl⟩ hP hS dX8_write_28
    · skip
      refine x_aald (r := .ref (ad 73)) hE hK hP 65 4 (Nat.lt_of_lt_of_le (by decide) hNN) (xG_13 rfl) rfl (by unfold vp_in; decide) rfl dX8_write_15 ?_
      refine lv_astore (lv' := [(5, .ref (ad 73)), (0, .ref (ad 0)), (1, .int (iI (3))), (2, .int (iI (z_2))), (3, .long (lI (z_3)))]) hE.1 hE.2.1 dX8_write_16 hl (by decide) rfl (fun ls hl => ?_)
      refine lv_aload hE.1 hE.2.1 dX8_write_18 (lv_at hl 0 rfl) ?_
      refine x_get (x := .int (v 73 2)) hE hK hP 73 (Nat.lt_of_lt_of_le (by decide) hNN) (xG_5 rfl) rfl hin5 2 (by decide) mw_451 rfl dX8_write_20 ?_
      refine x_top (y := iI (w_4)) ew_4 ?_
      refine s_if_ge (a := w_4) (tgt := 29) hE.1 hE.2.1 (by omega) dX8_write_23 (by decide) (fun c15 => ?_) (fun c15 => ?_)
      · skip
        refine lv_iload_n hE.1 hE.2.1 dX8_write_29 rfl (lv_at hl 3 rfl) ?_
        refine s_if_lt (a := z_2) (tgt := 42) hE.1 hE.2.1 (by omega) dX8_write_30 (by decide) (fun c16 => ?_) (fun c16 => ?_)
        · skip
          refine lv_bipush (v := iI (-7)) hE.1 hE.2.1 dX8_write_42 (by decide) ?_
          exact kr _ _ _ _ _ _ _ _ rfl ⟨⟨-7, by omega, rfl⟩, hI, fun i j h => rfl⟩ hP hS dX8_write_44
        · skip
          refine lv_iload_n hE.1 hE.2.1 dX8_write_33 rfl (lv_at hl 3 rfl) ?_
          refine lv_aload hE.1 hE.2.1 dX8_write_34 (lv_at hl 0 rfl) ?_
          refine x_get (x := .int (v 73 2)) hE hK hP 73 (Nat.lt_of_lt_of_le (by decide) hNN) (xG_5 rfl) rfl hin5 2 (by decide) mw_451 rfl dX8_write_36 ?_
          refine x_top (y := iI (w_4)) ew_4 ?_
          refine s_icmp_lt (a := z_2) (b := w_4) (tgt := 45) hE.1 hE.2.1 (by omega) (by omega) dX8_write_39 (by decide) (fun c17 => ?_) (fun c17 => ?_)
          · skip
            refine lv_aload hE.1 hE.2.1 dX8_write_45 (lv_at hl 0 rfl) ?_
            refine lv_iload_n hE.1 hE.2.1 dX8_write_47 rfl (lv_at hl 3 rfl) ?_
            refine lv_lload_n hE.1 hE.2.1 dX8_write_48 rfl (lv_at hl 4 rfl) ?_
            refine x_vv (nn := 2) (As := [.int (iI (z_2)), .long (lI (z_3))]) (rest := []) hE hK hN hP hS (s_X5_put_73 l D K ad mm N hNN v ar al hI  (z_2) (by omega) (z_3) (by omega)) (x_recv hK hP 73 (Nat.lt_of_lt_of_le (by decide) hNN) (xG_5 rfl) rfl) rfl mw_1314 mw_1315 mw_1316 mw_121 mw_1317 (by decide +kernel) ⟨by decide, by decide⟩ hl.1 rfl (Nat.le_of_ble_eq_true rfl) ⟨Nat.zero_le _, Nat.zero_le _⟩ dX8_write_49 (fun v18 ar18 al18 H locs hq18 hP hS => ?_)
            obtain ⟨hI, hq18⟩ := hq18
            have hI : XI v18 := hI
            refine lv_iconst (v := iI (0)) hE.1 hE.2.1 dX8_write_52 (by decide) ?_
            exact kr _ _ _ _ _ _ _ _ rfl ⟨⟨0, by omega, rfl⟩, hI, fun i j h => (hq18 i j (fun q => h (mem_sub (by decide) q)))⟩ hP hS dX8_write_53
          · skip
            refine lv_bipush (v := iI (-7)) hE.1 hE.2.1 dX8_write_42 (by decide) ?_
            exact kr _ _ _ _ _ _ _ _ rfl ⟨⟨-7, by omega, rfl⟩, hI, fun i j h => rfl⟩ hP hS dX8_write_44
      · skip
        refine lv_bipush (v := iI (-6)) hE.1 hE.2.1 dX8_write_26 (by decide) ?_
        exact kr _ _ _ _ _ _ _ _ rfl ⟨⟨-6, by omega, rfl⟩, hI, fun i j h => rfl⟩ hP hS dX8_write_28
  · skip
    refine lv_bipush (v := iI (-2)) hE.1 hE.2.1 dX8_write_7 (by decide) ?_
    exact kr _ _ _ _ _ _ _ _ rfl ⟨⟨-2, by omega, rfl⟩, hI, fun i j h => rfl⟩ hP hS dX8_write_9

theorem dX5_holds_0 : decode cX5_holds 0 = .ok (.iload_n 1, 1) := by decide +kernel
theorem dX5_holds_1 : decode cX5_holds 1 = .ok (.ifCond .lt 33, 3) := by decide +kernel
theorem dX5_holds_4 : decode cX5_holds 4 = .ok (.iload_n 2, 1) := by decide +kernel
theorem dX5_holds_5 : decode cX5_holds 5 = .ok (.ifCond .lt 29, 3) := by decide +kernel
theorem dX5_holds_8 : decode cX5_holds 8 = .ok (.iload_n 2, 1) := by decide +kernel
theorem dX5_holds_9 : decode cX5_holds 9 = .ok (.ifCond .eq 21, 3) := by decide +kernel
theorem dX5_holds_12 : decode cX5_holds 12 = .ok (.iload_n 2, 1) := by decide +kernel
theorem dX5_holds_13 : decode cX5_holds 13 = .ok (.aload_n 0, 1) := by decide +kernel
theorem dX5_holds_14 : decode cX5_holds 14 = .ok (.getfield 15, 3) := by decide +kernel
theorem dX5_holds_17 : decode cX5_holds 17 = .ok (.if_icmp .gt 17, 3) := by decide +kernel
theorem dX5_holds_20 : decode cX5_holds 20 = .ok (.iload_n 1, 1) := by decide +kernel
theorem dX5_holds_21 : decode cX5_holds 21 = .ok (.aload_n 0, 1) := by decide +kernel
theorem dX5_holds_22 : decode cX5_holds 22 = .ok (.getfield 15, 3) := by decide +kernel
theorem dX5_holds_25 : decode cX5_holds 25 = .ok (.iload_n 2, 1) := by decide +kernel
theorem dX5_holds_26 : decode cX5_holds 26 = .ok (.isub, 1) := by decide +kernel
theorem dX5_holds_27 : decode cX5_holds 27 = .ok (.if_icmp .gt 7, 3) := by decide +kernel
theorem dX5_holds_30 : decode cX5_holds 30 = .ok (.iconst 1, 1) := by decide +kernel
theorem dX5_holds_31 : decode cX5_holds 31 = .ok (.goto 4, 3) := by decide +kernel
theorem dX5_holds_34 : decode cX5_holds 34 = .ok (.iconst 0, 1) := by decide +kernel
theorem dX5_holds_35 : decode cX5_holds 35 = .ok (.ireturn, 1) := by decide +kernel
set_option maxHeartbeats 4000000 in
set_option maxRecDepth 100000 in
theorem s_X5_holds_67 (l : Launch) (D : va_G) (K : Nat → ClassId) (ad : Nat → Nat) (mm : Option Nat) (N : Nat) (hNN : 132 ≤ N) (v ar : sI) (al : sL) (hI : XI v) (z_1 : Int) (hz_1 : -2147483648 ≤ z_1 ∧ z_1 ≤ 2147483647) (z_2 : Int) (hz_2 : -2147483648 ≤ z_2 ∧ z_2 ≤ 2147483647) : Met l yX5_holds (wM yX5_holds cX5_holds 3 (some .boolean)) (rmD 0) (va_Pc [.ref (ad 67), .int (iI (z_1)), .int (iI (z_2))] (wPre D K ad (xG ad K mm) N v ar al)) (vp_Si (fun r => ∃ z : Int, (z = 0 ∨ (z = 1 ∧ 0 ≤ z_1 ∧ 0 ≤ z_2 ∧ (z_2 = 0 ∨ z_1 + z_2 ≤ 60))) ∧ r = iI z)) 0 0 (fun _ => False) := by
  refine s_metP (by decide) (Nat.le_of_ble_eq_true rfl) ?_
  intro p e s m below meth c ls args Q hE hB hl kr
  have hE : CallFix p m c cX5_holds 3 s args tbG "TaleCourt$Row" := hE
  obtain ⟨hP, hK, hN⟩ := hB
  have hl : lv_has ls 3 [(0, .ref (ad 67)), (1, .int (iI (z_1))), (2, .int (iI (z_2)))] := hl
  refine lv_iload_n hE.1 hE.2.1 dX5_holds_0 rfl (lv_at hl 1 rfl) ?_
  refine s_if_lt (a := z_1) (tgt := 34) hE.1 hE.2.1 (by omega) dX5_holds_1 (by decide) (fun c1 => ?_) (fun c1 => ?_)
  · skip
    refine lv_iconst (v := iI (0)) hE.1 hE.2.1 dX5_holds_34 (by decide) ?_
    exact kr _ _ _ (nar01 (by omega)) ⟨0, by omega, rfl⟩ dX5_holds_35
  · skip
    refine lv_iload_n hE.1 hE.2.1 dX5_holds_4 rfl (lv_at hl 2 rfl) ?_
    refine s_if_lt (a := z_2) (tgt := 34) hE.1 hE.2.1 (by omega) dX5_holds_5 (by decide) (fun c2 => ?_) (fun c2 => ?_)
    · skip
      refine lv_iconst (v := iI (0)) hE.1 hE.2.1 dX5_holds_34 (by decide) ?_
      exact kr _ _ _ (nar01 (by omega)) ⟨0, by omega, rfl⟩ dX5_holds_35
    · skip
      refine lv_iload_n hE.1 hE.2.1 dX5_holds_8 rfl (lv_at hl 2 rfl) ?_
      refine s_if_eq (a := z_2) (tgt := 30) hE.1 hE.2.1 (by omega) dX5_holds_9 (by decide) (fun c3 => ?_) (fun c3 => ?_)
      · skip
        refine lv_iconst (v := iI (1)) hE.1 hE.2.1 dX5_holds_30 (by decide) ?_
        refine lv_goto (tgt := 35) hE.1 hE.2.1 dX5_holds_31 (by decide) ?_
        exact kr _ _ _ (nar01 (by omega)) ⟨1, by omega, rfl⟩ dX5_holds_35
      · skip
        refine lv_iload_n hE.1 hE.2.1 dX5_holds_12 rfl (lv_at hl 2 rfl) ?_
        refine lv_aload_n hE.1 hE.2.1 dX5_holds_13 rfl (lv_at hl 0 rfl) ?_
        obtain ⟨z4, hz4, ez4⟩ := XI_get hI 67 2 (-1) 60 (by decide)
        refine x_get (x := .int (v 67 2)) hE hK hP 67 (Nat.lt_of_lt_of_le (by decide) hNN) (xG_5 rfl) rfl hin5 2 (by decide) mw_449 rfl dX5_holds_14 ?_
        refine x_top (y := iI (z4)) ez4 ?_
        refine s_icmp_gt (a := z_2) (b := z4) (tgt := 34) hE.1 hE.2.1 (by omega) (by omega) dX5_holds_17 (by decide) (fun c5 => ?_) (fun c5 => ?_)
        · skip
          refine lv_iconst (v := iI (0)) hE.1 hE.2.1 dX5_holds_34 (by decide) ?_
          exact kr _ _ _ (nar01 (by omega)) ⟨0, by omega, rfl⟩ dX5_holds_35
        · skip
          refine lv_iload_n hE.1 hE.2.1 dX5_holds_20 rfl (lv_at hl 1 rfl) ?_
          refine lv_aload_n hE.1 hE.2.1 dX5_holds_21 rfl (lv_at hl 0 rfl) ?_
          refine x_get (x := .int (v 67 2)) hE hK hP 67 (Nat.lt_of_lt_of_le (by decide) hNN) (xG_5 rfl) rfl hin5 2 (by decide) mw_449 rfl dX5_holds_22 ?_
          refine x_top (y := iI (z4)) ez4 ?_
          refine lv_iload_n hE.1 hE.2.1 dX5_holds_25 rfl (lv_at hl 2 rfl) ?_
          refine lv_isub hE.1 hE.2.1 dX5_holds_26 ?_
          refine x_top (y := iI (z4 - z_2)) ((iI_sub (z4) (z_2)).trans (congrArg iI (by omega))) ?_
          refine s_icmp_gt (a := z_1) (b := z4 - z_2) (tgt := 34) hE.1 hE.2.1 (by omega) (by omega) dX5_holds_27 (by decide) (fun c6 => ?_) (fun c6 => ?_)
          · skip
            refine lv_iconst (v := iI (0)) hE.1 hE.2.1 dX5_holds_34 (by decide) ?_
            exact kr _ _ _ (nar01 (by omega)) ⟨0, by omega, rfl⟩ dX5_holds_35
          · skip
            refine lv_iconst (v := iI (1)) hE.1 hE.2.1 dX5_holds_30 (by decide) ?_
            refine lv_goto (tgt := 35) hE.1 hE.2.1 dX5_holds_31 (by decide) ?_
            exact kr _ _ _ (nar01 (by omega)) ⟨1, by omega, rfl⟩ dX5_holds_35

set_option maxHeartbeats 4000000 in
set_option maxRecDepth 100000 in
theorem s_X5_holds_69 (l : Launch) (D : va_G) (K : Nat → ClassId) (ad : Nat → Nat) (mm : Option Nat) (N : Nat) (hNN : 132 ≤ N) (v ar : sI) (al : sL) (hI : XI v) (z_1 : Int) (hz_1 : -2147483648 ≤ z_1 ∧ z_1 ≤ 2147483647) (z_2 : Int) (hz_2 : -2147483648 ≤ z_2 ∧ z_2 ≤ 2147483647) : Met l yX5_holds (wM yX5_holds cX5_holds 3 (some .boolean)) (rmD 0) (va_Pc [.ref (ad 69), .int (iI (z_1)), .int (iI (z_2))] (wPre D K ad (xG ad K mm) N v ar al)) (vp_Si (fun r => ∃ z : Int, (z = 0 ∨ (z = 1 ∧ 0 ≤ z_1 ∧ 0 ≤ z_2 ∧ (z_2 = 0 ∨ z_1 + z_2 ≤ 60))) ∧ r = iI z)) 0 0 (fun _ => False) := by
  refine s_metP (by decide) (Nat.le_of_ble_eq_true rfl) ?_
  intro p e s m below meth c ls args Q hE hB hl kr
  have hE : CallFix p m c cX5_holds 3 s args tbG "TaleCourt$Row" := hE
  obtain ⟨hP, hK, hN⟩ := hB
  have hl : lv_has ls 3 [(0, .ref (ad 69)), (1, .int (iI (z_1))), (2, .int (iI (z_2)))] := hl
  refine lv_iload_n hE.1 hE.2.1 dX5_holds_0 rfl (lv_at hl 1 rfl) ?_
  refine s_if_lt (a := z_1) (tgt := 34) hE.1 hE.2.1 (by omega) dX5_holds_1 (by decide) (fun c1 => ?_) (fun c1 => ?_)
  · skip
    refine lv_iconst (v := iI (0)) hE.1 hE.2.1 dX5_holds_34 (by decide) ?_
    exact kr _ _ _ (nar01 (by omega)) ⟨0, by omega, rfl⟩ dX5_holds_35
  · skip
    refine lv_iload_n hE.1 hE.2.1 dX5_holds_4 rfl (lv_at hl 2 rfl) ?_
    refine s_if_lt (a := z_2) (tgt := 34) hE.1 hE.2.1 (by omega) dX5_holds_5 (by decide) (fun c2 => ?_) (fun c2 => ?_)
    · skip
      refine lv_iconst (v := iI (0)) hE.1 hE.2.1 dX5_holds_34 (by decide) ?_
      exact kr _ _ _ (nar01 (by omega)) ⟨0, by omega, rfl⟩ dX5_holds_35
    · skip
      refine lv_iload_n hE.1 hE.2.1 dX5_holds_8 rfl (lv_at hl 2 rfl) ?_
      refine s_if_eq (a := z_2) (tgt := 30) hE.1 hE.2.1 (by omega) dX5_holds_9 (by decide) (fun c3 => ?_) (fun c3 => ?_)
      · skip
        refine lv_iconst (v := iI (1)) hE.1 hE.2.1 dX5_holds_30 (by decide) ?_
        refine lv_goto (tgt := 35) hE.1 hE.2.1 dX5_holds_31 (by decide) ?_
        exact kr _ _ _ (nar01 (by omega)) ⟨1, by omega, rfl⟩ dX5_holds_35
      · skip
        refine lv_iload_n hE.1 hE.2.1 dX5_holds_12 rfl (lv_at hl 2 rfl) ?_
        refine lv_aload_n hE.1 hE.2.1 dX5_holds_13 rfl (lv_at hl 0 rfl) ?_
        obtain ⟨z4, hz4, ez4⟩ := XI_get hI 69 2 (-1) 60 (by decide)
        refine x_get (x := .int (v 69 2)) hE hK hP 69 (Nat.lt_of_lt_of_le (by decide) hNN) (xG_5 rfl) rfl hin5 2 (by decide) mw_449 rfl dX5_holds_14 ?_
        refine x_top (y := iI (z4)) ez4 ?_
        refine s_icmp_gt (a := z_2) (b := z4) (tgt := 34) hE.1 hE.2.1 (by omega) (by omega) dX5_holds_17 (by decide) (fun c5 => ?_) (fun c5 => ?_)
        · skip
          refine lv_iconst (v := iI (0)) hE.1 hE.2.1 dX5_holds_34 (by decide) ?_
          exact kr _ _ _ (nar01 (by omega)) ⟨0, by omega, rfl⟩ dX5_holds_35
        · skip
          refine lv_iload_n hE.1 hE.2.1 dX5_holds_20 rfl (lv_at hl 1 rfl) ?_
          refine lv_aload_n hE.1 hE.2.1 dX5_holds_21 rfl (lv_at hl 0 rfl) ?_
          refine x_get (x := .int (v 69 2)) hE hK hP 69 (Nat.lt_of_lt_of_le (by decide) hNN) (xG_5 rfl) rfl hin5 2 (by decide) mw_449 rfl dX5_holds_22 ?_
          refine x_top (y := iI (z4)) ez4 ?_
          refine lv_iload_n hE.1 hE.2.1 dX5_holds_25 rfl (lv_at hl 2 rfl) ?_
          refine lv_isub hE.1 hE.2.1 dX5_holds_26 ?_
          refine x_top (y := iI (z4 - z_2)) ((iI_sub (z4) (z_2)).trans (congrArg iI (by omega))) ?_
          refine s_icmp_gt (a := z_1) (b := z4 - z_2) (tgt := 34) hE.1 hE.2.1 (by omega) (by omega) dX5_holds_27 (by decide) (fun c6 => ?_) (fun c6 => ?_)
          · skip
            refine lv_iconst (v := iI (0)) hE.1 hE.2.1 dX5_holds_34 (by decide) ?_
            exact kr _ _ _ (nar01 (by omega)) ⟨0, by omega, rfl⟩ dX5_holds_35
          · skip
            refine lv_iconst (v := iI (1)) hE.1 hE.2.1 dX5_holds_30 (by decide) ?_
            refine lv_goto (tgt := 35) hE.1 hE.2.1 dX5_holds_31 (by decide) ?_
            exact kr _ _ _ (nar01 (by omega)) ⟨1, by omega, rfl⟩ dX5_holds_35

set_option maxHeartbeats 4000000 in
set_option maxRecDepth 100000 in
theorem s_X5_holds_71 (l : Launch) (D : va_G) (K : Nat → ClassId) (ad : Nat → Nat) (mm : Option Nat) (N : Nat) (hNN : 132 ≤ N) (v ar : sI) (al : sL) (hI : XI v) (z_1 : Int) (hz_1 : -2147483648 ≤ z_1 ∧ z_1 ≤ 2147483647) (z_2 : Int) (hz_2 : -2147483648 ≤ z_2 ∧ z_2 ≤ 2147483647) : Met l yX5_holds (wM yX5_holds cX5_holds 3 (some .boolean)) (rmD 0) (va_Pc [.ref (ad 71), .int (iI (z_1)), .int (iI (z_2))] (wPre D K ad (xG ad K mm) N v ar al)) (vp_Si (fun r => ∃ z : Int, (z = 0 ∨ (z = 1 ∧ 0 ≤ z_1 ∧ 0 ≤ z_2 ∧ (z_2 = 0 ∨ z_1 + z_2 ≤ 60))) ∧ r = iI z)) 0 0 (fun _ => False) := by
  refine s_metP (by decide) (Nat.le_of_ble_eq_true rfl) ?_
  intro p e s m below meth c ls args Q hE hB hl kr
  have hE : CallFix p m c cX5_holds 3 s args tbG "TaleCourt$Row" := hE
  obtain ⟨hP, hK, hN⟩ := hB
  have hl : lv_has ls 3 [(0, .ref (ad 71)), (1, .int (iI (z_1))), (2, .int (iI (z_2)))] := hl
  refine lv_iload_n hE.1 hE.2.1 dX5_holds_0 rfl (lv_at hl 1 rfl) ?_
  refine s_if_lt (a := z_1) (tgt := 34) hE.1 hE.2.1 (by omega) dX5_holds_1 (by decide) (fun c1 => ?_) (fun c1 => ?_)
  · skip
    refine lv_iconst (v := iI (0)) hE.1 hE.2.1 dX5_holds_34 (by decide) ?_
    exact kr _ _ _ (nar01 (by omega)) ⟨0, by omega, rfl⟩ dX5_holds_35
  · skip
    refine lv_iload_n hE.1 hE.2.1 dX5_holds_4 rfl (lv_at hl 2 rfl) ?_
    refine s_if_lt (a := z_2) (tgt := 34) hE.1 hE.2.1 (by omega) dX5_holds_5 (by decide) (fun c2 => ?_) (fun c2 => ?_)
    · skip
      refine lv_iconst (v := iI (0)) hE.1 hE.2.1 dX5_holds_34 (by decide) ?_
      exact kr _ _ _ (nar01 (by omega)) ⟨0, by omega, rfl⟩ dX5_holds_35
    · skip
      refine lv_iload_n hE.1 hE.2.1 dX5_holds_8 rfl (lv_at hl 2 rfl) ?_
      refine s_if_eq (a := z_2) (tgt := 30) hE.1 hE.2.1 (by omega) dX5_holds_9 (by decide) (fun c3 => ?_) (fun c3 => ?_)
      · skip
        refine lv_iconst (v := iI (1)) hE.1 hE.2.1 dX5_holds_30 (by decide) ?_
        refine lv_goto (tgt := 35) hE.1 hE.2.1 dX5_holds_31 (by decide) ?_
        exact kr _ _ _ (nar01 (by omega)) ⟨1, by omega, rfl⟩ dX5_holds_35
      · skip
        refine lv_iload_n hE.1 hE.2.1 dX5_holds_12 rfl (lv_at hl 2 rfl) ?_
        refine lv_aload_n hE.1 hE.2.1 dX5_holds_13 rfl (lv_at hl 0 rfl) ?_
        obtain ⟨z4, hz4, ez4⟩ := XI_get hI 71 2 (-1) 60 (by decide)
        refine x_get (x := .int (v 71 2)) hE hK hP 71 (Nat.lt_of_lt_of_le (by decide) hNN) (xG_5 rfl) rfl hin5 2 (by decide) mw_449 rfl dX5_holds_14 ?_
        refine x_top (y := iI (z4)) ez4 ?_
        refine s_icmp_gt (a := z_2) (b := z4) (tgt := 34) hE.1 hE.2.1 (by omega) (by omega) dX5_holds_17 (by decide) (fun c5 => ?_) (fun c5 => ?_)
        · skip
          refine lv_iconst (v := iI (0)) hE.1 hE.2.1 dX5_holds_34 (by decide) ?_
          exact kr _ _ _ (nar01 (by omega)) ⟨0, by omega, rfl⟩ dX5_holds_35
        · skip
          refine lv_iload_n hE.1 hE.2.1 dX5_holds_20 rfl (lv_at hl 1 rfl) ?_
          refine lv_aload_n hE.1 hE.2.1 dX5_holds_21 rfl (lv_at hl 0 rfl) ?_
          refine x_get (x := .int (v 71 2)) hE hK hP 71 (Nat.lt_of_lt_of_le (by decide) hNN) (xG_5 rfl) rfl hin5 2 (by decide) mw_449 rfl dX5_holds_22 ?_
          refine x_top (y := iI (z4)) ez4 ?_
          refine lv_iload_n hE.1 hE.2.1 dX5_holds_25 rfl (lv_at hl 2 rfl) ?_
          refine lv_isub hE.1 hE.2.1 dX5_holds_26 ?_
          refine x_top (y := iI (z4 - z_2)) ((iI_sub (z4) (z_2)).trans (congrArg iI (by omega))) ?_
          refine s_icmp_gt (a := z_1) (b := z4 - z_2) (tgt := 34) hE.1 hE.2.1 (by omega) (by omega) dX5_holds_27 (by decide) (fun c6 => ?_) (fun c6 => ?_)
          · skip
            refine lv_iconst (v := iI (0)) hE.1 hE.2.1 dX5_holds_34 (by decide) ?_
            exact kr _ _ _ (nar01 (by omega)) ⟨0, by omega, rfl⟩ dX5_holds_35
          · skip
            refine lv_iconst (v := iI (1)) hE.1 hE.2.1 dX5_holds_30 (by decide) ?_
            refine lv_goto (tgt := 35) hE.1 hE.2.1 dX5_holds_31 (by decide) ?_
            exact kr _ _ _ (nar01 (by omega)) ⟨1, by omega, rfl⟩ dX5_holds_35

set_option maxHeartbeats 4000000 in
set_option maxRecDepth 100000 in
theorem s_X5_holds_73 (l : Launch) (D : va_G) (K : Nat → ClassId) (ad : Nat → Nat) (mm : Option Nat) (N : Nat) (hNN : 132 ≤ N) (v ar : sI) (al : sL) (hI : XI v) (z_1 : Int) (hz_1 : -2147483648 ≤ z_1 ∧ z_1 ≤ 2147483647) (z_2 : Int) (hz_2 : -2147483648 ≤ z_2 ∧ z_2 ≤ 2147483647) : Met l yX5_holds (wM yX5_holds cX5_holds 3 (some .boolean)) (rmD 0) (va_Pc [.ref (ad 73), .int (iI (z_1)), .int (iI (z_2))] (wPre D K ad (xG ad K mm) N v ar al)) (vp_Si (fun r => ∃ z : Int, (z = 0 ∨ (z = 1 ∧ 0 ≤ z_1 ∧ 0 ≤ z_2 ∧ (z_2 = 0 ∨ z_1 + z_2 ≤ 60))) ∧ r = iI z)) 0 0 (fun _ => False) := by
  refine s_metP (by decide) (Nat.le_of_ble_eq_true rfl) ?_
  intro p e s m below meth c ls args Q hE hB hl kr
  have hE : CallFix p m c cX5_holds 3 s args tbG "TaleCourt$Row" := hE
  obtain ⟨hP, hK, hN⟩ := hB
  have hl : lv_has ls 3 [(0, .ref (ad 73)), (1, .int (iI (z_1))), (2, .int (iI (z_2)))] := hl
  refine lv_iload_n hE.1 hE.2.1 dX5_holds_0 rfl (lv_at hl 1 rfl) ?_
  refine s_if_lt (a := z_1) (tgt := 34) hE.1 hE.2.1 (by omega) dX5_holds_1 (by decide) (fun c1 => ?_) (fun c1 => ?_)
  · skip
    refine lv_iconst (v := iI (0)) hE.1 hE.2.1 dX5_holds_34 (by decide) ?_
    exact kr _ _ _ (nar01 (by omega)) ⟨0, by omega, rfl⟩ dX5_holds_35
  · skip
    refine lv_iload_n hE.1 hE.2.1 dX5_holds_4 rfl (lv_at hl 2 rfl) ?_
    refine s_if_lt (a := z_2) (tgt := 34) hE.1 hE.2.1 (by omega) dX5_holds_5 (by decide) (fun c2 => ?_) (fun c2 => ?_)
    · skip
      refine lv_iconst (v := iI (0)) hE.1 hE.2.1 dX5_holds_34 (by decide) ?_
      exact kr _ _ _ (nar01 (by omega)) ⟨0, by omega, rfl⟩ dX5_holds_35
    · skip
      refine lv_iload_n hE.1 hE.2.1 dX5_holds_8 rfl (lv_at hl 2 rfl) ?_
      refine s_if_eq (a := z_2) (tgt := 30) hE.1 hE.2.1 (by omega) dX5_holds_9 (by decide) (fun c3 => ?_) (fun c3 => ?_)
      · skip
        refine lv_iconst (v := iI (1)) hE.1 hE.2.1 dX5_holds_30 (by decide) ?_
        refine lv_goto (tgt := 35) hE.1 hE.2.1 dX5_holds_31 (by decide) ?_
        exact kr _ _ _ (nar01 (by omega)) ⟨1, by omega, rfl⟩ dX5_holds_35
      · skip
        refine lv_iload_n hE.1 hE.2.1 dX5_holds_12 rfl (lv_at hl 2 rfl) ?_
        refine lv_aload_n hE.1 hE.2.1 dX5_holds_13 rfl (lv_at hl 0 rfl) ?_
        obtain ⟨z4, hz4, ez4⟩ := XI_get hI 73 2 (-1) 60 (by decide)
        refine x_get (x := .int (v 73 2)) hE hK hP 73 (Nat.lt_of_lt_of_le (by decide) hNN) (xG_5 rfl) rfl hin5 2 (by decide) mw_449 rfl dX5_holds_14 ?_
        refine x_top (y := iI (z4)) ez4 ?_
        refine s_icmp_gt (a := z_2) (b := z4) (tgt := 34) hE.1 hE.2.1 (by omega) (by omega) dX5_holds_17 (by decide) (fun c5 => ?_) (fun c5 => ?_)
        · skip
          refine lv_iconst (v := iI (0)) hE.1 hE.2.1 dX5_holds_34 (by decide) ?_
          exact kr _ _ _ (nar01 (by omega)) ⟨0, by omega, rfl⟩ dX5_holds_35
        · skip
          refine lv_iload_n hE.1 hE.2.1 dX5_holds_20 rfl (lv_at hl 1 rfl) ?_
          refine lv_aload_n hE.1 hE.2.1 dX5_holds_21 rfl (lv_at hl 0 rfl) ?_
          refine x_get (x := .int (v 73 2)) hE hK hP 73 (Nat.lt_of_lt_of_le (by decide) hNN) (xG_5 rfl) rfl hin5 2 (by decide) mw_449 rfl dX5_holds_22 ?_
          refine x_top (y := iI (z4)) ez4 ?_
          refine lv_iload_n hE.1 hE.2.1 dX5_holds_25 rfl (lv_at hl 2 rfl) ?_
          refine lv_isub hE.1 hE.2.1 dX5_holds_26 ?_
          refine x_top (y := iI (z4 - z_2)) ((iI_sub (z4) (z_2)).trans (congrArg iI (by omega))) ?_
          refine s_icmp_gt (a := z_1) (b := z4 - z_2) (tgt := 34) hE.1 hE.2.1 (by omega) (by omega) dX5_holds_27 (by decide) (fun c6 => ?_) (fun c6 => ?_)
          · skip
            refine lv_iconst (v := iI (0)) hE.1 hE.2.1 dX5_holds_34 (by decide) ?_
            exact kr _ _ _ (nar01 (by omega)) ⟨0, by omega, rfl⟩ dX5_holds_35
          · skip
            refine lv_iconst (v := iI (1)) hE.1 hE.2.1 dX5_holds_30 (by decide) ?_
            refine lv_goto (tgt := 35) hE.1 hE.2.1 dX5_holds_31 (by decide) ?_
            exact kr _ _ _ (nar01 (by omega)) ⟨1, by omega, rfl⟩ dX5_holds_35

theorem dX8_paste_0 : decode cX8_paste 0 = .ok (.iload_n 1, 1) := by decide +kernel
theorem dX8_paste_1 : decode cX8_paste 1 = .ok (.invokestatic 260, 3) := by decide +kernel
theorem dX8_paste_4 : decode cX8_paste 4 = .ok (.ifCond .eq 10, 3) := by decide +kernel
theorem dX8_paste_7 : decode cX8_paste 7 = .ok (.iload_n 3, 1) := by decide +kernel
theorem dX8_paste_8 : decode cX8_paste 8 = .ok (.invokestatic 260, 3) := by decide +kernel
theorem dX8_paste_11 : decode cX8_paste 11 = .ok (.ifCond .ne 6, 3) := by decide +kernel
theorem dX8_paste_14 : decode cX8_paste 14 = .ok (.bipush (-2), 2) := by decide +kernel
theorem dX8_paste_16 : decode cX8_paste 16 = .ok (.ireturn, 1) := by decide +kernel
theorem dX8_paste_17 : decode cX8_paste 17 = .ok (.aload_n 0, 1) := by decide +kernel
theorem dX8_paste_18 : decode cX8_paste 18 = .ok (.getfield 63, 3) := by decide +kernel
theorem dX8_paste_21 : decode cX8_paste 21 = .ok (.iload_n 1, 1) := by decide +kernel
theorem dX8_paste_22 : decode cX8_paste 22 = .ok (.aaload, 1) := by decide +kernel
theorem dX8_paste_23 : decode cX8_paste 23 = .ok (.astore 6, 2) := by decide +kernel
theorem dX8_paste_25 : decode cX8_paste 25 = .ok (.aload_n 0, 1) := by decide +kernel
theorem dX8_paste_26 : decode cX8_paste 26 = .ok (.getfield 63, 3) := by decide +kernel
theorem dX8_paste_29 : decode cX8_paste 29 = .ok (.iload_n 3, 1) := by decide +kernel
theorem dX8_paste_30 : decode cX8_paste 30 = .ok (.aaload, 1) := by decide +kernel
theorem dX8_paste_31 : decode cX8_paste 31 = .ok (.astore 7, 2) := by decide +kernel
theorem dX8_paste_33 : decode cX8_paste 33 = .ok (.aload 6, 2) := by decide +kernel
theorem dX8_paste_35 : decode cX8_paste 35 = .ok (.getfield 263, 3) := by decide +kernel
theorem dX8_paste_38 : decode cX8_paste 38 = .ok (.ifCond .lt 11, 3) := by decide +kernel
theorem dX8_paste_41 : decode cX8_paste 41 = .ok (.aload 7, 2) := by decide +kernel
theorem dX8_paste_43 : decode cX8_paste 43 = .ok (.getfield 263, 3) := by decide +kernel
theorem dX8_paste_46 : decode cX8_paste 46 = .ok (.ifCond .ge 6, 3) := by decide +kernel
theorem dX8_paste_49 : decode cX8_paste 49 = .ok (.bipush (-6), 2) := by decide +kernel
theorem dX8_paste_51 : decode cX8_paste 51 = .ok (.ireturn, 1) := by decide +kernel
theorem dX8_paste_52 : decode cX8_paste 52 = .ok (.aload 6, 2) := by decide +kernel
theorem dX8_paste_54 : decode cX8_paste 54 = .ok (.getfield 373, 3) := by decide +kernel
theorem dX8_paste_57 : decode cX8_paste 57 = .ok (.aload 7, 2) := by decide +kernel
theorem dX8_paste_59 : decode cX8_paste 59 = .ok (.getfield 373, 3) := by decide +kernel
theorem dX8_paste_62 : decode cX8_paste 62 = .ok (.if_icmp .eq 6, 3) := by decide +kernel
theorem dX8_paste_65 : decode cX8_paste 65 = .ok (.bipush (-8), 2) := by decide +kernel
theorem dX8_paste_67 : decode cX8_paste 67 = .ok (.ireturn, 1) := by decide +kernel
theorem dX8_paste_68 : decode cX8_paste 68 = .ok (.aload 6, 2) := by decide +kernel
theorem dX8_paste_70 : decode cX8_paste 70 = .ok (.iload_n 2, 1) := by decide +kernel
theorem dX8_paste_71 : decode cX8_paste 71 = .ok (.iload 5, 2) := by decide +kernel
theorem dX8_paste_73 : decode cX8_paste 73 = .ok (.invokevirtual 376, 3) := by decide +kernel
theorem dX8_paste_76 : decode cX8_paste 76 = .ok (.ifCond .eq 15, 3) := by decide +kernel
theorem dX8_paste_79 : decode cX8_paste 79 = .ok (.aload 7, 2) := by decide +kernel
theorem dX8_paste_81 : decode cX8_paste 81 = .ok (.iload 4, 2) := by decide +kernel
theorem dX8_paste_83 : decode cX8_paste 83 = .ok (.iload 5, 2) := by decide +kernel
theorem dX8_paste_85 : decode cX8_paste 85 = .ok (.invokevirtual 376, 3) := by decide +kernel
theorem dX8_paste_88 : decode cX8_paste 88 = .ok (.ifCond .ne 6, 3) := by decide +kernel
theorem dX8_paste_91 : decode cX8_paste 91 = .ok (.bipush (-7), 2) := by decide +kernel
theorem dX8_paste_93 : decode cX8_paste 93 = .ok (.ireturn, 1) := by decide +kernel
theorem dX8_paste_94 : decode cX8_paste 94 = .ok (.iload 5, 2) := by decide +kernel
theorem dX8_paste_96 : decode cX8_paste 96 = .ok (.ifCond .le 21, 3) := by decide +kernel
theorem dX8_paste_99 : decode cX8_paste 99 = .ok (.aload 6, 2) := by decide +kernel
theorem dX8_paste_101 : decode cX8_paste 101 = .ok (.getfield 271, 3) := by decide +kernel
theorem dX8_paste_104 : decode cX8_paste 104 = .ok (.iload_n 2, 1) := by decide +kernel
theorem dX8_paste_105 : decode cX8_paste 105 = .ok (.aload 7, 2) := by decide +kernel
theorem dX8_paste_107 : decode cX8_paste 107 = .ok (.getfield 271, 3) := by decide +kernel
theorem dX8_paste_110 : decode cX8_paste 110 = .ok (.iload 4, 2) := by decide +kernel
theorem dX8_paste_112 : decode cX8_paste 112 = .ok (.iload 5, 2) := by decide +kernel
theorem dX8_paste_114 : decode cX8_paste 114 = .ok (.invokestatic 379, 3) := by decide +kernel
theorem dX8_paste_117 : decode cX8_paste 117 = .ok (.iconst 0, 1) := by decide +kernel
theorem dX8_paste_118 : decode cX8_paste 118 = .ok (.ireturn, 1) := by decide +kernel
set_option maxHeartbeats 4000000 in
set_option maxRecDepth 100000 in
theorem s_X8_paste_0 (l : Launch) (D : va_G) (K : Nat → ClassId) (ad : Nat → Nat) (mm : Option Nat) (N : Nat) (hNN : 132 ≤ N) (v ar : sI) (al : sL) (hI : XI v) (z_1 : Int) (hz_1 : -2147483648 ≤ z_1 ∧ z_1 ≤ 2147483647) (z_2 : Int) (hz_2 : -2147483648 ≤ z_2 ∧ z_2 ≤ 2147483647) (z_3 : Int) (hz_3 : -2147483648 ≤ z_3 ∧ z_3 ≤ 2147483647) (z_4 : Int) (hz_4 : -2147483648 ≤ z_4 ∧ z_4 ≤ 2147483647) (z_5 : Int) (hz_5 : -2147483648 ≤ z_5 ∧ z_5 ≤ 2147483647) : Met l yX8_paste (wM yX8_paste cX8_paste 8 (some .int)) (rmD 1) (va_Pc [.ref (ad 0), .int (iI (z_1)), .int (iI (z_2)), .int (iI (z_3)), .int (iI (z_4)), .int (iI (z_5))] (wPre D K ad (xG ad K mm) N v ar al)) (va_Qi (fun (r : Int32) (u : sT) => (∃ z : Int, (-2147483648 ≤ z ∧ z ≤ 2147483647) ∧ r = iI z) ∧ XI u.1 ∧ (∀ i j : Nat, (i, j) ∉ ([] : List (Nat × Nat)) → u.1 i j = v i j)) (wB D ad (xG ad K mm) N) (inW ad N)) 0 0 (inW ad N) := by
  refine s_metI (by decide) (Nat.le_of_ble_eq_true rfl) ?_
  intro p e s m below meth c ls args Q hE hB hl kr
  have hE : CallFix p m c cX8_paste 8 s args tbG "TaleCourt" := hE
  obtain ⟨hP, hK, hN⟩ := hB
  have hS : va_S (inW ad N) s.heap s.heap [] := va_S.rf
  have hl : lv_has ls 8 [(0, .ref (ad 0)), (1, .int (iI (z_1))), (2, .int (iI (z_2))), (3, .int (iI (z_3))), (4, .int (iI (z_4))), (5, .int (iI (z_5)))] := hl
  refine lv_iload_n hE.1 hE.2.1 dX8_paste_0 rfl (lv_at hl 1 rfl) ?_
  refine x_sp (nn := 1) (As := [.int (iI (z_1))]) (rest := []) hE (s_X8_isSlot l (z_1) (by omega)) tt_blind (fun _ _ _ => trivial) rfl mw_1134 mw_1135 mw_114 mw_1136 (by decide +kernel) ⟨by decide, by decide⟩ hl.1 rfl (Nat.le_of_ble_eq_true rfl) ⟨Nat.zero_le _, Nat.zero_le _⟩ dX8_paste_1 (fun r1 hr1 => ?_)
  obtain ⟨z1, hz1, rfl⟩ := hr1
  refine s_if_eq (a := z1) (tgt := 14) hE.1 hE.2.1 (by omega) dX8_paste_4 (by decide) (fun c2 => ?_) (fun c2 => ?_)
  · skip
    refine lv_bipush (v := iI (-2)) hE.1 hE.2.1 dX8_paste_14 (by decide) ?_
    exact kr _ _ _ _ _ _ _ _ rfl ⟨⟨-2, by omega, rfl⟩, hI, fun i j h => rfl⟩ hP hS dX8_paste_16
  · skip
    refine lv_iload_n hE.1 hE.2.1 dX8_paste_7 rfl (lv_at hl 3 rfl) ?_
    refine x_sp (nn := 1) (As := [.int (iI (z_3))]) (rest := []) hE (s_X8_isSlot l (z_3) (by omega)) tt_blind (fun _ _ _ => trivial) rfl mw_1134 mw_1135 mw_114 mw_1136 (by decide +kernel) ⟨by decide, by decide⟩ hl.1 rfl (Nat.le_of_ble_eq_true rfl) ⟨Nat.zero_le _, Nat.zero_le _⟩ dX8_paste_8 (fun r3 hr3 => ?_)
    obtain ⟨z3, hz3, rfl⟩ := hr3
    refine s_if_ne (a := z3) (tgt := 17) hE.1 hE.2.1 (by omega) dX8_paste_11 (by decide) (fun c4 => ?_) (fun c4 => ?_)
    · skip
      refine lv_aload_n hE.1 hE.2.1 dX8_paste_17 rfl (lv_at hl 0 rfl) ?_
      refine x_get (x := .ref (ad 65)) hE hK hP 0 (Nat.lt_of_lt_of_le (by decide) hNN) (xG_8 rfl) rfl hin8 8 (by decide) mw_488 rfl dX8_paste_18 ?_
      refine lv_iload_n hE.1 hE.2.1 dX8_paste_21 rfl (lv_at hl 1 rfl) ?_
      rcases (show z_1 = 0 ∨ z_1 = 1 ∨ z_1 = 2 ∨ z_1 = 3 by omega) with rfl | rfl | rfl | rfl
      · skip
        refine x_aald (r := .ref (ad 67)) hE hK hP 65 4 (Nat.lt_of_lt_of_le (by decide) hNN) (xG_13 rfl) rfl (by unfold vp_in; decide) rfl dX8_paste_22 ?_
        refine lv_astore (lv' := [(6, .ref (ad 67)), (0, .ref (ad 0)), (1, .int (iI (0))), (2, .int (iI (z_2))), (3, .int (iI (z_3))), (4, .int (iI (z_4))), (5, .int (iI (z_5)))]) hE.1 hE.2.1 dX8_paste_23 hl (by decide) rfl (fun ls hl => ?_)
        refine lv_aload_n hE.1 hE.2.1 dX8_paste_25 rfl (lv_at hl 1 rfl) ?_
        refine x_get (x := .ref (ad 65)) hE hK hP 0 (Nat.lt_of_lt_of_le (by decide) hNN) (xG_8 rfl) rfl hin8 8 (by decide) mw_488 rfl dX8_paste_26 ?_
        refine lv_iload_n hE.1 hE.2.1 dX8_paste_29 rfl (lv_at hl 4 rfl) ?_
        rcases (show z_3 = 0 ∨ z_3 = 1 ∨ z_3 = 2 ∨ z_3 = 3 by omega) with rfl | rfl | rfl | rfl
        · skip
          refine x_aald (r := .ref (ad 67)) hE hK hP 65 4 (Nat.lt_of_lt_of_le (by decide) hNN) (xG_13 rfl) rfl (by unfold vp_in; decide) rfl dX8_paste_30 ?_
          refine lv_astore (lv' := [(7, .ref (ad 67)), (6, .ref (ad 67)), (0, .ref (ad 0)), (1, .int (iI (0))), (2, .int (iI (z_2))), (3, .int (iI (0))), (4, .int (iI (z_4))), (5, .int (iI (z_5)))]) hE.1 hE.2.1 dX8_paste_31 hl (by decide) rfl (fun ls hl => ?_)
          refine lv_aload hE.1 hE.2.1 dX8_paste_33 (lv_at hl 1 rfl) ?_
          obtain ⟨z5, hz5, ez5⟩ := XI_get hI 67 2 (-1) 60 (by decide)
          refine x_get (x := .int (v 67 2)) hE hK hP 67 (Nat.lt_of_lt_of_le (by decide) hNN) (xG_5 rfl) rfl hin5 2 (by decide) mw_451 rfl dX8_paste_35 ?_
          refine x_top (y := iI (z5)) ez5 ?_
          refine s_if_lt (a := z5) (tgt := 49) hE.1 hE.2.1 (by omega) dX8_paste_38 (by decide) (fun c6 => ?_) (fun c6 => ?_)
          · skip
            refine lv_bipush (v := iI (-6)) hE.1 hE.2.1 dX8_paste_49 (by decide) ?_
            exact kr _ _ _ _ _ _ _ _ rfl ⟨⟨-6, by omega, rfl⟩, hI, fun i j h => rfl⟩ hP hS dX8_paste_51
          · skip
            refine lv_aload hE.1 hE.2.1 dX8_paste_41 (lv_at hl 0 rfl) ?_
            refine x_get (x := .int (v 67 2)) hE hK hP 67 (Nat.lt_of_lt_of_le (by decide) hNN) (xG_5 rfl) rfl hin5 2 (by decide) mw_451 rfl dX8_paste_43 ?_
            refine x_top (y := iI (z5)) ez5 ?_
            refine s_if_ge (a := z5) (tgt := 52) hE.1 hE.2.1 (by omega) dX8_paste_46 (by decide) (fun _ => ?_) (fun c7 => False.elim (by omega))
            refine lv_aload hE.1 hE.2.1 dX8_paste_52 (lv_at hl 1 rfl) ?_
            obtain ⟨z8, hz8, ez8⟩ := iI_of (v 67 1)
            refine x_get (x := .int (v 67 1)) hE hK hP 67 (Nat.lt_of_lt_of_le (by decide) hNN) (xG_5 rfl) rfl hin5 1 (by decide) mw_448 rfl dX8_paste_54 ?_
            refine x_top (y := iI (z8)) ez8 ?_
            refine lv_aload hE.1 hE.2.1 dX8_paste_57 (lv_at hl 0 rfl) ?_
            refine x_get (x := .int (v 67 1)) hE hK hP 67 (Nat.lt_of_lt_of_le (by decide) hNN) (xG_5 rfl) rfl hin5 1 (by decide) mw_448 rfl dX8_paste_59 ?_
            refine x_top (y := iI (z8)) ez8 ?_
            refine s_icmp_eq (a := z8) (b := z8) (tgt := 68) hE.1 hE.2.1 (by omega) (by omega) dX8_paste_62 (by decide) (fun _ => ?_) (fun c9 => False.elim (by omega))
            refine lv_aload hE.1 hE.2.1 dX8_paste_68 (lv_at hl 1 rfl) ?_
            refine lv_iload_n hE.1 hE.2.1 dX8_paste_70 rfl (lv_at hl 4 rfl) ?_
            refine lv_iload hE.1 hE.2.1 dX8_paste_71 (lv_at hl 7 rfl) ?_
            refine x_vp (nn := 2) (As := [.int (iI (z_2)), .int (iI (z_5))]) (rest := []) hE (s_X5_holds_67 l D K ad mm N hNN v ar al hI  (z_2) (by omega) (z_5) (by omega)) wPre_blind (wPre_now hK hN hP) (x_recv hK hP 67 (Nat.lt_of_lt_of_le (by decide) hNN) (xG_5 rfl) rfl) rfl mw_1322 mw_1323 mw_1324 mw_121 mw_1325 (by decide +kernel) ⟨by decide, by decide⟩ hl.1 rfl (Nat.le_of_ble_eq_true rfl) ⟨Nat.zero_le _, Nat.zero_le _⟩ dX8_paste_73 (fun r10 hr10 => ?_)
            obtain ⟨z10, hz10, rfl⟩ := hr10
            refine s_if_eq (a := z10) (tgt := 91) hE.1 hE.2.1 (by omega) dX8_paste_76 (by decide) (fun c11 => ?_) (fun c11 => ?_)
            · skip
              refine lv_bipush (v := iI (-7)) hE.1 hE.2.1 dX8_paste_91 (by decide) ?_
              exact kr _ _ _ _ _ _ _ _ rfl ⟨⟨-7, by omega, rfl⟩, hI, fun i j h => rfl⟩ hP hS dX8_paste_93
            · skip
              refine lv_aload hE.1 hE.2.1 dX8_paste_79 (lv_at hl 0 rfl) ?_
              refine lv_iload hE.1 hE.2.1 dX8_paste_81 (lv_at hl 6 rfl) ?_
              refine lv_iload hE.1 hE.2.1 dX8_paste_83 (lv_at hl 7 rfl) ?_
              refine x_vp (nn := 2) (As := [.int (iI (z_4)), .int (iI (z_5))]) (rest := []) hE (s_X5_holds_67 l D K ad mm N hNN v ar al hI  (z_4) (by omega) (z_5) (by omega)) wPre_blind (wPre_now hK hN hP) (x_recv hK hP 67 (Nat.lt_of_lt_of_le (by decide) hNN) (xG_5 rfl) rfl) rfl mw_1322 mw_1323 mw_1324 mw_121 mw_1325 (by decide +kernel) ⟨by decide, by decide⟩ hl.1 rfl (Nat.le_of_ble_eq_true rfl) ⟨Nat.zero_le _, Nat.zero_le _⟩ dX8_paste_85 (fun r12 hr12 => ?_)
              obtain ⟨z12, hz12, rfl⟩ := hr12
              refine s_if_ne (a := z12) (tgt := 94) hE.1 hE.2.1 (by omega) dX8_paste_88 (by decide) (fun c13 => ?_) (fun c13 => ?_)
              · skip
                refine lv_iload hE.1 hE.2.1 dX8_paste_94 (lv_at hl 7 rfl) ?_
                refine s_if_le (a := z_5) (tgt := 117) hE.1 hE.2.1 (by omega) dX8_paste_96 (by decide) (fun c14 => ?_) (fun c14 => ?_)
                · skip
                  refine lv_iconst (v := iI (0)) hE.1 hE.2.1 dX8_paste_117 (by decide) ?_
                  exact kr _ _ _ _ _ _ _ _ rfl ⟨⟨0, by omega, rfl⟩, hI, fun i j h => rfl⟩ hP hS dX8_paste_118
                · skip
                  refine lv_aload hE.1 hE.2.1 dX8_paste_99 (lv_at hl 1 rfl) ?_
                  refine x_get (x := .ref (ad 68)) hE hK hP 67 (Nat.lt_of_lt_of_le (by decide) hNN) (xG_5 rfl) rfl hin5 0 (by decide) mw_446 rfl dX8_paste_101 ?_
                  refine lv_iload_n hE.1 hE.2.1 dX8_paste_104 rfl (lv_at hl 4 rfl) ?_
                  refine lv_aload hE.1 hE.2.1 dX8_paste_105 (lv_at hl 0 rfl) ?_
                  refine x_get (x := .ref (ad 68)) hE hK hP 67 (Nat.lt_of_lt_of_le (by decide) hNN) (xG_5 rfl) rfl hin5 0 (by decide) mw_446 rfl dX8_paste_107 ?_
                  refine lv_iload hE.1 hE.2.1 dX8_paste_110 (lv_at hl 6 rfl) ?_
                  refine lv_iload hE.1 hE.2.1 dX8_paste_112 (lv_at hl 7 rfl) ?_
                  refine x_copyl (rest := []) (sp := iI (z_2)) (dp := iI (z_4)) (n := iI (z_5)) (n0 := 60) (n1 := 60) hE hl.1 hK hN hP hS mw_1326 mw_680 mw_679 mw_130 68 68 (Nat.lt_of_lt_of_le (by decide) hNN) (Nat.lt_of_lt_of_le (by decide) hNN) (xG_11 rfl) (fun _ => xG_11 rfl) (iI_nn (by omega)) (iI_nn (by omega)) (iI_nn (by omega)) (iI_cc (by omega)) (iI_cc (by omega)) (by decide) (by decide) dX8_paste_114 (fun al15 H locs ha15 hP hS => ?_)
                  refine lv_iconst (v := iI (0)) hE.1 hE.2.1 dX8_paste_117 (by decide) ?_
                  exact kr _ _ _ _ _ _ _ _ rfl ⟨⟨0, by omega, rfl⟩, hI, fun i j h => rfl⟩ hP hS dX8_paste_118
              · skip
                refine lv_bipush (v := iI (-7)) hE.1 hE.2.1 dX8_paste_91 (by decide) ?_
                exact kr _ _ _ _ _ _ _ _ rfl ⟨⟨-7, by omega, rfl⟩, hI, fun i j h => rfl⟩ hP hS dX8_paste_93
        · skip
          refine x_aald (r := .ref (ad 69)) hE hK hP 65 4 (Nat.lt_of_lt_of_le (by decide) hNN) (xG_13 rfl) rfl (by unfold vp_in; decide) rfl dX8_paste_30 ?_
          refine lv_astore (lv' := [(7, .ref (ad 69)), (6, .ref (ad 67)), (0, .ref (ad 0)), (1, .int (iI (0))), (2, .int (iI (z_2))), (3, .int (iI (1))), (4, .int (iI (z_4))), (5, .int (iI (z_5)))]) hE.1 hE.2.1 dX8_paste_31 hl (by decide) rfl (fun ls hl => ?_)
          refine lv_aload hE.1 hE.2.1 dX8_paste_33 (lv_at hl 1 rfl) ?_
          obtain ⟨z16, hz16, ez16⟩ := XI_get hI 67 2 (-1) 60 (by decide)
          refine x_get (x := .int (v 67 2)) hE hK hP 67 (Nat.lt_of_lt_of_le (by decide) hNN) (xG_5 rfl) rfl hin5 2 (by decide) mw_451 rfl dX8_paste_35 ?_
          refine x_top (y := iI (z16)) ez16 ?_
          refine s_if_lt (a := z16) (tgt := 49) hE.1 hE.2.1 (by omega) dX8_paste_38 (by decide) (fun c17 => ?_) (fun c17 => ?_)
          · skip
            refine lv_bipush (v := iI (-6)) hE.1 hE.2.1 dX8_paste_49 (by decide) ?_
            exact kr _ _ _ _ _ _ _ _ rfl ⟨⟨-6, by omega, rfl⟩, hI, fun i j h => rfl⟩ hP hS dX8_paste_51
          · skip
            refine lv_aload hE.1 hE.2.1 dX8_paste_41 (lv_at hl 0 rfl) ?_
            obtain ⟨z18, hz18, ez18⟩ := XI_get hI 69 2 (-1) 60 (by decide)
            refine x_get (x := .int (v 69 2)) hE hK hP 69 (Nat.lt_of_lt_of_le (by decide) hNN) (xG_5 rfl) rfl hin5 2 (by decide) mw_451 rfl dX8_paste_43 ?_
            refine x_top (y := iI (z18)) ez18 ?_
            refine s_if_ge (a := z18) (tgt := 52) hE.1 hE.2.1 (by omega) dX8_paste_46 (by decide) (fun c19 => ?_) (fun c19 => ?_)
            · skip
              refine lv_aload hE.1 hE.2.1 dX8_paste_52 (lv_at hl 1 rfl) ?_
              obtain ⟨z20, hz20, ez20⟩ := iI_of (v 67 1)
              refine x_get (x := .int (v 67 1)) hE hK hP 67 (Nat.lt_of_lt_of_le (by decide) hNN) (xG_5 rfl) rfl hin5 1 (by decide) mw_448 rfl dX8_paste_54 ?_
              refine x_top (y := iI (z20)) ez20 ?_
              refine lv_aload hE.1 hE.2.1 dX8_paste_57 (lv_at hl 0 rfl) ?_
              obtain ⟨z21, hz21, ez21⟩ := iI_of (v 69 1)
              refine x_get (x := .int (v 69 1)) hE hK hP 69 (Nat.lt_of_lt_of_le (by decide) hNN) (xG_5 rfl) rfl hin5 1 (by decide) mw_448 rfl dX8_paste_59 ?_
              refine x_top (y := iI (z21)) ez21 ?_
              refine s_icmp_eq (a := z20) (b := z21) (tgt := 68) hE.1 hE.2.1 (by omega) (by omega) dX8_paste_62 (by decide) (fun c22 => ?_) (fun c22 => ?_)
              · skip
                refine lv_aload hE.1 hE.2.1 dX8_paste_68 (lv_at hl 1 rfl) ?_
                refine lv_iload_n hE.1 hE.2.1 dX8_paste_70 rfl (lv_at hl 4 rfl) ?_
                refine lv_iload hE.1 hE.2.1 dX8_paste_71 (lv_at hl 7 rfl) ?_
                refine x_vp (nn := 2) (As := [.int (iI (z_2)), .int (iI (z_5))]) (rest := []) hE (s_X5_holds_67 l D K ad mm N hNN v ar al hI  (z_2) (by omega) (z_5) (by omega)) wPre_blind (wPre_now hK hN hP) (x_recv hK hP 67 (Nat.lt_of_lt_of_le (by decide) hNN) (xG_5 rfl) rfl) rfl mw_1322 mw_1323 mw_1324 mw_121 mw_1325 (by decide +kernel) ⟨by decide, by decide⟩ hl.1 rfl (Nat.le_of_ble_eq_true rfl) ⟨Nat.zero_le _, Nat.zero_le _⟩ dX8_paste_73 (fun r23 hr23 => ?_)
                obtain ⟨z23, hz23, rfl⟩ := hr23
                refine s_if_eq (a := z23) (tgt := 91) hE.1 hE.2.1 (by omega) dX8_paste_76 (by decide) (fun c24 => ?_) (fun c24 => ?_)
                · skip
                  refine lv_bipush (v := iI (-7)) hE.1 hE.2.1 dX8_paste_91 (by decide) ?_
                  exact kr _ _ _ _ _ _ _ _ rfl ⟨⟨-7, by omega, rfl⟩, hI, fun i j h => rfl⟩ hP hS dX8_paste_93
                · skip
                  refine lv_aload hE.1 hE.2.1 dX8_paste_79 (lv_at hl 0 rfl) ?_
                  refine lv_iload hE.1 hE.2.1 dX8_paste_81 (lv_at hl 6 rfl) ?_
                  refine lv_iload hE.1 hE.2.1 dX8_paste_83 (lv_at hl 7 rfl) ?_
                  refine x_vp (nn := 2) (As := [.int (iI (z_4)), .int (iI (z_5))]) (rest := []) hE (s_X5_holds_69 l D K ad mm N hNN v ar al hI  (z_4) (by omega) (z_5) (by omega)) wPre_blind (wPre_now hK hN hP) (x_recv hK hP 69 (Nat.lt_of_lt_of_le (by decide) hNN) (xG_5 rfl) rfl) rfl mw_1322 mw_1323 mw_1324 mw_121 mw_1325 (by decide +kernel) ⟨by decide, by decide⟩ hl.1 rfl (Nat.le_of_ble_eq_true rfl) ⟨Nat.zero_le _, Nat.zero_le _⟩ dX8_paste_85 (fun r25 hr25 => ?_)
                  obtain ⟨z25, hz25, rfl⟩ := hr25
                  refine s_if_ne (a := z25) (tgt := 94) hE.1 hE.2.1 (by omega) dX8_paste_88 (by decide) (fun c26 => ?_) (fun c26 => ?_)
                  · skip
                    refine lv_iload hE.1 hE.2.1 dX8_paste_94 (lv_at hl 7 rfl) ?_
                    refine s_if_le (a := z_5) (tgt := 117) hE.1 hE.2.1 (by omega) dX8_paste_96 (by decide) (fun c27 => ?_) (fun c27 => ?_)
                    · skip
                      refine lv_iconst (v := iI (0)) hE.1 hE.2.1 dX8_paste_117 (by decide) ?_
                      exact kr _ _ _ _ _ _ _ _ rfl ⟨⟨0, by omega, rfl⟩, hI, fun i j h => rfl⟩ hP hS dX8_paste_118
                    · skip
                      refine lv_aload hE.1 hE.2.1 dX8_paste_99 (lv_at hl 1 rfl) ?_
                      refine x_get (x := .ref (ad 68)) hE hK hP 67 (Nat.lt_of_lt_of_le (by decide) hNN) (xG_5 rfl) rfl hin5 0 (by decide) mw_446 rfl dX8_paste_101 ?_
                      refine lv_iload_n hE.1 hE.2.1 dX8_paste_104 rfl (lv_at hl 4 rfl) ?_
                      refine lv_aload hE.1 hE.2.1 dX8_paste_105 (lv_at hl 0 rfl) ?_
                      refine x_get (x := .ref (ad 70)) hE hK hP 69 (Nat.lt_of_lt_of_le (by decide) hNN) (xG_5 rfl) rfl hin5 0 (by decide) mw_446 rfl dX8_paste_107 ?_
                      refine lv_iload hE.1 hE.2.1 dX8_paste_110 (lv_at hl 6 rfl) ?_
                      refine lv_iload hE.1 hE.2.1 dX8_paste_112 (lv_at hl 7 rfl) ?_
                      refine x_copyl (rest := []) (sp := iI (z_2)) (dp := iI (z_4)) (n := iI (z_5)) (n0 := 60) (n1 := 60) hE hl.1 hK hN hP hS mw_1326 mw_680 mw_679 mw_130 68 70 (Nat.lt_of_lt_of_le (by decide) hNN) (Nat.lt_of_lt_of_le (by decide) hNN) (xG_11 rfl) (fun _ => xG_11 rfl) (iI_nn (by omega)) (iI_nn (by omega)) (iI_nn (by omega)) (iI_cc (by omega)) (iI_cc (by omega)) (by decide) (by decide) dX8_paste_114 (fun al28 H locs ha28 hP hS => ?_)
                      refine lv_iconst (v := iI (0)) hE.1 hE.2.1 dX8_paste_117 (by decide) ?_
                      exact kr _ _ _ _ _ _ _ _ rfl ⟨⟨0, by omega, rfl⟩, hI, fun i j h => rfl⟩ hP hS dX8_paste_118
                  · skip
                    refine lv_bipush (v := iI (-7)) hE.1 hE.2.1 dX8_paste_91 (by decide) ?_
                    exact kr _ _ _ _ _ _ _ _ rfl ⟨⟨-7, by omega, rfl⟩, hI, fun i j h => rfl⟩ hP hS dX8_paste_93
              · skip
                refine lv_bipush (v := iI (-8)) hE.1 hE.2.1 dX8_paste_65 (by decide) ?_
                exact kr _ _ _ _ _ _ _ _ rfl ⟨⟨-8, by omega, rfl⟩, hI, fun i j h => rfl⟩ hP hS dX8_paste_67
            · skip
              refine lv_bipush (v := iI (-6)) hE.1 hE.2.1 dX8_paste_49 (by decide) ?_
              exact kr _ _ _ _ _ _ _ _ rfl ⟨⟨-6, by omega, rfl⟩, hI, fun i j h => rfl⟩ hP hS dX8_paste_51
        · skip
          refine x_aald (r := .ref (ad 71)) hE hK hP 65 4 (Nat.lt_of_lt_of_le (by decide) hNN) (xG_13 rfl) rfl (by unfold vp_in; decide) rfl dX8_paste_30 ?_
          refine lv_astore (lv' := [(7, .ref (ad 71)), (6, .ref (ad 67)), (0, .ref (ad 0)), (1, .int (iI (0))), (2, .int (iI (z_2))), (3, .int (iI (2))), (4, .int (iI (z_4))), (5, .int (iI (z_5)))]) hE.1 hE.2.1 dX8_paste_31 hl (by decide) rfl (fun ls hl => ?_)
          refine lv_aload hE.1 hE.2.1 dX8_paste_33 (lv_at hl 1 rfl) ?_
          obtain ⟨z29, hz29, ez29⟩ := XI_get hI 67 2 (-1) 60 (by decide)
          refine x_get (x := .int (v 67 2)) hE hK hP 67 (Nat.lt_of_lt_of_le (by decide) hNN) (xG_5 rfl) rfl hin5 2 (by decide) mw_451 rfl dX8_paste_35 ?_
          refine x_top (y := iI (z29)) ez29 ?_
          refine s_if_lt (a := z29) (tgt := 49) hE.1 hE.2.1 (by omega) dX8_paste_38 (by decide) (fun c30 => ?_) (fun c30 => ?_)
          · skip
            refine lv_bipush (v := iI (-6)) hE.1 hE.2.1 dX8_paste_49 (by decide) ?_
            exact kr _ _ _ _ _ _ _ _ rfl ⟨⟨-6, by omega, rfl⟩, hI, fun i j h => rfl⟩ hP hS dX8_paste_51
          · skip
            refine lv_aload hE.1 hE.2.1 dX8_paste_41 (lv_at hl 0 rfl) ?_
            obtain ⟨z31, hz31, ez31⟩ := XI_get hI 71 2 (-1) 60 (by decide)
            refine x_get (x := .int (v 71 2)) hE hK hP 71 (Nat.lt_of_lt_of_le (by decide) hNN) (xG_5 rfl) rfl hin5 2 (by decide) mw_451 rfl dX8_paste_43 ?_
            refine x_top (y := iI (z31)) ez31 ?_
            refine s_if_ge (a := z31) (tgt := 52) hE.1 hE.2.1 (by omega) dX8_paste_46 (by decide) (fun c32 => ?_) (fun c32 => ?_)
            · skip
              refine lv_aload hE.1 hE.2.1 dX8_paste_52 (lv_at hl 1 rfl) ?_
              obtain ⟨z33, hz33, ez33⟩ := iI_of (v 67 1)
              refine x_get (x := .int (v 67 1)) hE hK hP 67 (Nat.lt_of_lt_of_le (by decide) hNN) (xG_5 rfl) rfl hin5 1 (by decide) mw_448 rfl dX8_paste_54 ?_
              refine x_top (y := iI (z33)) ez33 ?_
              refine lv_aload hE.1 hE.2.1 dX8_paste_57 (lv_at hl 0 rfl) ?_
              obtain ⟨z34, hz34, ez34⟩ := iI_of (v 71 1)
              refine x_get (x := .int (v 71 1)) hE hK hP 71 (Nat.lt_of_lt_of_le (by decide) hNN) (xG_5 rfl) rfl hin5 1 (by decide) mw_448 rfl dX8_paste_59 ?_
              refine x_top (y := iI (z34)) ez34 ?_
              refine s_icmp_eq (a := z33) (b := z34) (tgt := 68) hE.1 hE.2.1 (by omega) (by omega) dX8_paste_62 (by decide) (fun c35 => ?_) (fun c35 => ?_)
              · skip
                refine lv_aload hE.1 hE.2.1 dX8_paste_68 (lv_at hl 1 rfl) ?_
                refine lv_iload_n hE.1 hE.2.1 dX8_paste_70 rfl (lv_at hl 4 rfl) ?_
                refine lv_iload hE.1 hE.2.1 dX8_paste_71 (lv_at hl 7 rfl) ?_
                refine x_vp (nn := 2) (As := [.int (iI (z_2)), .int (iI (z_5))]) (rest := []) hE (s_X5_holds_67 l D K ad mm N hNN v ar al hI  (z_2) (by omega) (z_5) (by omega)) wPre_blind (wPre_now hK hN hP) (x_recv hK hP 67 (Nat.lt_of_lt_of_le (by decide) hNN) (xG_5 rfl) rfl) rfl mw_1322 mw_1323 mw_1324 mw_121 mw_1325 (by decide +kernel) ⟨by decide, by decide⟩ hl.1 rfl (Nat.le_of_ble_eq_true rfl) ⟨Nat.zero_le _, Nat.zero_le _⟩ dX8_paste_73 (fun r36 hr36 => ?_)
                obtain ⟨z36, hz36, rfl⟩ := hr36
                refine s_if_eq (a := z36) (tgt := 91) hE.1 hE.2.1 (by omega) dX8_paste_76 (by decide) (fun c37 => ?_) (fun c37 => ?_)
                · skip
                  refine lv_bipush (v := iI (-7)) hE.1 hE.2.1 dX8_paste_91 (by decide) ?_
                  exact kr _ _ _ _ _ _ _ _ rfl ⟨⟨-7, by omega, rfl⟩, hI, fun i j h => rfl⟩ hP hS dX8_paste_93
                · skip
                  refine lv_aload hE.1 hE.2.1 dX8_paste_79 (lv_at hl 0 rfl) ?_
                  refine lv_iload hE.1 hE.2.1 dX8_paste_81 (lv_at hl 6 rfl) ?_
                  refine lv_iload hE.1 hE.2.1 dX8_paste_83 (lv_at hl 7 rfl) ?_
                  refine x_vp (nn := 2) (As := [.int (iI (z_4)), .int (iI (z_5))]) (rest := []) hE (s_X5_holds_71 l D K ad mm N hNN v ar al hI  (z_4) (by omega) (z_5) (by omega)) wPre_blind (wPre_now hK hN hP) (x_recv hK hP 71 (Nat.lt_of_lt_of_le (by decide) hNN) (xG_5 rfl) rfl) rfl mw_1322 mw_1323 mw_1324 mw_121 mw_1325 (by decide +kernel) ⟨by decide, by decide⟩ hl.1 rfl (Nat.le_of_ble_eq_true rfl) ⟨Nat.zero_le _, Nat.zero_le _⟩ dX8_paste_85 (fun r38 hr38 => ?_)
                  obtain ⟨z38, hz38, rfl⟩ := hr38
                  refine s_if_ne (a := z38) (tgt := 94) hE.1 hE.2.1 (by omega) dX8_paste_88 (by decide) (fun c39 => ?_) (fun c39 => ?_)
                  · skip
                    refine lv_iload hE.1 hE.2.1 dX8_paste_94 (lv_at hl 7 rfl) ?_
                    refine s_if_le (a := z_5) (tgt := 117) hE.1 hE.2.1 (by omega) dX8_paste_96 (by decide) (fun c40 => ?_) (fun c40 => ?_)
                    · skip
                      refine lv_iconst (v := iI (0)) hE.1 hE.2.1 dX8_paste_117 (by decide) ?_
                      exact kr _ _ _ _ _ _ _ _ rfl ⟨⟨0, by omega, rfl⟩, hI, fun i j h => rfl⟩ hP hS dX8_paste_118
                    · skip
                      refine lv_aload hE.1 hE.2.1 dX8_paste_99 (lv_at hl 1 rfl) ?_
                      refine x_get (x := .ref (ad 68)) hE hK hP 67 (Nat.lt_of_lt_of_le (by decide) hNN) (xG_5 rfl) rfl hin5 0 (by decide) mw_446 rfl dX8_paste_101 ?_
                      refine lv_iload_n hE.1 hE.2.1 dX8_paste_104 rfl (lv_at hl 4 rfl) ?_
                      refine lv_aload hE.1 hE.2.1 dX8_paste_105 (lv_at hl 0 rfl) ?_
                      refine x_get (x := .ref (ad 72)) hE hK hP 71 (Nat.lt_of_lt_of_le (by decide) hNN) (xG_5 rfl) rfl hin5 0 (by decide) mw_446 rfl dX8_paste_107 ?_
                      refine lv_iload hE.1 hE.2.1 dX8_paste_110 (lv_at hl 6 rfl) ?_
                      refine lv_iload hE.1 hE.2.1 dX8_paste_112 (lv_at hl 7 rfl) ?_
                      refine x_copyl (rest := []) (sp := iI (z_2)) (dp := iI (z_4)) (n := iI (z_5)) (n0 := 60) (n1 := 60) hE hl.1 hK hN hP hS mw_1326 mw_680 mw_679 mw_130 68 72 (Nat.lt_of_lt_of_le (by decide) hNN) (Nat.lt_of_lt_of_le (by decide) hNN) (xG_11 rfl) (fun _ => xG_11 rfl) (iI_nn (by omega)) (iI_nn (by omega)) (iI_nn (by omega)) (iI_cc (by omega)) (iI_cc (by omega)) (by decide) (by decide) dX8_paste_114 (fun al41 H locs ha41 hP hS => ?_)
                      refine lv_iconst (v := iI (0)) hE.1 hE.2.1 dX8_paste_117 (by decide) ?_
                      exact kr _ _ _ _ _ _ _ _ rfl ⟨⟨0, by omega, rfl⟩, hI, fun i j h => rfl⟩ hP hS dX8_paste_118
                  · skip
                    refine lv_bipush (v := iI (-7)) hE.1 hE.2.1 dX8_paste_91 (by decide) ?_
                    exact kr _ _ _ _ _ _ _ _ rfl ⟨⟨-7, by omega, rfl⟩, hI, fun i j h => rfl⟩ hP hS dX8_paste_93
              · skip
                refine lv_bipush (v := iI (-8)) hE.1 hE.2.1 dX8_paste_65 (by decide) ?_
                exact kr _ _ _ _ _ _ _ _ rfl ⟨⟨-8, by omega, rfl⟩, hI, fun i j h => rfl⟩ hP hS dX8_paste_67
            · skip
              refine lv_bipush (v := iI (-6)) hE.1 hE.2.1 dX8_paste_49 (by decide) ?_
              exact kr _ _ _ _ _ _ _ _ rfl ⟨⟨-6, by omega, rfl⟩, hI, fun i j h => rfl⟩ hP hS dX8_paste_51
        · skip
          refine x_aald (r := .ref (ad 73)) hE hK hP 65 4 (Nat.lt_of_lt_of_le (by decide) hNN) (xG_13 rfl) rfl (by unfold vp_in; decide) rfl dX8_paste_30 ?_
          refine lv_astore (lv' := [(7, .ref (ad 73)), (6, .ref (ad 67)), (0, .ref (ad 0)), (1, .int (iI (0))), (2, .int (iI (z_2))), (3, .int (iI (3))), (4, .int (iI (z_4))), (5, .int (iI (z_5)))]) hE.1 hE.2.1 dX8_paste_31 hl (by decide) rfl (fun ls hl => ?_)
          refine lv_aload hE.1 hE.2.1 dX8_paste_33 (lv_at hl 1 rfl) ?_
          obtain ⟨z42, hz42, ez42⟩ := XI_get hI 67 2 (-1) 60 (by decide)
          refine x_get (x := .int (v 67 2)) hE hK hP 67 (Nat.lt_of_lt_of_le (by decide) hNN) (xG_5 rfl) rfl hin5 2 (by decide) mw_451 rfl dX8_paste_35 ?_
          refine x_top (y := iI (z42)) ez42 ?_
          refine s_if_lt (a := z42) (tgt := 49) hE.1 hE.2.1 (by omega) dX8_paste_38 (by decide) (fun c43 => ?_) (fun c43 => ?_)
          · skip
            refine lv_bipush (v := iI (-6)) hE.1 hE.2.1 dX8_paste_49 (by decide) ?_
            exact kr _ _ _ _ _ _ _ _ rfl ⟨⟨-6, by omega, rfl⟩, hI, fun i j h => rfl⟩ hP hS dX8_paste_51
          · skip
            refine lv_aload hE.1 hE.2.1 dX8_paste_41 (lv_at hl 0 rfl) ?_
            obtain ⟨z44, hz44, ez44⟩ := XI_get hI 73 2 (-1) 60 (by decide)
            refine x_get (x := .int (v 73 2)) hE hK hP 73 (Nat.lt_of_lt_of_le (by decide) hNN) (xG_5 rfl) rfl hin5 2 (by decide) mw_451 rfl dX8_paste_43 ?_
            refine x_top (y := iI (z44)) ez44 ?_
            refine s_if_ge (a := z44) (tgt := 52) hE.1 hE.2.1 (by omega) dX8_paste_46 (by decide) (fun c45 => ?_) (fun c45 => ?_)
            · skip
              refine lv_aload hE.1 hE.2.1 dX8_paste_52 (lv_at hl 1 rfl) ?_
              obtain ⟨z46, hz46, ez46⟩ := iI_of (v 67 1)
              refine x_get (x := .int (v 67 1)) hE hK hP 67 (Nat.lt_of_lt_of_le (by decide) hNN) (xG_5 rfl) rfl hin5 1 (by decide) mw_448 rfl dX8_paste_54 ?_
              refine x_top (y := iI (z46)) ez46 ?_
              refine lv_aload hE.1 hE.2.1 dX8_paste_57 (lv_at hl 0 rfl) ?_
              obtain ⟨z47, hz47, ez47⟩ := iI_of (v 73 1)
              refine x_get (x := .int (v 73 1)) hE hK hP 73 (Nat.lt_of_lt_of_le (by decide) hNN) (xG_5 rfl) rfl hin5 1 (by decide) mw_448 rfl dX8_paste_59 ?_
              refine x_top (y := iI (z47)) ez47 ?_
              refine s_icmp_eq (a := z46) (b := z47) (tgt := 68) hE.1 hE.2.1 (by omega) (by omega) dX8_paste_62 (by decide) (fun c48 => ?_) (fun c48 => ?_)
              · skip
                refine lv_aload hE.1 hE.2.1 dX8_paste_68 (lv_at hl 1 rfl) ?_
                refine lv_iload_n hE.1 hE.2.1 dX8_paste_70 rfl (lv_at hl 4 rfl) ?_
                refine lv_iload hE.1 hE.2.1 dX8_paste_71 (lv_at hl 7 rfl) ?_
                refine x_vp (nn := 2) (As := [.int (iI (z_2)), .int (iI (z_5))]) (rest := []) hE (s_X5_holds_67 l D K ad mm N hNN v ar al hI  (z_2) (by omega) (z_5) (by omega)) wPre_blind (wPre_now hK hN hP) (x_recv hK hP 67 (Nat.lt_of_lt_of_le (by decide) hNN) (xG_5 rfl) rfl) rfl mw_1322 mw_1323 mw_1324 mw_121 mw_1325 (by decide +kernel) ⟨by decide, by decide⟩ hl.1 rfl (Nat.le_of_ble_eq_true rfl) ⟨Nat.zero_le _, Nat.zero_le _⟩ dX8_paste_73 (fun r49 hr49 => ?_)
                obtain ⟨z49, hz49, rfl⟩ := hr49
                refine s_if_eq (a := z49) (tgt := 91) hE.1 hE.2.1 (by omega) dX8_paste_76 (by decide) (fun c50 => ?_) (fun c50 => ?_)
                · skip
                  refine lv_bipush (v := iI (-7)) hE.1 hE.2.1 dX8_paste_91 (by decide) ?_
                  exact kr _ _ _ _ _ _ _ _ rfl ⟨⟨-7, by omega, rfl⟩, hI, fun i j h => rfl⟩ hP hS dX8_paste_93
                · skip
                  refine lv_aload hE.1 hE.2.1 dX8_paste_79 (lv_at hl 0 rfl) ?_
                  refine lv_iload hE.1 hE.2.1 dX8_paste_81 (lv_at hl 6 rfl) ?_
                  refine lv_iload hE.1 hE.2.1 dX8_paste_83 (lv_at hl 7 rfl) ?_
                  refine x_vp (nn := 2) (As := [.int (iI (z_4)), .int (iI (z_5))]) (rest := []) hE (s_X5_holds_73 l D K ad mm N hNN v ar al hI  (z_4) (by omega) (z_5) (by omega)) wPre_blind (wPre_now hK hN hP) (x_recv hK hP 73 (Nat.lt_of_lt_of_le (by decide) hNN) (xG_5 rfl) rfl) rfl mw_1322 mw_1323 mw_1324 mw_121 mw_1325 (by decide +kernel) ⟨by decide, by decide⟩ hl.1 rfl (Nat.le_of_ble_eq_true rfl) ⟨Nat.zero_le _, Nat.zero_le _⟩ dX8_paste_85 (fun r51 hr51 => ?_)
                  obtain ⟨z51, hz51, rfl⟩ := hr51
                  refine s_if_ne (a := z51) (tgt := 94) hE.1 hE.2.1 (by omega) dX8_paste_88 (by decide) (fun c52 => ?_) (fun c52 => ?_)
                  · skip
                    refine lv_iload hE.1 hE.2.1 dX8_paste_94 (lv_at hl 7 rfl) ?_
                    refine s_if_le (a := z_5) (tgt := 117) hE.1 hE.2.1 (by omega) dX8_paste_96 (by decide) (fun c53 => ?_) (fun c53 => ?_)
                    · skip
                      refine lv_iconst (v := iI (0)) hE.1 hE.2.1 dX8_paste_117 (by decide) ?_
                      exact kr _ _ _ _ _ _ _ _ rfl ⟨⟨0, by omega, rfl⟩, hI, fun i j h => rfl⟩ hP hS dX8_paste_118
                    · skip
                      refine lv_aload hE.1 hE.2.1 dX8_paste_99 (lv_at hl 1 rfl) ?_
                      refine x_get (x := .ref (ad 68)) hE hK hP 67 (Nat.lt_of_lt_of_le (by decide) hNN) (xG_5 rfl) rfl hin5 0 (by decide) mw_446 rfl dX8_paste_101 ?_
                      refine lv_iload_n hE.1 hE.2.1 dX8_paste_104 rfl (lv_at hl 4 rfl) ?_
                      refine lv_aload hE.1 hE.2.1 dX8_paste_105 (lv_at hl 0 rfl) ?_
                      refine x_get (x := .ref (ad 74)) hE hK hP 73 (Nat.lt_of_lt_of_le (by decide) hNN) (xG_5 rfl) rfl hin5 0 (by decide) mw_446 rfl dX8_paste_107 ?_
                      refine lv_iload hE.1 hE.2.1 dX8_paste_110 (lv_at hl 6 rfl) ?_
                      refine lv_iload hE.1 hE.2.1 dX8_paste_112 (lv_at hl 7 rfl) ?_
                      refine x_copyl (rest := []) (sp := iI (z_2)) (dp := iI (z_4)) (n := iI (z_5)) (n0 := 60) (n1 := 60) hE hl.1 hK hN hP hS mw_1326 mw_680 mw_679 mw_130 68 74 (Nat.lt_of_lt_of_le (by decide) hNN) (Nat.lt_of_lt_of_le (by decide) hNN) (xG_11 rfl) (fun _ => xG_11 rfl) (iI_nn (by omega)) (iI_nn (by omega)) (iI_nn (by omega)) (iI_cc (by omega)) (iI_cc (by omega)) (by decide) (by decide) dX8_paste_114 (fun al54 H locs ha54 hP hS => ?_)
                      refine lv_iconst (v := iI (0)) hE.1 hE.2.1 dX8_paste_117 (by decide) ?_
                      exact kr _ _ _ _ _ _ _ _ rfl ⟨⟨0, by omega, rfl⟩, hI, fun i j h => rfl⟩ hP hS dX8_paste_118
                  · skip
                    refine lv_bipush (v := iI (-7)) hE.1 hE.2.1 dX8_paste_91 (by decide) ?_
                    exact kr _ _ _ _ _ _ _ _ rfl ⟨⟨-7, by omega, rfl⟩, hI, fun i j h => rfl⟩ hP hS dX8_paste_93
              · skip
                refine lv_bipush (v := iI (-8)) hE.1 hE.2.1 dX8_paste_65 (by decide) ?_
                exact kr _ _ _ _ _ _ _ _ rfl ⟨⟨-8, by omega, rfl⟩, hI, fun i j h => rfl⟩ hP hS dX8_paste_67
            · skip
              refine lv_bipush (v := iI (-6)) hE.1 hE.2.1 dX8_paste_49 (by decide) ?_
              exact kr _ _ _ _ _ _ _ _ rfl ⟨⟨-6, by omega, rfl⟩, hI, fun i j h => rfl⟩ hP hS dX8_paste_51
      · skip
        refine x_aald (r := .ref (ad 69)) hE hK hP 65 4 (Nat.lt_of_lt_of_le (by decide) hNN) (xG_13 rfl) rfl (by unfold vp_in; decide) rfl dX8_paste_22 ?_
        refine lv_astore (lv' := [(6, .ref (ad 69)), (0, .ref (ad 0)), (1, .int (iI (1))), (2, .int (iI (z_2))), (3, .int (iI (z_3))), (4, .int (iI (z_4))), (5, .int (iI (z_5)))]) hE.1 hE.2.1 dX8_paste_23 hl (by decide) rfl (fun ls hl => ?_)
        refine lv_aload_n hE.1 hE.2.1 dX8_paste_25 rfl (lv_at hl 1 rfl) ?_
        refine x_get (x := .ref (ad 65)) hE hK hP 0 (Nat.lt_of_lt_of_le (by decide) hNN) (xG_8 rfl) rfl hin8 8 (by decide) mw_488 rfl dX8_paste_26 ?_
        refine lv_iload_n hE.1 hE.2.1 dX8_paste_29 rfl (lv_at hl 4 rfl) ?_
        rcases (show z_3 = 0 ∨ z_3 = 1 ∨ z_3 = 2 ∨ z_3 = 3 by omega) with rfl | rfl | rfl | rfl
        · skip
          refine x_aald (r := .ref (ad 67)) hE hK hP 65 4 (Nat.lt_of_lt_of_le (by decide) hNN) (xG_13 rfl) rfl (by unfold vp_in; decide) rfl dX8_paste_30 ?_
          refine lv_astore (lv' := [(7, .ref (ad 67)), (6, .ref (ad 69)), (0, .ref (ad 0)), (1, .int (iI (1))), (2, .int (iI (z_2))), (3, .int (iI (0))), (4, .int (iI (z_4))), (5, .int (iI (z_5)))]) hE.1 hE.2.1 dX8_paste_31 hl (by decide) rfl (fun ls hl => ?_)
          refine lv_aload hE.1 hE.2.1 dX8_paste_33 (lv_at hl 1 rfl) ?_
          obtain ⟨z55, hz55, ez55⟩ := XI_get hI 69 2 (-1) 60 (by decide)
          refine x_get (x := .int (v 69 2)) hE hK hP 69 (Nat.lt_of_lt_of_le (by decide) hNN) (xG_5 rfl) rfl hin5 2 (by decide) mw_451 rfl dX8_paste_35 ?_
          refine x_top (y := iI (z55)) ez55 ?_
          refine s_if_lt (a := z55) (tgt := 49) hE.1 hE.2.1 (by omega) dX8_paste_38 (by decide) (fun c56 => ?_) (fun c56 => ?_)
          · skip
            refine lv_bipush (v := iI (-6)) hE.1 hE.2.1 dX8_paste_49 (by decide) ?_
            exact kr _ _ _ _ _ _ _ _ rfl ⟨⟨-6, by omega, rfl⟩, hI, fun i j h => rfl⟩ hP hS dX8_paste_51
          · skip
            refine lv_aload hE.1 hE.2.1 dX8_paste_41 (lv_at hl 0 rfl) ?_
            obtain ⟨z57, hz57, ez57⟩ := XI_get hI 67 2 (-1) 60 (by decide)
            refine x_get (x := .int (v 67 2)) hE hK hP 67 (Nat.lt_of_lt_of_le (by decide) hNN) (xG_5 rfl) rfl hin5 2 (by decide) mw_451 rfl dX8_paste_43 ?_
            refine x_top (y := iI (z57)) ez57 ?_
            refine s_if_ge (a := z57) (tgt := 52) hE.1 hE.2.1 (by omega) dX8_paste_46 (by decide) (fun c58 => ?_) (fun c58 => ?_)
            · skip
              refine lv_aload hE.1 hE.2.1 dX8_paste_52 (lv_at hl 1 rfl) ?_
              obtain ⟨z59, hz59, ez59⟩ := iI_of (v 69 1)
              refine x_get (x := .int (v 69 1)) hE hK hP 69 (Nat.lt_of_lt_of_le (by decide) hNN) (xG_5 rfl) rfl hin5 1 (by decide) mw_448 rfl dX8_paste_54 ?_
              refine x_top (y := iI (z59)) ez59 ?_
              refine lv_aload hE.1 hE.2.1 dX8_paste_57 (lv_at hl 0 rfl) ?_
              obtain ⟨z60, hz60, ez60⟩ := iI_of (v 67 1)
              refine x_get (x := .int (v 67 1)) hE hK hP 67 (Nat.lt_of_lt_of_le (by decide) hNN) (xG_5 rfl) rfl hin5 1 (by decide) mw_448 rfl dX8_paste_59 ?_
              refine x_top (y := iI (z60)) ez60 ?_
              refine s_icmp_eq (a := z59) (b := z60) (tgt := 68) hE.1 hE.2.1 (by omega) (by omega) dX8_paste_62 (by decide) (fun c61 => ?_) (fun c61 => ?_)
              · skip
                refine lv_aload hE.1 hE.2.1 dX8_paste_68 (lv_at hl 1 rfl) ?_
                refine lv_iload_n hE.1 hE.2.1 dX8_paste_70 rfl (lv_at hl 4 rfl) ?_
                refine lv_iload hE.1 hE.2.1 dX8_paste_71 (lv_at hl 7 rfl) ?_
                refine x_vp (nn := 2) (As := [.int (iI (z_2)), .int (iI (z_5))]) (rest := []) hE (s_X5_holds_69 l D K ad mm N hNN v ar al hI  (z_2) (by omega) (z_5) (by omega)) wPre_blind (wPre_now hK hN hP) (x_recv hK hP 69 (Nat.lt_of_lt_of_le (by decide) hNN) (xG_5 rfl) rfl) rfl mw_1322 mw_1323 mw_1324 mw_121 mw_1325 (by decide +kernel) ⟨by decide, by decide⟩ hl.1 rfl (Nat.le_of_ble_eq_true rfl) ⟨Nat.zero_le _, Nat.zero_le _⟩ dX8_paste_73 (fun r62 hr62 => ?_)
                obtain ⟨z62, hz62, rfl⟩ := hr62
                refine s_if_eq (a := z62) (tgt := 91) hE.1 hE.2.1 (by omega) dX8_paste_76 (by decide) (fun c63 => ?_) (fun c63 => ?_)
                · skip
                  refine lv_bipush (v := iI (-7)) hE.1 hE.2.1 dX8_paste_91 (by decide) ?_
                  exact kr _ _ _ _ _ _ _ _ rfl ⟨⟨-7, by omega, rfl⟩, hI, fun i j h => rfl⟩ hP hS dX8_paste_93
                · skip
                  refine lv_aload hE.1 hE.2.1 dX8_paste_79 (lv_at hl 0 rfl) ?_
                  refine lv_iload hE.1 hE.2.1 dX8_paste_81 (lv_at hl 6 rfl) ?_
                  refine lv_iload hE.1 hE.2.1 dX8_paste_83 (lv_at hl 7 rfl) ?_
                  refine x_vp (nn := 2) (As := [.int (iI (z_4)), .int (iI (z_5))]) (rest := []) hE (s_X5_holds_67 l D K ad mm N hNN v ar al hI  (z_4) (by omega) (z_5) (by omega)) wPre_blind (wPre_now hK hN hP) (x_recv hK hP 67 (Nat.lt_of_lt_of_le (by decide) hNN) (xG_5 rfl) rfl) rfl mw_1322 mw_1323 mw_1324 mw_121 mw_1325 (by decide +kernel) ⟨by decide, by decide⟩ hl.1 rfl (Nat.le_of_ble_eq_true rfl) ⟨Nat.zero_le _, Nat.zero_le _⟩ dX8_paste_85 (fun r64 hr64 => ?_)
                  obtain ⟨z64, hz64, rfl⟩ := hr64
                  refine s_if_ne (a := z64) (tgt := 94) hE.1 hE.2.1 (by omega) dX8_paste_88 (by decide) (fun c65 => ?_) (fun c65 => ?_)
                  · skip
                    refine lv_iload hE.1 hE.2.1 dX8_paste_94 (lv_at hl 7 rfl) ?_
                    refine s_if_le (a := z_5) (tgt := 117) hE.1 hE.2.1 (by omega) dX8_paste_96 (by decide) (fun c66 => ?_) (fun c66 => ?_)
                    · skip
                      refine lv_iconst (v := iI (0)) hE.1 hE.2.1 dX8_paste_117 (by decide) ?_
                      exact kr _ _ _ _ _ _ _ _ rfl ⟨⟨0, by omega, rfl⟩, hI, fun i j h => rfl⟩ hP hS dX8_paste_118
                    · skip
                      refine lv_aload hE.1 hE.2.1 dX8_paste_99 (lv_at hl 1 rfl) ?_
                      refine x_get (x := .ref (ad 70)) hE hK hP 69 (Nat.lt_of_lt_of_le (by decide) hNN) (xG_5 rfl) rfl hin5 0 (by decide) mw_446 rfl dX8_paste_101 ?_
                      refine lv_iload_n hE.1 hE.2.1 dX8_paste_104 rfl (lv_at hl 4 rfl) ?_
                      refine lv_aload hE.1 hE.2.1 dX8_paste_105 (lv_at hl 0 rfl) ?_
                      refine x_get (x := .ref (ad 68)) hE hK hP 67 (Nat.lt_of_lt_of_le (by decide) hNN) (xG_5 rfl) rfl hin5 0 (by decide) mw_446 rfl dX8_paste_107 ?_
                      refine lv_iload hE.1 hE.2.1 dX8_paste_110 (lv_at hl 6 rfl) ?_
                      refine lv_iload hE.1 hE.2.1 dX8_paste_112 (lv_at hl 7 rfl) ?_
                      refine x_copyl (rest := []) (sp := iI (z_2)) (dp := iI (z_4)) (n := iI (z_5)) (n0 := 60) (n1 := 60) hE hl.1 hK hN hP hS mw_1326 mw_680 mw_679 mw_130 70 68 (Nat.lt_of_lt_of_le (by decide) hNN) (Nat.lt_of_lt_of_le (by decide) hNN) (xG_11 rfl) (fun _ => xG_11 rfl) (iI_nn (by omega)) (iI_nn (by omega)) (iI_nn (by omega)) (iI_cc (by omega)) (iI_cc (by omega)) (by decide) (by decide) dX8_paste_114 (fun al67 H locs ha67 hP hS => ?_)
                      refine lv_iconst (v := iI (0)) hE.1 hE.2.1 dX8_paste_117 (by decide) ?_
                      exact kr _ _ _ _ _ _ _ _ rfl ⟨⟨0, by omega, rfl⟩, hI, fun i j h => rfl⟩ hP hS dX8_paste_118
                  · skip
                    refine lv_bipush (v := iI (-7)) hE.1 hE.2.1 dX8_paste_91 (by decide) ?_
                    exact kr _ _ _ _ _ _ _ _ rfl ⟨⟨-7, by omega, rfl⟩, hI, fun i j h => rfl⟩ hP hS dX8_paste_93
              · skip
                refine lv_bipush (v := iI (-8)) hE.1 hE.2.1 dX8_paste_65 (by decide) ?_
                exact kr _ _ _ _ _ _ _ _ rfl ⟨⟨-8, by omega, rfl⟩, hI, fun i j h => rfl⟩ hP hS dX8_paste_67
            · skip
              refine lv_bipush (v := iI (-6)) hE.1 hE.2.1 dX8_paste_49 (by decide) ?_
              exact kr _ _ _ _ _ _ _ _ rfl ⟨⟨-6, by omega, rfl⟩, hI, fun i j h => rfl⟩ hP hS dX8_paste_51
        · skip
          refine x_aald (r := .ref (ad 69)) hE hK hP 65 4 (Nat.lt_of_lt_of_le (by decide) hNN) (xG_13 rfl) rfl (by unfold vp_in; decide) rfl dX8_paste_30 ?_
          refine lv_astore (lv' := [(7, .ref (ad 69)), (6, .ref (ad 69)), (0, .ref (ad 0)), (1, .int (iI (1))), (2, .int (iI (z_2))), (3, .int (iI (1))), (4, .int (iI (z_4))), (5, .int (iI (z_5)))]) hE.1 hE.2.1 dX8_paste_31 hl (by decide) rfl (fun ls hl => ?_)
          refine lv_aload hE.1 hE.2.1 dX8_paste_33 (lv_at hl 1 rfl) ?_
          obtain ⟨z68, hz68, ez68⟩ := XI_get hI 69 2 (-1) 60 (by decide)
          refine x_get (x := .int (v 69 2)) hE hK hP 69 (Nat.lt_of_lt_of_le (by decide) hNN) (xG_5 rfl) rfl hin5 2 (by decide) mw_451 rfl dX8_paste_35 ?_
          refine x_top (y := iI (z68)) ez68 ?_
          refine s_if_lt (a := z68) (tgt := 49) hE.1 hE.2.1 (by omega) dX8_paste_38 (by decide) (fun c69 => ?_) (fun c69 => ?_)
          · skip
            refine lv_bipush (v := iI (-6)) hE.1 hE.2.1 dX8_paste_49 (by decide) ?_
            exact kr _ _ _ _ _ _ _ _ rfl ⟨⟨-6, by omega, rfl⟩, hI, fun i j h => rfl⟩ hP hS dX8_paste_51
          · skip
            refine lv_aload hE.1 hE.2.1 dX8_paste_41 (lv_at hl 0 rfl) ?_
            refine x_get (x := .int (v 69 2)) hE hK hP 69 (Nat.lt_of_lt_of_le (by decide) hNN) (xG_5 rfl) rfl hin5 2 (by decide) mw_451 rfl dX8_paste_43 ?_
            refine x_top (y := iI (z68)) ez68 ?_
            refine s_if_ge (a := z68) (tgt := 52) hE.1 hE.2.1 (by omega) dX8_paste_46 (by decide) (fun _ => ?_) (fun c70 => False.elim (by omega))
            refine lv_aload hE.1 hE.2.1 dX8_paste_52 (lv_at hl 1 rfl) ?_
            obtain ⟨z71, hz71, ez71⟩ := iI_of (v 69 1)
            refine x_get (x := .int (v 69 1)) hE hK hP 69 (Nat.lt_of_lt_of_le (by decide) hNN) (xG_5 rfl) rfl hin5 1 (by decide) mw_448 rfl dX8_paste_54 ?_
            refine x_top (y := iI (z71)) ez71 ?_
            refine lv_aload hE.1 hE.2.1 dX8_paste_57 (lv_at hl 0 rfl) ?_
            refine x_get (x := .int (v 69 1)) hE hK hP 69 (Nat.lt_of_lt_of_le (by decide) hNN) (xG_5 rfl) rfl hin5 1 (by decide) mw_448 rfl dX8_paste_59 ?_
            refine x_top (y := iI (z71)) ez71 ?_
            refine s_icmp_eq (a := z71) (b := z71) (tgt := 68) hE.1 hE.2.1 (by omega) (by omega) dX8_paste_62 (by decide) (fun _ => ?_) (fun c72 => False.elim (by omega))
            refine lv_aload hE.1 hE.2.1 dX8_paste_68 (lv_at hl 1 rfl) ?_
            refine lv_iload_n hE.1 hE.2.1 dX8_paste_70 rfl (lv_at hl 4 rfl) ?_
            refine lv_iload hE.1 hE.2.1 dX8_paste_71 (lv_at hl 7 rfl) ?_
            refine x_vp (nn := 2) (As := [.int (iI (z_2)), .int (iI (z_5))]) (rest := []) hE (s_X5_holds_69 l D K ad mm N hNN v ar al hI  (z_2) (by omega) (z_5) (by omega)) wPre_blind (wPre_now hK hN hP) (x_recv hK hP 69 (Nat.lt_of_lt_of_le (by decide) hNN) (xG_5 rfl) rfl) rfl mw_1322 mw_1323 mw_1324 mw_121 mw_1325 (by decide +kernel) ⟨by decide, by decide⟩ hl.1 rfl (Nat.le_of_ble_eq_true rfl) ⟨Nat.zero_le _, Nat.zero_le _⟩ dX8_paste_73 (fun r73 hr73 => ?_)
            obtain ⟨z73, hz73, rfl⟩ := hr73
            refine s_if_eq (a := z73) (tgt := 91) hE.1 hE.2.1 (by omega) dX8_paste_76 (by decide) (fun c74 => ?_) (fun c74 => ?_)
            · skip
              refine lv_bipush (v := iI (-7)) hE.1 hE.2.1 dX8_paste_91 (by decide) ?_
              exact kr _ _ _ _ _ _ _ _ rfl ⟨⟨-7, by omega, rfl⟩, hI, fun i j h => rfl⟩ hP hS dX8_paste_93
            · skip
              refine lv_aload hE.1 hE.2.1 dX8_paste_79 (lv_at hl 0 rfl) ?_
              refine lv_iload hE.1 hE.2.1 dX8_paste_81 (lv_at hl 6 rfl) ?_
              refine lv_iload hE.1 hE.2.1 dX8_paste_83 (lv_at hl 7 rfl) ?_
              refine x_vp (nn := 2) (As := [.int (iI (z_4)), .int (iI (z_5))]) (rest := []) hE (s_X5_holds_69 l D K ad mm N hNN v ar al hI  (z_4) (by omega) (z_5) (by omega)) wPre_blind (wPre_now hK hN hP) (x_recv hK hP 69 (Nat.lt_of_lt_of_le (by decide) hNN) (xG_5 rfl) rfl) rfl mw_1322 mw_1323 mw_1324 mw_121 mw_1325 (by decide +kernel) ⟨by decide, by decide⟩ hl.1 rfl (Nat.le_of_ble_eq_true rfl) ⟨Nat.zero_le _, Nat.zero_le _⟩ dX8_paste_85 (fun r75 hr75 => ?_)
              obtain ⟨z75, hz75, rfl⟩ := hr75
              refine s_if_ne (a := z75) (tgt := 94) hE.1 hE.2.1 (by omega) dX8_paste_88 (by decide) (fun c76 => ?_) (fun c76 => ?_)
              · skip
                refine lv_iload hE.1 hE.2.1 dX8_paste_94 (lv_at hl 7 rfl) ?_
                refine s_if_le (a := z_5) (tgt := 117) hE.1 hE.2.1 (by omega) dX8_paste_96 (by decide) (fun c77 => ?_) (fun c77 => ?_)
                · skip
                  refine lv_iconst (v := iI (0)) hE.1 hE.2.1 dX8_paste_117 (by decide) ?_
                  exact kr _ _ _ _ _ _ _ _ rfl ⟨⟨0, by omega, rfl⟩, hI, fun i j h => rfl⟩ hP hS dX8_paste_118
                · skip
                  refine lv_aload hE.1 hE.2.1 dX8_paste_99 (lv_at hl 1 rfl) ?_
                  refine x_get (x := .ref (ad 70)) hE hK hP 69 (Nat.lt_of_lt_of_le (by decide) hNN) (xG_5 rfl) rfl hin5 0 (by decide) mw_446 rfl dX8_paste_101 ?_
                  refine lv_iload_n hE.1 hE.2.1 dX8_paste_104 rfl (lv_at hl 4 rfl) ?_
                  refine lv_aload hE.1 hE.2.1 dX8_paste_105 (lv_at hl 0 rfl) ?_
                  refine x_get (x := .ref (ad 70)) hE hK hP 69 (Nat.lt_of_lt_of_le (by decide) hNN) (xG_5 rfl) rfl hin5 0 (by decide) mw_446 rfl dX8_paste_107 ?_
                  refine lv_iload hE.1 hE.2.1 dX8_paste_110 (lv_at hl 6 rfl) ?_
                  refine lv_iload hE.1 hE.2.1 dX8_paste_112 (lv_at hl 7 rfl) ?_
                  refine x_copyl (rest := []) (sp := iI (z_2)) (dp := iI (z_4)) (n := iI (z_5)) (n0 := 60) (n1 := 60) hE hl.1 hK hN hP hS mw_1326 mw_680 mw_679 mw_130 70 70 (Nat.lt_of_lt_of_le (by decide) hNN) (Nat.lt_of_lt_of_le (by decide) hNN) (xG_11 rfl) (fun _ => xG_11 rfl) (iI_nn (by omega)) (iI_nn (by omega)) (iI_nn (by omega)) (iI_cc (by omega)) (iI_cc (by omega)) (by decide) (by decide) dX8_paste_114 (fun al78 H locs ha78 hP hS => ?_)
                  refine lv_iconst (v := iI (0)) hE.1 hE.2.1 dX8_paste_117 (by decide) ?_
                  exact kr _ _ _ _ _ _ _ _ rfl ⟨⟨0, by omega, rfl⟩, hI, fun i j h => rfl⟩ hP hS dX8_paste_118
              · skip
                refine lv_bipush (v := iI (-7)) hE.1 hE.2.1 dX8_paste_91 (by decide) ?_
                exact kr _ _ _ _ _ _ _ _ rfl ⟨⟨-7, by omega, rfl⟩, hI, fun i j h => rfl⟩ hP hS dX8_paste_93
        · skip
          refine x_aald (r := .ref (ad 71)) hE hK hP 65 4 (Nat.lt_of_lt_of_le (by decide) hNN) (xG_13 rfl) rfl (by unfold vp_in; decide) rfl dX8_paste_30 ?_
          refine lv_astore (lv' := [(7, .ref (ad 71)), (6, .ref (ad 69)), (0, .ref (ad 0)), (1, .int (iI (1))), (2, .int (iI (z_2))), (3, .int (iI (2))), (4, .int (iI (z_4))), (5, .int (iI (z_5)))]) hE.1 hE.2.1 dX8_paste_31 hl (by decide) rfl (fun ls hl => ?_)
          refine lv_aload hE.1 hE.2.1 dX8_paste_33 (lv_at hl 1 rfl) ?_
          obtain ⟨z79, hz79, ez79⟩ := XI_get hI 69 2 (-1) 60 (by decide)
          refine x_get (x := .int (v 69 2)) hE hK hP 69 (Nat.lt_of_lt_of_le (by decide) hNN) (xG_5 rfl) rfl hin5 2 (by decide) mw_451 rfl dX8_paste_35 ?_
          refine x_top (y := iI (z79)) ez79 ?_
          refine s_if_lt (a := z79) (tgt := 49) hE.1 hE.2.1 (by omega) dX8_paste_38 (by decide) (fun c80 => ?_) (fun c80 => ?_)
          · skip
            refine lv_bipush (v := iI (-6)) hE.1 hE.2.1 dX8_paste_49 (by decide) ?_
            exact kr _ _ _ _ _ _ _ _ rfl ⟨⟨-6, by omega, rfl⟩, hI, fun i j h => rfl⟩ hP hS dX8_paste_51
          · skip
            refine lv_aload hE.1 hE.2.1 dX8_paste_41 (lv_at hl 0 rfl) ?_
            obtain ⟨z81, hz81, ez81⟩ := XI_get hI 71 2 (-1) 60 (by decide)
            refine x_get (x := .int (v 71 2)) hE hK hP 71 (Nat.lt_of_lt_of_le (by decide) hNN) (xG_5 rfl) rfl hin5 2 (by decide) mw_451 rfl dX8_paste_43 ?_
            refine x_top (y := iI (z81)) ez81 ?_
            refine s_if_ge (a := z81) (tgt := 52) hE.1 hE.2.1 (by omega) dX8_paste_46 (by decide) (fun c82 => ?_) (fun c82 => ?_)
            · skip
              refine lv_aload hE.1 hE.2.1 dX8_paste_52 (lv_at hl 1 rfl) ?_
              obtain ⟨z83, hz83, ez83⟩ := iI_of (v 69 1)
              refine x_get (x := .int (v 69 1)) hE hK hP 69 (Nat.lt_of_lt_of_le (by decide) hNN) (xG_5 rfl) rfl hin5 1 (by decide) mw_448 rfl dX8_paste_54 ?_
              refine x_top (y := iI (z83)) ez83 ?_
              refine lv_aload hE.1 hE.2.1 dX8_paste_57 (lv_at hl 0 rfl) ?_
              obtain ⟨z84, hz84, ez84⟩ := iI_of (v 71 1)
              refine x_get (x := .int (v 71 1)) hE hK hP 71 (Nat.lt_of_lt_of_le (by decide) hNN) (xG_5 rfl) rfl hin5 1 (by decide) mw_448 rfl dX8_paste_59 ?_
              refine x_top (y := iI (z84)) ez84 ?_
              refine s_icmp_eq (a := z83) (b := z84) (tgt := 68) hE.1 hE.2.1 (by omega) (by omega) dX8_paste_62 (by decide) (fun c85 => ?_) (fun c85 => ?_)
              · skip
                refine lv_aload hE.1 hE.2.1 dX8_paste_68 (lv_at hl 1 rfl) ?_
                refine lv_iload_n hE.1 hE.2.1 dX8_paste_70 rfl (lv_at hl 4 rfl) ?_
                refine lv_iload hE.1 hE.2.1 dX8_paste_71 (lv_at hl 7 rfl) ?_
                refine x_vp (nn := 2) (As := [.int (iI (z_2)), .int (iI (z_5))]) (rest := []) hE (s_X5_holds_69 l D K ad mm N hNN v ar al hI  (z_2) (by omega) (z_5) (by omega)) wPre_blind (wPre_now hK hN hP) (x_recv hK hP 69 (Nat.lt_of_lt_of_le (by decide) hNN) (xG_5 rfl) rfl) rfl mw_1322 mw_1323 mw_1324 mw_121 mw_1325 (by decide +kernel) ⟨by decide, by decide⟩ hl.1 rfl (Nat.le_of_ble_eq_true rfl) ⟨Nat.zero_le _, Nat.zero_le _⟩ dX8_paste_73 (fun r86 hr86 => ?_)
                obtain ⟨z86, hz86, rfl⟩ := hr86
                refine s_if_eq (a := z86) (tgt := 91) hE.1 hE.2.1 (by omega) dX8_paste_76 (by decide) (fun c87 => ?_) (fun c87 => ?_)
                · skip
                  refine lv_bipush (v := iI (-7)) hE.1 hE.2.1 dX8_paste_91 (by decide) ?_
                  exact kr _ _ _ _ _ _ _ _ rfl ⟨⟨-7, by omega, rfl⟩, hI, fun i j h => rfl⟩ hP hS dX8_paste_93
                · skip
                  refine lv_aload hE.1 hE.2.1 dX8_paste_79 (lv_at hl 0 rfl) ?_
                  refine lv_iload hE.1 hE.2.1 dX8_paste_81 (lv_at hl 6 rfl) ?_
                  refine lv_iload hE.1 hE.2.1 dX8_paste_83 (lv_at hl 7 rfl) ?_
                  refine x_vp (nn := 2) (As := [.int (iI (z_4)), .int (iI (z_5))]) (rest := []) hE (s_X5_holds_71 l D K ad mm N hNN v ar al hI  (z_4) (by omega) (z_5) (by omega)) wPre_blind (wPre_now hK hN hP) (x_recv hK hP 71 (Nat.lt_of_lt_of_le (by decide) hNN) (xG_5 rfl) rfl) rfl mw_1322 mw_1323 mw_1324 mw_121 mw_1325 (by decide +kernel) ⟨by decide, by decide⟩ hl.1 rfl (Nat.le_of_ble_eq_true rfl) ⟨Nat.zero_le _, Nat.zero_le _⟩ dX8_paste_85 (fun r88 hr88 => ?_)
                  obtain ⟨z88, hz88, rfl⟩ := hr88
                  refine s_if_ne (a := z88) (tgt := 94) hE.1 hE.2.1 (by omega) dX8_paste_88 (by decide) (fun c89 => ?_) (fun c89 => ?_)
                  · skip
                    refine lv_iload hE.1 hE.2.1 dX8_paste_94 (lv_at hl 7 rfl) ?_
                    refine s_if_le (a := z_5) (tgt := 117) hE.1 hE.2.1 (by omega) dX8_paste_96 (by decide) (fun c90 => ?_) (fun c90 => ?_)
                    · skip
                      refine lv_iconst (v := iI (0)) hE.1 hE.2.1 dX8_paste_117 (by decide) ?_
                      exact kr _ _ _ _ _ _ _ _ rfl ⟨⟨0, by omega, rfl⟩, hI, fun i j h => rfl⟩ hP hS dX8_paste_118
                    · skip
                      refine lv_aload hE.1 hE.2.1 dX8_paste_99 (lv_at hl 1 rfl) ?_
                      refine x_get (x := .ref (ad 70)) hE hK hP 69 (Nat.lt_of_lt_of_le (by decide) hNN) (xG_5 rfl) rfl hin5 0 (by decide) mw_446 rfl dX8_paste_101 ?_
                      refine lv_iload_n hE.1 hE.2.1 dX8_paste_104 rfl (lv_at hl 4 rfl) ?_
                      refine lv_aload hE.1 hE.2.1 dX8_paste_105 (lv_at hl 0 rfl) ?_
                      refine x_get (x := .ref (ad 72)) hE hK hP 71 (Nat.lt_of_lt_of_le (by decide) hNN) (xG_5 rfl) rfl hin5 0 (by decide) mw_446 rfl dX8_paste_107 ?_
                      refine lv_iload hE.1 hE.2.1 dX8_paste_110 (lv_at hl 6 rfl) ?_
                      refine lv_iload hE.1 hE.2.1 dX8_paste_112 (lv_at hl 7 rfl) ?_
                      refine x_copyl (rest := []) (sp := iI (z_2)) (dp := iI (z_4)) (n := iI (z_5)) (n0 := 60) (n1 := 60) hE hl.1 hK hN hP hS mw_1326 mw_680 mw_679 mw_130 70 72 (Nat.lt_of_lt_of_le (by decide) hNN) (Nat.lt_of_lt_of_le (by decide) hNN) (xG_11 rfl) (fun _ => xG_11 rfl) (iI_nn (by omega)) (iI_nn (by omega)) (iI_nn (by omega)) (iI_cc (by omega)) (iI_cc (by omega)) (by decide) (by decide) dX8_paste_114 (fun al91 H locs ha91 hP hS => ?_)
                      refine lv_iconst (v := iI (0)) hE.1 hE.2.1 dX8_paste_117 (by decide) ?_
                      exact kr _ _ _ _ _ _ _ _ rfl ⟨⟨0, by omega, rfl⟩, hI, fun i j h => rfl⟩ hP hS dX8_paste_118
                  · skip
                    refine lv_bipush (v := iI (-7)) hE.1 hE.2.1 dX8_paste_91 (by decide) ?_
                    exact kr _ _ _ _ _ _ _ _ rfl ⟨⟨-7, by omega, rfl⟩, hI, fun i j h => rfl⟩ hP hS dX8_paste_93
              · skip
                refine lv_bipush (v := iI (-8)) hE.1 hE.2.1 dX8_paste_65 (by decide) ?_
                exact kr _ _ _ _ _ _ _ _ rfl ⟨⟨-8, by omega, rfl⟩, hI, fun i j h => rfl⟩ hP hS dX8_paste_67
            · skip
              refine lv_bipush (v := iI (-6)) hE.1 hE.2.1 dX8_paste_49 (by decide) ?_
              exact kr _ _ _ _ _ _ _ _ rfl ⟨⟨-6, by omega, rfl⟩, hI, fun i j h => rfl⟩ hP hS dX8_paste_51
        · skip
          refine x_aald (r := .ref (ad 73)) hE hK hP 65 4 (Nat.lt_of_lt_of_le (by decide) hNN) (xG_13 rfl) rfl (by unfold vp_in; decide) rfl dX8_paste_30 ?_
          refine lv_astore (lv' := [(7, .ref (ad 73)), (6, .ref (ad 69)), (0, .ref (ad 0)), (1, .int (iI (1))), (2, .int (iI (z_2))), (3, .int (iI (3))), (4, .int (iI (z_4))), (5, .int (iI (z_5)))]) hE.1 hE.2.1 dX8_paste_31 hl (by decide) rfl (fun ls hl => ?_)
          refine lv_aload hE.1 hE.2.1 dX8_paste_33 (lv_at hl 1 rfl) ?_
          obtain ⟨z92, hz92, ez92⟩ := XI_get hI 69 2 (-1) 60 (by decide)
          refine x_get (x := .int (v 69 2)) hE hK hP 69 (Nat.lt_of_lt_of_le (by decide) hNN) (xG_5 rfl) rfl hin5 2 (by decide) mw_451 rfl dX8_paste_35 ?_
          refine x_top (y := iI (z92)) ez92 ?_
          refine s_if_lt (a := z92) (tgt := 49) hE.1 hE.2.1 (by omega) dX8_paste_38 (by decide) (fun c93 => ?_) (fun c93 => ?_)
          · skip
            refine lv_bipush (v := iI (-6)) hE.1 hE.2.1 dX8_paste_49 (by decide) ?_
            exact kr _ _ _ _ _ _ _ _ rfl ⟨⟨-6, by omega, rfl⟩, hI, fun i j h => rfl⟩ hP hS dX8_paste_51
          · skip
            refine lv_aload hE.1 hE.2.1 dX8_paste_41 (lv_at hl 0 rfl) ?_
            obtain ⟨z94, hz94, ez94⟩ := XI_get hI 73 2 (-1) 60 (by decide)
            refine x_get (x := .int (v 73 2)) hE hK hP 73 (Nat.lt_of_lt_of_le (by decide) hNN) (xG_5 rfl) rfl hin5 2 (by decide) mw_451 rfl dX8_paste_43 ?_
            refine x_top (y := iI (z94)) ez94 ?_
            refine s_if_ge (a := z94) (tgt := 52) hE.1 hE.2.1 (by omega) dX8_paste_46 (by decide) (fun c95 => ?_) (fun c95 => ?_)
            · skip
              refine lv_aload hE.1 hE.2.1 dX8_paste_52 (lv_at hl 1 rfl) ?_
              obtain ⟨z96, hz96, ez96⟩ := iI_of (v 69 1)
              refine x_get (x := .int (v 69 1)) hE hK hP 69 (Nat.lt_of_lt_of_le (by decide) hNN) (xG_5 rfl) rfl hin5 1 (by decide) mw_448 rfl dX8_paste_54 ?_
              refine x_top (y := iI (z96)) ez96 ?_
              refine lv_aload hE.1 hE.2.1 dX8_paste_57 (lv_at hl 0 rfl) ?_
              obtain ⟨z97, hz97, ez97⟩ := iI_of (v 73 1)
              refine x_get (x := .int (v 73 1)) hE hK hP 73 (Nat.lt_of_lt_of_le (by decide) hNN) (xG_5 rfl) rfl hin5 1 (by decide) mw_448 rfl dX8_paste_59 ?_
              refine x_top (y := iI (z97)) ez97 ?_
              refine s_icmp_eq (a := z96) (b := z97) (tgt := 68) hE.1 hE.2.1 (by omega) (by omega) dX8_paste_62 (by decide) (fun c98 => ?_) (fun c98 => ?_)
              · skip
                refine lv_aload hE.1 hE.2.1 dX8_paste_68 (lv_at hl 1 rfl) ?_
                refine lv_iload_n hE.1 hE.2.1 dX8_paste_70 rfl (lv_at hl 4 rfl) ?_
                refine lv_iload hE.1 hE.2.1 dX8_paste_71 (lv_at hl 7 rfl) ?_
                refine x_vp (nn := 2) (As := [.int (iI (z_2)), .int (iI (z_5))]) (rest := []) hE (s_X5_holds_69 l D K ad mm N hNN v ar al hI  (z_2) (by omega) (z_5) (by omega)) wPre_blind (wPre_now hK hN hP) (x_recv hK hP 69 (Nat.lt_of_lt_of_le (by decide) hNN) (xG_5 rfl) rfl) rfl mw_1322 mw_1323 mw_1324 mw_121 mw_1325 (by decide +kernel) ⟨by decide, by decide⟩ hl.1 rfl (Nat.le_of_ble_eq_true rfl) ⟨Nat.zero_le _, Nat.zero_le _⟩ dX8_paste_73 (fun r99 hr99 => ?_)
                obtain ⟨z99, hz99, rfl⟩ := hr99
                refine s_if_eq (a := z99) (tgt := 91) hE.1 hE.2.1 (by omega) dX8_paste_76 (by decide) (fun c100 => ?_) (fun c100 => ?_)
                · skip
                  refine lv_bipush (v := iI (-7)) hE.1 hE.2.1 dX8_paste_91 (by decide) ?_
                  exact kr _ _ _ _ _ _ _ _ rfl ⟨⟨-7, by omega, rfl⟩, hI, fun i j h => rfl⟩ hP hS dX8_paste_93
                · skip
                  refine lv_aload hE.1 hE.2.1 dX8_paste_79 (lv_at hl 0 rfl) ?_
                  refine lv_iload hE.1 hE.2.1 dX8_paste_81 (lv_at hl 6 rfl) ?_
                  refine lv_iload hE.1 hE.2.1 dX8_paste_83 (lv_at hl 7 rfl) ?_
                  refine x_vp (nn := 2) (As := [.int (iI (z_4)), .int (iI (z_5))]) (rest := []) hE (s_X5_holds_73 l D K ad mm N hNN v ar al hI  (z_4) (by omega) (z_5) (by omega)) wPre_blind (wPre_now hK hN hP) (x_recv hK hP 73 (Nat.lt_of_lt_of_le (by decide) hNN) (xG_5 rfl) rfl) rfl mw_1322 mw_1323 mw_1324 mw_121 mw_1325 (by decide +kernel) ⟨by decide, by decide⟩ hl.1 rfl (Nat.le_of_ble_eq_true rfl) ⟨Nat.zero_le _, Nat.zero_le _⟩ dX8_paste_85 (fun r101 hr101 => ?_)
                  obtain ⟨z101, hz101, rfl⟩ := hr101
                  refine s_if_ne (a := z101) (tgt := 94) hE.1 hE.2.1 (by omega) dX8_paste_88 (by decide) (fun c102 => ?_) (fun c102 => ?_)
                  · skip
                    refine lv_iload hE.1 hE.2.1 dX8_paste_94 (lv_at hl 7 rfl) ?_
                    refine s_if_le (a := z_5) (tgt := 117) hE.1 hE.2.1 (by omega) dX8_paste_96 (by decide) (fun c103 => ?_) (fun c103 => ?_)
                    · skip
                      refine lv_iconst (v := iI (0)) hE.1 hE.2.1 dX8_paste_117 (by decide) ?_
                      exact kr _ _ _ _ _ _ _ _ rfl ⟨⟨0, by omega, rfl⟩, hI, fun i j h => rfl⟩ hP hS dX8_paste_118
                    · skip
                      refine lv_aload hE.1 hE.2.1 dX8_paste_99 (lv_at hl 1 rfl) ?_
                      refine x_get (x := .ref (ad 70)) hE hK hP 69 (Nat.lt_of_lt_of_le (by decide) hNN) (xG_5 rfl) rfl hin5 0 (by decide) mw_446 rfl dX8_paste_101 ?_
                      refine lv_iload_n hE.1 hE.2.1 dX8_paste_104 rfl (lv_at hl 4 rfl) ?_
                      refine lv_aload hE.1 hE.2.1 dX8_paste_105 (lv_at hl 0 rfl) ?_
                      refine x_get (x := .ref (ad 74)) hE hK hP 73 (Nat.lt_of_lt_of_le (by decide) hNN) (xG_5 rfl) rfl hin5 0 (by decide) mw_446 rfl dX8_paste_107 ?_
                      refine lv_iload hE.1 hE.2.1 dX8_paste_110 (lv_at hl 6 rfl) ?_
                      refine lv_iload hE.1 hE.2.1 dX8_paste_112 (lv_at hl 7 rfl) ?_
                      refine x_copyl (rest := []) (sp := iI (z_2)) (dp := iI (z_4)) (n := iI (z_5)) (n0 := 60) (n1 := 60) hE hl.1 hK hN hP hS mw_1326 mw_680 mw_679 mw_130 70 74 (Nat.lt_of_lt_of_le (by decide) hNN) (Nat.lt_of_lt_of_le (by decide) hNN) (xG_11 rfl) (fun _ => xG_11 rfl) (iI_nn (by omega)) (iI_nn (by omega)) (iI_nn (by omega)) (iI_cc (by omega)) (iI_cc (by omega)) (by decide) (by decide) dX8_paste_114 (fun al104 H locs ha104 hP hS => ?_)
                      refine lv_iconst (v := iI (0)) hE.1 hE.2.1 dX8_paste_117 (by decide) ?_
                      exact kr _ _ _ _ _ _ _ _ rfl ⟨⟨0, by omega, rfl⟩, hI, fun i j h => rfl⟩ hP hS dX8_paste_118
                  · skip
                    refine lv_bipush (v := iI (-7)) hE.1 hE.2.1 dX8_paste_91 (by decide) ?_
                    exact kr _ _ _ _ _ _ _ _ rfl ⟨⟨-7, by omega, rfl⟩, hI, fun i j h => rfl⟩ hP hS dX8_paste_93
              · skip
                refine lv_bipush (v := iI (-8)) hE.1 hE.2.1 dX8_paste_65 (by decide) ?_
                exact kr _ _ _ _ _ _ _ _ rfl ⟨⟨-8, by omega, rfl⟩, hI, fun i j h => rfl⟩ hP hS dX8_paste_67
            · skip
              refine lv_bipush (v := iI (-6)) hE.1 hE.2.1 dX8_paste_49 (by decide) ?_
              exact kr _ _ _ _ _ _ _ _ rfl ⟨⟨-6, by omega, rfl⟩, hI, fun i j h => rfl⟩ hP hS dX8_paste_51
      · skip
        refine x_aald (r := .ref (ad 71)) hE hK hP 65 4 (Nat.lt_of_lt_of_le (by decide) hNN) (xG_13 rfl) rfl (by unfold vp_in; decide) rfl dX8_paste_22 ?_
        refine lv_astore (lv' := [(6, .ref (ad 71)), (0, .ref (ad 0)), (1, .int (iI (2))), (2, .int (iI (z_2))), (3, .int (iI (z_3))), (4, .int (iI (z_4))), (5, .int (iI (z_5)))]) hE.1 hE.2.1 dX8_paste_23 hl (by decide) rfl (fun ls hl => ?_)
        refine lv_aload_n hE.1 hE.2.1 dX8_paste_25 rfl (lv_at hl 1 rfl) ?_
        refine x_get (x := .ref (ad 65)) hE hK hP 0 (Nat.lt_of_lt_of_le (by decide) hNN) (xG_8 rfl) rfl hin8 8 (by decide) mw_488 rfl dX8_paste_26 ?_
        refine lv_iload_n hE.1 hE.2.1 dX8_paste_29 rfl (lv_at hl 4 rfl) ?_
        rcases (show z_3 = 0 ∨ z_3 = 1 ∨ z_3 = 2 ∨ z_3 = 3 by omega) with rfl | rfl | rfl | rfl
        · skip
          refine x_aald (r := .ref (ad 67)) hE hK hP 65 4 (Nat.lt_of_lt_of_le (by decide) hNN) (xG_13 rfl) rfl (by unfold vp_in; decide) rfl dX8_paste_30 ?_
          refine lv_astore (lv' := [(7, .ref (ad 67)), (6, .ref (ad 71)), (0, .ref (ad 0)), (1, .int (iI (2))), (2, .int (iI (z_2))), (3, .int (iI (0))), (4, .int (iI (z_4))), (5, .int (iI (z_5)))]) hE.1 hE.2.1 dX8_paste_31 hl (by decide) rfl (fun ls hl => ?_)
          refine lv_aload hE.1 hE.2.1 dX8_paste_33 (lv_at hl 1 rfl) ?_
          obtain ⟨z105, hz105, ez105⟩ := XI_get hI 71 2 (-1) 60 (by decide)
          refine x_get (x := .int (v 71 2)) hE hK hP 71 (Nat.lt_of_lt_of_le (by decide) hNN) (xG_5 rfl) rfl hin5 2 (by decide) mw_451 rfl dX8_paste_35 ?_
          refine x_top (y := iI (z105)) ez105 ?_
          refine s_if_lt (a := z105) (tgt := 49) hE.1 hE.2.1 (by omega) dX8_paste_38 (by decide) (fun c106 => ?_) (fun c106 => ?_)
          · skip
            refine lv_bipush (v := iI (-6)) hE.1 hE.2.1 dX8_paste_49 (by decide) ?_
            exact kr _ _ _ _ _ _ _ _ rfl ⟨⟨-6, by omega, rfl⟩, hI, fun i j h => rfl⟩ hP hS dX8_paste_51
          · skip
            refine lv_aload hE.1 hE.2.1 dX8_paste_41 (lv_at hl 0 rfl) ?_
            obtain ⟨z107, hz107, ez107⟩ := XI_get hI 67 2 (-1) 60 (by decide)
            refine x_get (x := .int (v 67 2)) hE hK hP 67 (Nat.lt_of_lt_of_le (by decide) hNN) (xG_5 rfl) rfl hin5 2 (by decide) mw_451 rfl dX8_paste_43 ?_
            refine x_top (y := iI (z107)) ez107 ?_
            refine s_if_ge (a := z107) (tgt := 52) hE.1 hE.2.1 (by omega) dX8_paste_46 (by decide) (fun c108 => ?_) (fun c108 => ?_)
            · skip
              refine lv_aload hE.1 hE.2.1 dX8_paste_52 (lv_at hl 1 rfl) ?_
              obtain ⟨z109, hz109, ez109⟩ := iI_of (v 71 1)
              refine x_get (x := .int (v 71 1)) hE hK hP 71 (Nat.lt_of_lt_of_le (by decide) hNN) (xG_5 rfl) rfl hin5 1 (by decide) mw_448 rfl dX8_paste_54 ?_
              refine x_top (y := iI (z109)) ez109 ?_
              refine lv_aload hE.1 hE.2.1 dX8_paste_57 (lv_at hl 0 rfl) ?_
              obtain ⟨z110, hz110, ez110⟩ := iI_of (v 67 1)
              refine x_get (x := .int (v 67 1)) hE hK hP 67 (Nat.lt_of_lt_of_le (by decide) hNN) (xG_5 rfl) rfl hin5 1 (by decide) mw_448 rfl dX8_paste_59 ?_
              refine x_top (y := iI (z110)) ez110 ?_
              refine s_icmp_eq (a := z109) (b := z110) (tgt := 68) hE.1 hE.2.1 (by omega) (by omega) dX8_paste_62 (by decide) (fun c111 => ?_) (fun c111 => ?_)
              · skip
                refine lv_aload hE.1 hE.2.1 dX8_paste_68 (lv_at hl 1 rfl) ?_
                refine lv_iload_n hE.1 hE.2.1 dX8_paste_70 rfl (lv_at hl 4 rfl) ?_
                refine lv_iload hE.1 hE.2.1 dX8_paste_71 (lv_at hl 7 rfl) ?_
                refine x_vp (nn := 2) (As := [.int (iI (z_2)), .int (iI (z_5))]) (rest := []) hE (s_X5_holds_71 l D K ad mm N hNN v ar al hI  (z_2) (by omega) (z_5) (by omega)) wPre_blind (wPre_now hK hN hP) (x_recv hK hP 71 (Nat.lt_of_lt_of_le (by decide) hNN) (xG_5 rfl) rfl) rfl mw_1322 mw_1323 mw_1324 mw_121 mw_1325 (by decide +kernel) ⟨by decide, by decide⟩ hl.1 rfl (Nat.le_of_ble_eq_true rfl) ⟨Nat.zero_le _, Nat.zero_le _⟩ dX8_paste_73 (fun r112 hr112 => ?_)
                obtain ⟨z112, hz112, rfl⟩ := hr112
                refine s_if_eq (a := z112) (tgt := 91) hE.1 hE.2.1 (by omega) dX8_paste_76 (by decide) (fun c113 => ?_) (fun c113 => ?_)
                · skip
                  refine lv_bipush (v := iI (-7)) hE.1 hE.2.1 dX8_paste_91 (by decide) ?_
                  exact kr _ _ _ _ _ _ _ _ rfl ⟨⟨-7, by omega, rfl⟩, hI, fun i j h => rfl⟩ hP hS dX8_paste_93
                · skip
                  refine lv_aload hE.1 hE.2.1 dX8_paste_79 (lv_at hl 0 rfl) ?_
                  refine lv_iload hE.1 hE.2.1 dX8_paste_81 (lv_at hl 6 rfl) ?_
                  refine lv_iload hE.1 hE.2.1 dX8_paste_83 (lv_at hl 7 rfl) ?_
                  refine x_vp (nn := 2) (As := [.int (iI (z_4)), .int (iI (z_5))]) (rest := []) hE (s_X5_holds_67 l D K ad mm N hNN v ar al hI  (z_4) (by omega) (z_5) (by omega)) wPre_blind (wPre_now hK hN hP) (x_recv hK hP 67 (Nat.lt_of_lt_of_le (by decide) hNN) (xG_5 rfl) rfl) rfl mw_1322 mw_1323 mw_1324 mw_121 mw_1325 (by decide +kernel) ⟨by decide, by decide⟩ hl.1 rfl (Nat.le_of_ble_eq_true rfl) ⟨Nat.zero_le _, Nat.zero_le _⟩ dX8_paste_85 (fun r114 hr114 => ?_)
                  obtain ⟨z114, hz114, rfl⟩ := hr114
                  refine s_if_ne (a := z114) (tgt := 94) hE.1 hE.2.1 (by omega) dX8_paste_88 (by decide) (fun c115 => ?_) (fun c115 => ?_)
                  · skip
                    refine lv_iload hE.1 hE.2.1 dX8_paste_94 (lv_at hl 7 rfl) ?_
                    refine s_if_le (a := z_5) (tgt := 117) hE.1 hE.2.1 (by omega) dX8_paste_96 (by decide) (fun c116 => ?_) (fun c116 => ?_)
                    · skip
                      refine lv_iconst (v := iI (0)) hE.1 hE.2.1 dX8_paste_117 (by decide) ?_
                      exact kr _ _ _ _ _ _ _ _ rfl ⟨⟨0, by omega, rfl⟩, hI, fun i j h => rfl⟩ hP hS dX8_paste_118
                    · skip
                      refine lv_aload hE.1 hE.2.1 dX8_paste_99 (lv_at hl 1 rfl) ?_
                      refine x_get (x := .ref (ad 72)) hE hK hP 71 (Nat.lt_of_lt_of_le (by decide) hNN) (xG_5 rfl) rfl hin5 0 (by decide) mw_446 rfl dX8_paste_101 ?_
                      refine lv_iload_n hE.1 hE.2.1 dX8_paste_104 rfl (lv_at hl 4 rfl) ?_
                      refine lv_aload hE.1 hE.2.1 dX8_paste_105 (lv_at hl 0 rfl) ?_
                      refine x_get (x := .ref (ad 68)) hE hK hP 67 (Nat.lt_of_lt_of_le (by decide) hNN) (xG_5 rfl) rfl hin5 0 (by decide) mw_446 rfl dX8_paste_107 ?_
                      refine lv_iload hE.1 hE.2.1 dX8_paste_110 (lv_at hl 6 rfl) ?_
                      refine lv_iload hE.1 hE.2.1 dX8_paste_112 (lv_at hl 7 rfl) ?_
                      refine x_copyl (rest := []) (sp := iI (z_2)) (dp := iI (z_4)) (n := iI (z_5)) (n0 := 60) (n1 := 60) hE hl.1 hK hN hP hS mw_1326 mw_680 mw_679 mw_130 72 68 (Nat.lt_of_lt_of_le (by decide) hNN) (Nat.lt_of_lt_of_le (by decide) hNN) (xG_11 rfl) (fun _ => xG_11 rfl) (iI_nn (by omega)) (iI_nn (by omega)) (iI_nn (by omega)) (iI_cc (by omega)) (iI_cc (by omega)) (by decide) (by decide) dX8_paste_114 (fun al117 H locs ha117 hP hS => ?_)
                      refine lv_iconst (v := iI (0)) hE.1 hE.2.1 dX8_paste_117 (by decide) ?_
                      exact kr _ _ _ _ _ _ _ _ rfl ⟨⟨0, by omega, rfl⟩, hI, fun i j h => rfl⟩ hP hS dX8_paste_118
                  · skip
                    refine lv_bipush (v := iI (-7)) hE.1 hE.2.1 dX8_paste_91 (by decide) ?_
                    exact kr _ _ _ _ _ _ _ _ rfl ⟨⟨-7, by omega, rfl⟩, hI, fun i j h => rfl⟩ hP hS dX8_paste_93
              · skip
                refine lv_bipush (v := iI (-8)) hE.1 hE.2.1 dX8_paste_65 (by decide) ?_
                exact kr _ _ _ _ _ _ _ _ rfl ⟨⟨-8, by omega, rfl⟩, hI, fun i j h => rfl⟩ hP hS dX8_paste_67
            · skip
              refine lv_bipush (v := iI (-6)) hE.1 hE.2.1 dX8_paste_49 (by decide) ?_
              exact kr _ _ _ _ _ _ _ _ rfl ⟨⟨-6, by omega, rfl⟩, hI, fun i j h => rfl⟩ hP hS dX8_paste_51
        · skip
          refine x_aald (r := .ref (ad 69)) hE hK hP 65 4 (Nat.lt_of_lt_of_le (by decide) hNN) (xG_13 rfl) rfl (by unfold vp_in; decide) rfl dX8_paste_30 ?_
          refine lv_astore (lv' := [(7, .ref (ad 69)), (6, .ref (ad 71)), (0, .ref (ad 0)), (1, .int (iI (2))), (2, .int (iI (z_2))), (3, .int (iI (1))), (4, .int (iI (z_4))), (5, .int (iI (z_5)))]) hE.1 hE.2.1 dX8_paste_31 hl (by decide) rfl (fun ls hl => ?_)
          refine lv_aload hE.1 hE.2.1 dX8_paste_33 (lv_at hl 1 rfl) ?_
          obtain ⟨z118, hz118, ez118⟩ := XI_get hI 71 2 (-1) 60 (by decide)
          refine x_get (x := .int (v 71 2)) hE hK hP 71 (Nat.lt_of_lt_of_le (by decide) hNN) (xG_5 rfl) rfl hin5 2 (by decide) mw_451 rfl dX8_paste_35 ?_
          refine x_top (y := iI (z118)) ez118 ?_
          refine s_if_lt (a := z118) (tgt := 49) hE.1 hE.2.1 (by omega) dX8_paste_38 (by decide) (fun c119 => ?_) (fun c119 => ?_)
          · skip
            refine lv_bipush (v := iI (-6)) hE.1 hE.2.1 dX8_paste_49 (by decide) ?_
            exact kr _ _ _ _ _ _ _ _ rfl ⟨⟨-6, by omega, rfl⟩, hI, fun i j h => rfl⟩ hP hS dX8_paste_51
          · skip
            refine lv_aload hE.1 hE.2.1 dX8_paste_41 (lv_at hl 0 rfl) ?_
            obtain ⟨z120, hz120, ez120⟩ := XI_get hI 69 2 (-1) 60 (by decide)
            refine x_get (x := .int (v 69 2)) hE hK hP 69 (Nat.lt_of_lt_of_le (by decide) hNN) (xG_5 rfl) rfl hin5 2 (by decide) mw_451 rfl dX8_paste_43 ?_
            refine x_top (y := iI (z120)) ez120 ?_
            refine s_if_ge (a := z120) (tgt := 52) hE.1 hE.2.1 (by omega) dX8_paste_46 (by decide) (fun c121 => ?_) (fun c121 => ?_)
            · skip
              refine lv_aload hE.1 hE.2.1 dX8_paste_52 (lv_at hl 1 rfl) ?_
              obtain ⟨z122, hz122, ez122⟩ := iI_of (v 71 1)
              refine x_get (x := .int (v 71 1)) hE hK hP 71 (Nat.lt_of_lt_of_le (by decide) hNN) (xG_5 rfl) rfl hin5 1 (by decide) mw_448 rfl dX8_paste_54 ?_
              refine x_top (y := iI (z122)) ez122 ?_
              refine lv_aload hE.1 hE.2.1 dX8_paste_57 (lv_at hl 0 rfl) ?_
              obtain ⟨z123, hz123, ez123⟩ := iI_of (v 69 1)
              refine x_get (x := .int (v 69 1)) hE hK hP 69 (Nat.lt_of_lt_of_le (by decide) hNN) (xG_5 rfl) rfl hin5 1 (by decide) mw_448 rfl dX8_paste_59 ?_
              refine x_top (y := iI (z123)) ez123 ?_
              refine s_icmp_eq (a := z122) (b := z123) (tgt := 68) hE.1 hE.2.1 (by omega) (by omega) dX8_paste_62 (by decide) (fun c124 => ?_) (fun c124 => ?_)
              · skip
                refine lv_aload hE.1 hE.2.1 dX8_paste_68 (lv_at hl 1 rfl) ?_
                refine lv_iload_n hE.1 hE.2.1 dX8_paste_70 rfl (lv_at hl 4 rfl) ?_
                refine lv_iload hE.1 hE.2.1 dX8_paste_71 (lv_at hl 7 rfl) ?_
                refine x_vp (nn := 2) (As := [.int (iI (z_2)), .int (iI (z_5))]) (rest := []) hE (s_X5_holds_71 l D K ad mm N hNN v ar al hI  (z_2) (by omega) (z_5) (by omega)) wPre_blind (wPre_now hK hN hP) (x_recv hK hP 71 (Nat.lt_of_lt_of_le (by decide) hNN) (xG_5 rfl) rfl) rfl mw_1322 mw_1323 mw_1324 mw_121 mw_1325 (by decide +kernel) ⟨by decide, by decide⟩ hl.1 rfl (Nat.le_of_ble_eq_true rfl) ⟨Nat.zero_le _, Nat.zero_le _⟩ dX8_paste_73 (fun r125 hr125 => ?_)
                obtain ⟨z125, hz125, rfl⟩ := hr125
                refine s_if_eq (a := z125) (tgt := 91) hE.1 hE.2.1 (by omega) dX8_paste_76 (by decide) (fun c126 => ?_) (fun c126 => ?_)
                · skip
                  refine lv_bipush (v := iI (-7)) hE.1 hE.2.1 dX8_paste_91 (by decide) ?_
                  exact kr _ _ _ _ _ _ _ _ rfl ⟨⟨-7, by omega, rfl⟩, hI, fun i j h => rfl⟩ hP hS dX8_paste_93
                · skip
                  refine lv_aload hE.1 hE.2.1 dX8_paste_79 (lv_at hl 0 rfl) ?_
                  refine lv_iload hE.1 hE.2.1 dX8_paste_81 (lv_at hl 6 rfl) ?_
                  refine lv_iload hE.1 hE.2.1 dX8_paste_83 (lv_at hl 7 rfl) ?_
                  refine x_vp (nn := 2) (As := [.int (iI (z_4)), .int (iI (z_5))]) (rest := []) hE (s_X5_holds_69 l D K ad mm N hNN v ar al hI  (z_4) (by omega) (z_5) (by omega)) wPre_blind (wPre_now hK hN hP) (x_recv hK hP 69 (Nat.lt_of_lt_of_le (by decide) hNN) (xG_5 rfl) rfl) rfl mw_1322 mw_1323 mw_1324 mw_121 mw_1325 (by decide +kernel) ⟨by decide, by decide⟩ hl.1 rfl (Nat.le_of_ble_eq_true rfl) ⟨Nat.zero_le _, Nat.zero_le _⟩ dX8_paste_85 (fun r127 hr127 => ?_)
                  obtain ⟨z127, hz127, rfl⟩ := hr127
                  refine s_if_ne (a := z127) (tgt := 94) hE.1 hE.2.1 (by omega) dX8_paste_88 (by decide) (fun c128 => ?_) (fun c128 => ?_)
                  · skip
                    refine lv_iload hE.1 hE.2.1 dX8_paste_94 (lv_at hl 7 rfl) ?_
                    refine s_if_le (a := z_5) (tgt := 117) hE.1 hE.2.1 (by omega) dX8_paste_96 (by decide) (fun c129 => ?_) (fun c129 => ?_)
                    · skip
                      refine lv_iconst (v := iI (0)) hE.1 hE.2.1 dX8_paste_117 (by decide) ?_
                      exact kr _ _ _ _ _ _ _ _ rfl ⟨⟨0, by omega, rfl⟩, hI, fun i j h => rfl⟩ hP hS dX8_paste_118
                    · skip
                      refine lv_aload hE.1 hE.2.1 dX8_paste_99 (lv_at hl 1 rfl) ?_
                      refine x_get (x := .ref (ad 72)) hE hK hP 71 (Nat.lt_of_lt_of_le (by decide) hNN) (xG_5 rfl) rfl hin5 0 (by decide) mw_446 rfl dX8_paste_101 ?_
                      refine lv_iload_n hE.1 hE.2.1 dX8_paste_104 rfl (lv_at hl 4 rfl) ?_
                      refine lv_aload hE.1 hE.2.1 dX8_paste_105 (lv_at hl 0 rfl) ?_
                      refine x_get (x := .ref (ad 70)) hE hK hP 69 (Nat.lt_of_lt_of_le (by decide) hNN) (xG_5 rfl) rfl hin5 0 (by decide) mw_446 rfl dX8_paste_107 ?_
                      refine lv_iload hE.1 hE.2.1 dX8_paste_110 (lv_at hl 6 rfl) ?_
                      refine lv_iload hE.1 hE.2.1 dX8_paste_112 (lv_at hl 7 rfl) ?_
                      refine x_copyl (rest := []) (sp := iI (z_2)) (dp := iI (z_4)) (n := iI (z_5)) (n0 := 60) (n1 := 60) hE hl.1 hK hN hP hS mw_1326 mw_680 mw_679 mw_130 72 70 (Nat.lt_of_lt_of_le (by decide) hNN) (Nat.lt_of_lt_of_le (by decide) hNN) (xG_11 rfl) (fun _ => xG_11 rfl) (iI_nn (by omega)) (iI_nn (by omega)) (iI_nn (by omega)) (iI_cc (by omega)) (iI_cc (by omega)) (by decide) (by decide) dX8_paste_114 (fun al130 H locs ha130 hP hS => ?_)
                      refine lv_iconst (v := iI (0)) hE.1 hE.2.1 dX8_paste_117 (by decide) ?_
                      exact kr _ _ _ _ _ _ _ _ rfl ⟨⟨0, by omega, rfl⟩, hI, fun i j h => rfl⟩ hP hS dX8_paste_118
                  · skip
                    refine lv_bipush (v := iI (-7)) hE.1 hE.2.1 dX8_paste_91 (by decide) ?_
                    exact kr _ _ _ _ _ _ _ _ rfl ⟨⟨-7, by omega, rfl⟩, hI, fun i j h => rfl⟩ hP hS dX8_paste_93
              · skip
                refine lv_bipush (v := iI (-8)) hE.1 hE.2.1 dX8_paste_65 (by decide) ?_
                exact kr _ _ _ _ _ _ _ _ rfl ⟨⟨-8, by omega, rfl⟩, hI, fun i j h => rfl⟩ hP hS dX8_paste_67
            · skip
              refine lv_bipush (v := iI (-6)) hE.1 hE.2.1 dX8_paste_49 (by decide) ?_
              exact kr _ _ _ _ _ _ _ _ rfl ⟨⟨-6, by omega, rfl⟩, hI, fun i j h => rfl⟩ hP hS dX8_paste_51
        · skip
          refine x_aald (r := .ref (ad 71)) hE hK hP 65 4 (Nat.lt_of_lt_of_le (by decide) hNN) (xG_13 rfl) rfl (by unfold vp_in; decide) rfl dX8_paste_30 ?_
          refine lv_astore (lv' := [(7, .ref (ad 71)), (6, .ref (ad 71)), (0, .ref (ad 0)), (1, .int (iI (2))), (2, .int (iI (z_2))), (3, .int (iI (2))), (4, .int (iI (z_4))), (5, .int (iI (z_5)))]) hE.1 hE.2.1 dX8_paste_31 hl (by decide) rfl (fun ls hl => ?_)
          refine lv_aload hE.1 hE.2.1 dX8_paste_33 (lv_at hl 1 rfl) ?_
          obtain ⟨z131, hz131, ez131⟩ := XI_get hI 71 2 (-1) 60 (by decide)
          refine x_get (x := .int (v 71 2)) hE hK hP 71 (Nat.lt_of_lt_of_le (by decide) hNN) (xG_5 rfl) rfl hin5 2 (by decide) mw_451 rfl dX8_paste_35 ?_
          refine x_top (y := iI (z131)) ez131 ?_
          refine s_if_lt (a := z131) (tgt := 49) hE.1 hE.2.1 (by omega) dX8_paste_38 (by decide) (fun c132 => ?_) (fun c132 => ?_)
          · skip
            refine lv_bipush (v := iI (-6)) hE.1 hE.2.1 dX8_paste_49 (by decide) ?_
            exact kr _ _ _ _ _ _ _ _ rfl ⟨⟨-6, by omega, rfl⟩, hI, fun i j h => rfl⟩ hP hS dX8_paste_51
          · skip
            refine lv_aload hE.1 hE.2.1 dX8_paste_41 (lv_at hl 0 rfl) ?_
            refine x_get (x := .int (v 71 2)) hE hK hP 71 (Nat.lt_of_lt_of_le (by decide) hNN) (xG_5 rfl) rfl hin5 2 (by decide) mw_451 rfl dX8_paste_43 ?_
            refine x_top (y := iI (z131)) ez131 ?_
            refine s_if_ge (a := z131) (tgt := 52) hE.1 hE.2.1 (by omega) dX8_paste_46 (by decide) (fun _ => ?_) (fun c133 => False.elim (by omega))
            refine lv_aload hE.1 hE.2.1 dX8_paste_52 (lv_at hl 1 rfl) ?_
            obtain ⟨z134, hz134, ez134⟩ := iI_of (v 71 1)
            refine x_get (x := .int (v 71 1)) hE hK hP 71 (Nat.lt_of_lt_of_le (by decide) hNN) (xG_5 rfl) rfl hin5 1 (by decide) mw_448 rfl dX8_paste_54 ?_
            refine x_top (y := iI (z134)) ez134 ?_
            refine lv_aload hE.1 hE.2.1 dX8_paste_57 (lv_at hl 0 rfl) ?_
            refine x_get (x := .int (v 71 1)) hE hK hP 71 (Nat.lt_of_lt_of_le (by decide) hNN) (xG_5 rfl) rfl hin5 1 (by decide) mw_448 rfl dX8_paste_59 ?_
            refine x_top (y := iI (z134)) ez134 ?_
            refine s_icmp_eq (a := z134) (b := z134) (tgt := 68) hE.1 hE.2.1 (by omega) (by omega) dX8_paste_62 (by decide) (fun _ => ?_) (fun c135 => False.elim (by omega))
            refine lv_aload hE.1 hE.2.1 dX8_paste_68 (lv_at hl 1 rfl) ?_
            refine lv_iload_n hE.1 hE.2.1 dX8_paste_70 rfl (lv_at hl 4 rfl) ?_
            refine lv_iload hE.1 hE.2.1 dX8_paste_71 (lv_at hl 7 rfl) ?_
            refine x_vp (nn := 2) (As := [.int (iI (z_2)), .int (iI (z_5))]) (rest := []) hE (s_X5_holds_71 l D K ad mm N hNN v ar al hI  (z_2) (by omega) (z_5) (by omega)) wPre_blind (wPre_now hK hN hP) (x_recv hK hP 71 (Nat.lt_of_lt_of_le (by decide) hNN) (xG_5 rfl) rfl) rfl mw_1322 mw_1323 mw_1324 mw_121 mw_1325 (by decide +kernel) ⟨by decide, by decide⟩ hl.1 rfl (Nat.le_of_ble_eq_true rfl) ⟨Nat.zero_le _, Nat.zero_le _⟩ dX8_paste_73 (fun r136 hr136 => ?_)
            obtain ⟨z136, hz136, rfl⟩ := hr136
            refine s_if_eq (a := z136) (tgt := 91) hE.1 hE.2.1 (by omega) dX8_paste_76 (by decide) (fun c137 => ?_) (fun c137 => ?_)
            · skip
              refine lv_bipush (v := iI (-7)) hE.1 hE.2.1 dX8_paste_91 (by decide) ?_
              exact kr _ _ _ _ _ _ _ _ rfl ⟨⟨-7, by omega, rfl⟩, hI, fun i j h => rfl⟩ hP hS dX8_paste_93
            · skip
              refine lv_aload hE.1 hE.2.1 dX8_paste_79 (lv_at hl 0 rfl) ?_
              refine lv_iload hE.1 hE.2.1 dX8_paste_81 (lv_at hl 6 rfl) ?_
              refine lv_iload hE.1 hE.2.1 dX8_paste_83 (lv_at hl 7 rfl) ?_
              refine x_vp (nn := 2) (As := [.int (iI (z_4)), .int (iI (z_5))]) (rest := []) hE (s_X5_holds_71 l D K ad mm N hNN v ar al hI  (z_4) (by omega) (z_5) (by omega)) wPre_blind (wPre_now hK hN hP) (x_recv hK hP 71 (Nat.lt_of_lt_of_le (by decide) hNN) (xG_5 rfl) rfl) rfl mw_1322 mw_1323 mw_1324 mw_121 mw_1325 (by decide +kernel) ⟨by decide, by decide⟩ hl.1 rfl (Nat.le_of_ble_eq_true rfl) ⟨Nat.zero_le _, Nat.zero_le _⟩ dX8_paste_85 (fun r138 hr138 => ?_)
              obtain ⟨z138, hz138, rfl⟩ := hr138
              refine s_if_ne (a := z138) (tgt := 94) hE.1 hE.2.1 (by omega) dX8_paste_88 (by decide) (fun c139 => ?_) (fun c139 => ?_)
              · skip
                refine lv_iload hE.1 hE.2.1 dX8_paste_94 (lv_at hl 7 rfl) ?_
                refine s_if_le (a := z_5) (tgt := 117) hE.1 hE.2.1 (by omega) dX8_paste_96 (by decide) (fun c140 => ?_) (fun c140 => ?_)
                · skip
                  refine lv_iconst (v := iI (0)) hE.1 hE.2.1 dX8_paste_117 (by decide) ?_
                  exact kr _ _ _ _ _ _ _ _ rfl ⟨⟨0, by omega, rfl⟩, hI, fun i j h => rfl⟩ hP hS dX8_paste_118
                · skip
                  refine lv_aload hE.1 hE.2.1 dX8_paste_99 (lv_at hl 1 rfl) ?_
                  refine x_get (x := .ref (ad 72)) hE hK hP 71 (Nat.lt_of_lt_of_le (by decide) hNN) (xG_5 rfl) rfl hin5 0 (by decide) mw_446 rfl dX8_paste_101 ?_
                  refine lv_iload_n hE.1 hE.2.1 dX8_paste_104 rfl (lv_at hl 4 rfl) ?_
                  refine lv_aload hE.1 hE.2.1 dX8_paste_105 (lv_at hl 0 rfl) ?_
                  refine x_get (x := .ref (ad 72)) hE hK hP 71 (Nat.lt_of_lt_of_le (by decide) hNN) (xG_5 rfl) rfl hin5 0 (by decide) mw_446 rfl dX8_paste_107 ?_
                  refine lv_iload hE.1 hE.2.1 dX8_paste_110 (lv_at hl 6 rfl) ?_
                  refine lv_iload hE.1 hE.2.1 dX8_paste_112 (lv_at hl 7 rfl) ?_
                  refine x_copyl (rest := []) (sp := iI (z_2)) (dp := iI (z_4)) (n := iI (z_5)) (n0 := 60) (n1 := 60) hE hl.1 hK hN hP hS mw_1326 mw_680 mw_679 mw_130 72 72 (Nat.lt_of_lt_of_le (by decide) hNN) (Nat.lt_of_lt_of_le (by decide) hNN) (xG_11 rfl) (fun _ => xG_11 rfl) (iI_nn (by omega)) (iI_nn (by omega)) (iI_nn (by omega)) (iI_cc (by omega)) (iI_cc (by omega)) (by decide) (by decide) dX8_paste_114 (fun al141 H locs ha141 hP hS => ?_)
                  refine lv_iconst (v := iI (0)) hE.1 hE.2.1 dX8_paste_117 (by decide) ?_
                  exact kr _ _ _ _ _ _ _ _ rfl ⟨⟨0, by omega, rfl⟩, hI, fun i j h => rfl⟩ hP hS dX8_paste_118
              · skip
                refine lv_bipush (v := iI (-7)) hE.1 hE.2.1 dX8_paste_91 (by decide) ?_
                exact kr _ _ _ _ _ _ _ _ rfl ⟨⟨-7, by omega, rfl⟩, hI, fun i j h => rfl⟩ hP hS dX8_paste_93
        · skip
          refine x_aald (r := .ref (ad 73)) hE hK hP 65 4 (Nat.lt_of_lt_of_le (by decide) hNN) (xG_13 rfl) rfl (by unfold vp_in; decide) rfl dX8_paste_30 ?_
          refine lv_astore (lv' := [(7, .ref (ad 73)), (6, .ref (ad 71)), (0, .ref (ad 0)), (1, .int (iI (2))), (2, .int (iI (z_2))), (3, .int (iI (3))), (4, .int (iI (z_4))), (5, .int (iI (z_5)))]) hE.1 hE.2.1 dX8_paste_31 hl (by decide) rfl (fun ls hl => ?_)
          refine lv_aload hE.1 hE.2.1 dX8_paste_33 (lv_at hl 1 rfl) ?_
          obtain ⟨z142, hz142, ez142⟩ := XI_get hI 71 2 (-1) 60 (by decide)
          refine x_get (x := .int (v 71 2)) hE hK hP 71 (Nat.lt_of_lt_of_le (by decide) hNN) (xG_5 rfl) rfl hin5 2 (by decide) mw_451 rfl dX8_paste_35 ?_
          refine x_top (y := iI (z142)) ez142 ?_
          refine s_if_lt (a := z142) (tgt := 49) hE.1 hE.2.1 (by omega) dX8_paste_38 (by decide) (fun c143 => ?_) (fun c143 => ?_)
          · skip
            refine lv_bipush (v := iI (-6)) hE.1 hE.2.1 dX8_paste_49 (by decide) ?_
            exact kr _ _ _ _ _ _ _ _ rfl ⟨⟨-6, by omega, rfl⟩, hI, fun i j h => rfl⟩ hP hS dX8_paste_51
          · skip
            refine lv_aload hE.1 hE.2.1 dX8_paste_41 (lv_at hl 0 rfl) ?_
            obtain ⟨z144, hz144, ez144⟩ := XI_get hI 73 2 (-1) 60 (by decide)
            refine x_get (x := .int (v 73 2)) hE hK hP 73 (Nat.lt_of_lt_of_le (by decide) hNN) (xG_5 rfl) rfl hin5 2 (by decide) mw_451 rfl dX8_paste_43 ?_
            refine x_top (y := iI (z144)) ez144 ?_
            refine s_if_ge (a := z144) (tgt := 52) hE.1 hE.2.1 (by omega) dX8_paste_46 (by decide) (fun c145 => ?_) (fun c145 => ?_)
            · skip
              refine lv_aload hE.1 hE.2.1 dX8_paste_52 (lv_at hl 1 rfl) ?_
              obtain ⟨z146, hz146, ez146⟩ := iI_of (v 71 1)
              refine x_get (x := .int (v 71 1)) hE hK hP 71 (Nat.lt_of_lt_of_le (by decide) hNN) (xG_5 rfl) rfl hin5 1 (by decide) mw_448 rfl dX8_paste_54 ?_
              refine x_top (y := iI (z146)) ez146 ?_
              refine lv_aload hE.1 hE.2.1 dX8_paste_57 (lv_at hl 0 rfl) ?_
              obtain ⟨z147, hz147, ez147⟩ := iI_of (v 73 1)
              refine x_get (x := .int (v 73 1)) hE hK hP 73 (Nat.lt_of_lt_of_le (by decide) hNN) (xG_5 rfl) rfl hin5 1 (by decide) mw_448 rfl dX8_paste_59 ?_
              refine x_top (y := iI (z147)) ez147 ?_
              refine s_icmp_eq (a := z146) (b := z147) (tgt := 68) hE.1 hE.2.1 (by omega) (by omega) dX8_paste_62 (by decide) (fun c148 => ?_) (fun c148 => ?_)
              · skip
                refine lv_aload hE.1 hE.2.1 dX8_paste_68 (lv_at hl 1 rfl) ?_
                refine lv_iload_n hE.1 hE.2.1 dX8_paste_70 rfl (lv_at hl 4 rfl) ?_
                refine lv_iload hE.1 hE.2.1 dX8_paste_71 (lv_at hl 7 rfl) ?_
                refine x_vp (nn := 2) (As := [.int (iI (z_2)), .int (iI (z_5))]) (rest := []) hE (s_X5_holds_71 l D K ad mm N hNN v ar al hI  (z_2) (by omega) (z_5) (by omega)) wPre_blind (wPre_now hK hN hP) (x_recv hK hP 71 (Nat.lt_of_lt_of_le (by decide) hNN) (xG_5 rfl) rfl) rfl mw_1322 mw_1323 mw_1324 mw_121 mw_1325 (by decide +kernel) ⟨by decide, by decide⟩ hl.1 rfl (Nat.le_of_ble_eq_true rfl) ⟨Nat.zero_le _, Nat.zero_le _⟩ dX8_paste_73 (fun r149 hr149 => ?_)
                obtain ⟨z149, hz149, rfl⟩ := hr149
                refine s_if_eq (a := z149) (tgt := 91) hE.1 hE.2.1 (by omega) dX8_paste_76 (by decide) (fun c150 => ?_) (fun c150 => ?_)
                · skip
                  refine lv_bipush (v := iI (-7)) hE.1 hE.2.1 dX8_paste_91 (by decide) ?_
                  exact kr _ _ _ _ _ _ _ _ rfl ⟨⟨-7, by omega, rfl⟩, hI, fun i j h => rfl⟩ hP hS dX8_paste_93
                · skip
                  refine lv_aload hE.1 hE.2.1 dX8_paste_79 (lv_at hl 0 rfl) ?_
                  refine lv_iload hE.1 hE.2.1 dX8_paste_81 (lv_at hl 6 rfl) ?_
                  refine lv_iload hE.1 hE.2.1 dX8_paste_83 (lv_at hl 7 rfl) ?_
                  refine x_vp (nn := 2) (As := [.int (iI (z_4)), .int (iI (z_5))]) (rest := []) hE (s_X5_holds_73 l D K ad mm N hNN v ar al hI  (z_4) (by omega) (z_5) (by omega)) wPre_blind (wPre_now hK hN hP) (x_recv hK hP 73 (Nat.lt_of_lt_of_le (by decide) hNN) (xG_5 rfl) rfl) rfl mw_1322 mw_1323 mw_1324 mw_121 mw_1325 (by decide +kernel) ⟨by decide, by decide⟩ hl.1 rfl (Nat.le_of_ble_eq_true rfl) ⟨Nat.zero_le _, Nat.zero_le _⟩ dX8_paste_85 (fun r151 hr151 => ?_)
                  obtain ⟨z151, hz151, rfl⟩ := hr151
                  refine s_if_ne (a := z151) (tgt := 94) hE.1 hE.2.1 (by omega) dX8_paste_88 (by decide) (fun c152 => ?_) (fun c152 => ?_)
                  · skip
                    refine lv_iload hE.1 hE.2.1 dX8_paste_94 (lv_at hl 7 rfl) ?_
                    refine s_if_le (a := z_5) (tgt := 117) hE.1 hE.2.1 (by omega) dX8_paste_96 (by decide) (fun c153 => ?_) (fun c153 => ?_)
                    · skip
                      refine lv_iconst (v := iI (0)) hE.1 hE.2.1 dX8_paste_117 (by decide) ?_
                      exact kr _ _ _ _ _ _ _ _ rfl ⟨⟨0, by omega, rfl⟩, hI, fun i j h => rfl⟩ hP hS dX8_paste_118
                    · skip
                      refine lv_aload hE.1 hE.2.1 dX8_paste_99 (lv_at hl 1 rfl) ?_
                      refine x_get (x := .ref (ad 72)) hE hK hP 71 (Nat.lt_of_lt_of_le (by decide) hNN) (xG_5 rfl) rfl hin5 0 (by decide) mw_446 rfl dX8_paste_101 ?_
                      refine lv_iload_n hE.1 hE.2.1 dX8_paste_104 rfl (lv_at hl 4 rfl) ?_
                      refine lv_aload hE.1 hE.2.1 dX8_paste_105 (lv_at hl 0 rfl) ?_
                      refine x_get (x := .ref (ad 74)) hE hK hP 73 (Nat.lt_of_lt_of_le (by decide) hNN) (xG_5 rfl) rfl hin5 0 (by decide) mw_446 rfl dX8_paste_107 ?_
                      refine lv_iload hE.1 hE.2.1 dX8_paste_110 (lv_at hl 6 rfl) ?_
                      refine lv_iload hE.1 hE.2.1 dX8_paste_112 (lv_at hl 7 rfl) ?_
                      refine x_copyl (rest := []) (sp := iI (z_2)) (dp := iI (z_4)) (n := iI (z_5)) (n0 := 60) (n1 := 60) hE hl.1 hK hN hP hS mw_1326 mw_680 mw_679 mw_130 72 74 (Nat.lt_of_lt_of_le (by decide) hNN) (Nat.lt_of_lt_of_le (by decide) hNN) (xG_11 rfl) (fun _ => xG_11 rfl) (iI_nn (by omega)) (iI_nn (by omega)) (iI_nn (by omega)) (iI_cc (by omega)) (iI_cc (by omega)) (by decide) (by decide) dX8_paste_114 (fun al154 H locs ha154 hP hS => ?_)
                      refine lv_iconst (v := iI (0)) hE.1 hE.2.1 dX8_paste_117 (by decide) ?_
                      exact kr _ _ _ _ _ _ _ _ rfl ⟨⟨0, by omega, rfl⟩, hI, fun i j h => rfl⟩ hP hS dX8_paste_118
                  · skip
                    refine lv_bipush (v := iI (-7)) hE.1 hE.2.1 dX8_paste_91 (by decide) ?_
                    exact kr _ _ _ _ _ _ _ _ rfl ⟨⟨-7, by omega, rfl⟩, hI, fun i j h => rfl⟩ hP hS dX8_paste_93
              · skip
                refine lv_bipush (v := iI (-8)) hE.1 hE.2.1 dX8_paste_65 (by decide) ?_
                exact kr _ _ _ _ _ _ _ _ rfl ⟨⟨-8, by omega, rfl⟩, hI, fun i j h => rfl⟩ hP hS dX8_paste_67
            · skip
              refine lv_bipush (v := iI (-6)) hE.1 hE.2.1 dX8_paste_49 (by decide) ?_
              exact kr _ _ _ _ _ _ _ _ rfl ⟨⟨-6, by omega, rfl⟩, hI, fun i j h => rfl⟩ hP hS dX8_paste_51
      · skip
        refine x_aald (r := .ref (ad 73)) hE hK hP 65 4 (Nat.lt_of_lt_of_le (by decide) hNN) (xG_13 rfl) rfl (by unfold vp_in; decide) rfl dX8_paste_22 ?_
        refine lv_astore (lv' := [(6, .ref (ad 73)), (0, .ref (ad 0)), (1, .int (iI (3))), (2, .int (iI (z_2))), (3, .int (iI (z_3))), (4, .int (iI (z_4))), (5, .int (iI (z_5)))]) hE.1 hE.2.1 dX8_paste_23 hl (by decide) rfl (fun ls hl => ?_)
        refine lv_aload_n hE.1 hE.2.1 dX8_paste_25 rfl (lv_at hl 1 rfl) ?_
        refine x_get (x := .ref (ad 65)) hE hK hP 0 (Nat.lt_of_lt_of_le (by decide) hNN) (xG_8 rfl) rfl hin8 8 (by decide) mw_488 rfl dX8_paste_26 ?_
        refine lv_iload_n hE.1 hE.2.1 dX8_paste_29 rfl (lv_at hl 4 rfl) ?_
        rcases (show z_3 = 0 ∨ z_3 = 1 ∨ z_3 = 2 ∨ z_3 = 3 by omega) with rfl | rfl | rfl | rfl
        · skip
          refine x_aald (r := .ref (ad 67)) hE hK hP 65 4 (Nat.lt_of_lt_of_le (by decide) hNN) (xG_13 rfl) rfl (by unfold vp_in; decide) rfl dX8_paste_30 ?_
          refine lv_astore (lv' := [(7, .ref (ad 67)), (6, .ref (ad 73)), (0, .ref (ad 0)), (1, .int (iI (3))), (2, .int (iI (z_2))), (3, .int (iI (0))), (4, .int (iI (z_4))), (5, .int (iI (z_5)))]) hE.1 hE.2.1 dX8_paste_31 hl (by decide) rfl (fun ls hl => ?_)
          refine lv_aload hE.1 hE.2.1 dX8_paste_33 (lv_at hl 1 rfl) ?_
          obtain ⟨z155, hz155, ez155⟩ := XI_get hI 73 2 (-1) 60 (by decide)
          refine x_get (x := .int (v 73 2)) hE hK hP 73 (Nat.lt_of_lt_of_le (by decide) hNN) (xG_5 rfl) rfl hin5 2 (by decide) mw_451 rfl dX8_paste_35 ?_
          refine x_top (y := iI (z155)) ez155 ?_
          refine s_if_lt (a := z155) (tgt := 49) hE.1 hE.2.1 (by omega) dX8_paste_38 (by decide) (fun c156 => ?_) (fun c156 => ?_)
          · skip
            refine lv_bipush (v := iI (-6)) hE.1 hE.2.1 dX8_paste_49 (by decide) ?_
            exact kr _ _ _ _ _ _ _ _ rfl ⟨⟨-6, by omega, rfl⟩, hI, fun i j h => rfl⟩ hP hS dX8_paste_51
          · skip
            refine lv_aload hE.1 hE.2.1 dX8_paste_41 (lv_at hl 0 rfl) ?_
            obtain ⟨z157, hz157, ez157⟩ := XI_get hI 67 2 (-1) 60 (by decide)
            refine x_get (x := .int (v 67 2)) hE hK hP 67 (Nat.lt_of_lt_of_le (by decide) hNN) (xG_5 rfl) rfl hin5 2 (by decide) mw_451 rfl dX8_paste_43 ?_
            refine x_top (y := iI (z157)) ez157 ?_
            refine s_if_ge (a := z157) (tgt := 52) hE.1 hE.2.1 (by omega) dX8_paste_46 (by decide) (fun c158 => ?_) (fun c158 => ?_)
            · skip
              refine lv_aload hE.1 hE.2.1 dX8_paste_52 (lv_at hl 1 rfl) ?_
              obtain ⟨z159, hz159, ez159⟩ := iI_of (v 73 1)
              refine x_get (x := .int (v 73 1)) hE hK hP 73 (Nat.lt_of_lt_of_le (by decide) hNN) (xG_5 rfl) rfl hin5 1 (by decide) mw_448 rfl dX8_paste_54 ?_
              refine x_top (y := iI (z159)) ez159 ?_
              refine lv_aload hE.1 hE.2.1 dX8_paste_57 (lv_at hl 0 rfl) ?_
              obtain ⟨z160, hz160, ez160⟩ := iI_of (v 67 1)
              refine x_get (x := .int (v 67 1)) hE hK hP 67 (Nat.lt_of_lt_of_le (by decide) hNN) (xG_5 rfl) rfl hin5 1 (by decide) mw_448 rfl dX8_paste_59 ?_
              refine x_top (y := iI (z160)) ez160 ?_
              refine s_icmp_eq (a := z159) (b := z160) (tgt := 68) hE.1 hE.2.1 (by omega) (by omega) dX8_paste_62 (by decide) (fun c161 => ?_) (fun c161 => ?_)
              · skip
                refine lv_aload hE.1 hE.2.1 dX8_paste_68 (lv_at hl 1 rfl) ?_
                refine lv_iload_n hE.1 hE.2.1 dX8_paste_70 rfl (lv_at hl 4 rfl) ?_
                refine lv_iload hE.1 hE.2.1 dX8_paste_71 (lv_at hl 7 rfl) ?_
                refine x_vp (nn := 2) (As := [.int (iI (z_2)), .int (iI (z_5))]) (rest := []) hE (s_X5_holds_73 l D K ad mm N hNN v ar al hI  (z_2) (by omega) (z_5) (by omega)) wPre_blind (wPre_now hK hN hP) (x_recv hK hP 73 (Nat.lt_of_lt_of_le (by decide) hNN) (xG_5 rfl) rfl) rfl mw_1322 mw_1323 mw_1324 mw_121 mw_1325 (by decide +kernel) ⟨by decide, by decide⟩ hl.1 rfl (Nat.le_of_ble_eq_true rfl) ⟨Nat.zero_le _, Nat.zero_le _⟩ dX8_paste_73 (fun r162 hr162 => ?_)
                obtain ⟨z162, hz162, rfl⟩ := hr162
                refine s_if_eq (a := z162) (tgt := 91) hE.1 hE.2.1 (by omega) dX8_paste_76 (by decide) (fun c163 => ?_) (fun c163 => ?_)
                · skip
                  refine lv_bipush (v := iI (-7)) hE.1 hE.2.1 dX8_paste_91 (by decide) ?_
                  exact kr _ _ _ _ _ _ _ _ rfl ⟨⟨-7, by omega, rfl⟩, hI, fun i j h => rfl⟩ hP hS dX8_paste_93
                · skip
                  refine lv_aload hE.1 hE.2.1 dX8_paste_79 (lv_at hl 0 rfl) ?_
                  refine lv_iload hE.1 hE.2.1 dX8_paste_81 (lv_at hl 6 rfl) ?_
                  refine lv_iload hE.1 hE.2.1 dX8_paste_83 (lv_at hl 7 rfl) ?_
                  refine x_vp (nn := 2) (As := [.int (iI (z_4)), .int (iI (z_5))]) (rest := []) hE (s_X5_holds_67 l D K ad mm N hNN v ar al hI  (z_4) (by omega) (z_5) (by omega)) wPre_blind (wPre_now hK hN hP) (x_recv hK hP 67 (Nat.lt_of_lt_of_le (by decide) hNN) (xG_5 rfl) rfl) rfl mw_1322 mw_1323 mw_1324 mw_121 mw_1325 (by decide +kernel) ⟨by decide, by decide⟩ hl.1 rfl (Nat.le_of_ble_eq_true rfl) ⟨Nat.zero_le _, Nat.zero_le _⟩ dX8_paste_85 (fun r164 hr164 => ?_)
                  obtain ⟨z164, hz164, rfl⟩ := hr164
                  refine s_if_ne (a := z164) (tgt := 94) hE.1 hE.2.1 (by omega) dX8_paste_88 (by decide) (fun c165 => ?_) (fun c165 => ?_)
                  · skip
                    refine lv_iload hE.1 hE.2.1 dX8_paste_94 (lv_at hl 7 rfl) ?_
                    refine s_if_le (a := z_5) (tgt := 117) hE.1 hE.2.1 (by omega) dX8_paste_96 (by decide) (fun c166 => ?_) (fun c166 => ?_)
                    · skip
                      refine lv_iconst (v := iI (0)) hE.1 hE.2.1 dX8_paste_117 (by decide) ?_
                      exact kr _ _ _ _ _ _ _ _ rfl ⟨⟨0, by omega, rfl⟩, hI, fun i j h => rfl⟩ hP hS dX8_paste_118
                    · skip
                      refine lv_aload hE.1 hE.2.1 dX8_paste_99 (lv_at hl 1 rfl) ?_
                      refine x_get (x := .ref (ad 74)) hE hK hP 73 (Nat.lt_of_lt_of_le (by decide) hNN) (xG_5 rfl) rfl hin5 0 (by decide) mw_446 rfl dX8_paste_101 ?_
                      refine lv_iload_n hE.1 hE.2.1 dX8_paste_104 rfl (lv_at hl 4 rfl) ?_
                      refine lv_aload hE.1 hE.2.1 dX8_paste_105 (lv_at hl 0 rfl) ?_
                      refine x_get (x := .ref (ad 68)) hE hK hP 67 (Nat.lt_of_lt_of_le (by decide) hNN) (xG_5 rfl) rfl hin5 0 (by decide) mw_446 rfl dX8_paste_107 ?_
                      refine lv_iload hE.1 hE.2.1 dX8_paste_110 (lv_at hl 6 rfl) ?_
                      refine lv_iload hE.1 hE.2.1 dX8_paste_112 (lv_at hl 7 rfl) ?_
                      refine x_copyl (rest := []) (sp := iI (z_2)) (dp := iI (z_4)) (n := iI (z_5)) (n0 := 60) (n1 := 60) hE hl.1 hK hN hP hS mw_1326 mw_680 mw_679 mw_130 74 68 (Nat.lt_of_lt_of_le (by decide) hNN) (Nat.lt_of_lt_of_le (by decide) hNN) (xG_11 rfl) (fun _ => xG_11 rfl) (iI_nn (by omega)) (iI_nn (by omega)) (iI_nn (by omega)) (iI_cc (by omega)) (iI_cc (by omega)) (by decide) (by decide) dX8_paste_114 (fun al167 H locs ha167 hP hS => ?_)
                      refine lv_iconst (v := iI (0)) hE.1 hE.2.1 dX8_paste_117 (by decide) ?_
                      exact kr _ _ _ _ _ _ _ _ rfl ⟨⟨0, by omega, rfl⟩, hI, fun i j h => rfl⟩ hP hS dX8_paste_118
                  · skip
                    refine lv_bipush (v := iI (-7)) hE.1 hE.2.1 dX8_paste_91 (by decide) ?_
                    exact kr _ _ _ _ _ _ _ _ rfl ⟨⟨-7, by omega, rfl⟩, hI, fun i j h => rfl⟩ hP hS dX8_paste_93
              · skip
                refine lv_bipush (v := iI (-8)) hE.1 hE.2.1 dX8_paste_65 (by decide) ?_
                exact kr _ _ _ _ _ _ _ _ rfl ⟨⟨-8, by omega, rfl⟩, hI, fun i j h => rfl⟩ hP hS dX8_paste_67
            · skip
              refine lv_bipush (v := iI (-6)) hE.1 hE.2.1 dX8_paste_49 (by decide) ?_
              exact kr _ _ _ _ _ _ _ _ rfl ⟨⟨-6, by omega, rfl⟩, hI, fun i j h => rfl⟩ hP hS dX8_paste_51
        · skip
          refine x_aald (r := .ref (ad 69)) hE hK hP 65 4 (Nat.lt_of_lt_of_le (by decide) hNN) (xG_13 rfl) rfl (by unfold vp_in; decide) rfl dX8_paste_30 ?_
          refine lv_astore (lv' := [(7, .ref (ad 69)), (6, .ref (ad 73)), (0, .ref (ad 0)), (1, .int (iI (3))), (2, .int (iI (z_2))), (3, .int (iI (1))), (4, .int (iI (z_4))), (5, .int (iI (z_5)))]) hE.1 hE.2.1 dX8_paste_31 hl (by decide) rfl (fun ls hl => ?_)
          refine lv_aload hE.1 hE.2.1 dX8_paste_33 (lv_at hl 1 rfl) ?_
          obtain ⟨z168, hz168, ez168⟩ := XI_get hI 73 2 (-1) 60 (by decide)
          refine x_get (x := .int (v 73 2)) hE hK hP 73 (Nat.lt_of_lt_of_le (by decide) hNN) (xG_5 rfl) rfl hin5 2 (by decide) mw_451 rfl dX8_paste_35 ?_
          refine x_top (y := iI (z168)) ez168 ?_
          refine s_if_lt (a := z168) (tgt := 49) hE.1 hE.2.1 (by omega) dX8_paste_38 (by decide) (fun c169 => ?_) (fun c169 => ?_)
          · skip
            refine lv_bipush (v := iI (-6)) hE.1 hE.2.1 dX8_paste_49 (by decide) ?_
            exact kr _ _ _ _ _ _ _ _ rfl ⟨⟨-6, by omega, rfl⟩, hI, fun i j h => rfl⟩ hP hS dX8_paste_51
          · skip
            refine lv_aload hE.1 hE.2.1 dX8_paste_41 (lv_at hl 0 rfl) ?_
            obtain ⟨z170, hz170, ez170⟩ := XI_get hI 69 2 (-1) 60 (by decide)
            refine x_get (x := .int (v 69 2)) hE hK hP 69 (Nat.lt_of_lt_of_le (by decide) hNN) (xG_5 rfl) rfl hin5 2 (by decide) mw_451 rfl dX8_paste_43 ?_
            refine x_top (y := iI (z170)) ez170 ?_
            refine s_if_ge (a := z170) (tgt := 52) hE.1 hE.2.1 (by omega) dX8_paste_46 (by decide) (fun c171 => ?_) (fun c171 => ?_)
            · skip
              refine lv_aload hE.1 hE.2.1 dX8_paste_52 (lv_at hl 1 rfl) ?_
              obtain ⟨z172, hz172, ez172⟩ := iI_of (v 73 1)
              refine x_get (x := .int (v 73 1)) hE hK hP 73 (Nat.lt_of_lt_of_le (by decide) hNN) (xG_5 rfl) rfl hin5 1 (by decide) mw_448 rfl dX8_paste_54 ?_
              refine x_top (y := iI (z172)) ez172 ?_
              refine lv_aload hE.1 hE.2.1 dX8_paste_57 (lv_at hl 0 rfl) ?_
              obtain ⟨z173, hz173, ez173⟩ := iI_of (v 69 1)
              refine x_get (x := .int (v 69 1)) hE hK hP 69 (Nat.lt_of_lt_of_le (by decide) hNN) (xG_5 rfl) rfl hin5 1 (by decide) mw_448 rfl dX8_paste_59 ?_
              refine x_top (y := iI (z173)) ez173 ?_
              refine s_icmp_eq (a := z172) (b := z173) (tgt := 68) hE.1 hE.2.1 (by omega) (by omega) dX8_paste_62 (by decide) (fun c174 => ?_) (fun c174 => ?_)
              · skip
                refine lv_aload hE.1 hE.2.1 dX8_paste_68 (lv_at hl 1 rfl) ?_
                refine lv_iload_n hE.1 hE.2.1 dX8_paste_70 rfl (lv_at hl 4 rfl) ?_
                refine lv_iload hE.1 hE.2.1 dX8_paste_71 (lv_at hl 7 rfl) ?_
                refine x_vp (nn := 2) (As := [.int (iI (z_2)), .int (iI (z_5))]) (rest := []) hE (s_X5_holds_73 l D K ad mm N hNN v ar al hI  (z_2) (by omega) (z_5) (by omega)) wPre_blind (wPre_now hK hN hP) (x_recv hK hP 73 (Nat.lt_of_lt_of_le (by decide) hNN) (xG_5 rfl) rfl) rfl mw_1322 mw_1323 mw_1324 mw_121 mw_1325 (by decide +kernel) ⟨by decide, by decide⟩ hl.1 rfl (Nat.le_of_ble_eq_true rfl) ⟨Nat.zero_le _, Nat.zero_le _⟩ dX8_paste_73 (fun r175 hr175 => ?_)
                obtain ⟨z175, hz175, rfl⟩ := hr175
                refine s_if_eq (a := z175) (tgt := 91) hE.1 hE.2.1 (by omega) dX8_paste_76 (by decide) (fun c176 => ?_) (fun c176 => ?_)
                · skip
                  refine lv_bipush (v := iI (-7)) hE.1 hE.2.1 dX8_paste_91 (by decide) ?_
                  exact kr _ _ _ _ _ _ _ _ rfl ⟨⟨-7, by omega, rfl⟩, hI, fun i j h => rfl⟩ hP hS dX8_paste_93
                · skip
                  refine lv_aload hE.1 hE.2.1 dX8_paste_79 (lv_at hl 0 rfl) ?_
                  refine lv_iload hE.1 hE.2.1 dX8_paste_81 (lv_at hl 6 rfl) ?_
                  refine lv_iload hE.1 hE.2.1 dX8_paste_83 (lv_at hl 7 rfl) ?_
                  refine x_vp (nn := 2) (As := [.int (iI (z_4)), .int (iI (z_5))]) (rest := []) hE (s_X5_holds_69 l D K ad mm N hNN v ar al hI  (z_4) (by omega) (z_5) (by omega)) wPre_blind (wPre_now hK hN hP) (x_recv hK hP 69 (Nat.lt_of_lt_of_le (by decide) hNN) (xG_5 rfl) rfl) rfl mw_1322 mw_1323 mw_1324 mw_121 mw_1325 (by decide +kernel) ⟨by decide, by decide⟩ hl.1 rfl (Nat.le_of_ble_eq_true rfl) ⟨Nat.zero_le _, Nat.zero_le _⟩ dX8_paste_85 (fun r177 hr177 => ?_)
                  obtain ⟨z177, hz177, rfl⟩ := hr177
                  refine s_if_ne (a := z177) (tgt := 94) hE.1 hE.2.1 (by omega) dX8_paste_88 (by decide) (fun c178 => ?_) (fun c178 => ?_)
                  · skip
                    refine lv_iload hE.1 hE.2.1 dX8_paste_94 (lv_at hl 7 rfl) ?_
                    refine s_if_le (a := z_5) (tgt := 117) hE.1 hE.2.1 (by omega) dX8_paste_96 (by decide) (fun c179 => ?_) (fun c179 => ?_)
                    · skip
                      refine lv_iconst (v := iI (0)) hE.1 hE.2.1 dX8_paste_117 (by decide) ?_
                      exact kr _ _ _ _ _ _ _ _ rfl ⟨⟨0, by omega, rfl⟩, hI, fun i j h => rfl⟩ hP hS dX8_paste_118
                    · skip
                      refine lv_aload hE.1 hE.2.1 dX8_paste_99 (lv_at hl 1 rfl) ?_
                      refine x_get (x := .ref (ad 74)) hE hK hP 73 (Nat.lt_of_lt_of_le (by decide) hNN) (xG_5 rfl) rfl hin5 0 (by decide) mw_446 rfl dX8_paste_101 ?_
                      refine lv_iload_n hE.1 hE.2.1 dX8_paste_104 rfl (lv_at hl 4 rfl) ?_
                      refine lv_aload hE.1 hE.2.1 dX8_paste_105 (lv_at hl 0 rfl) ?_
                      refine x_get (x := .ref (ad 70)) hE hK hP 69 (Nat.lt_of_lt_of_le (by decide) hNN) (xG_5 rfl) rfl hin5 0 (by decide) mw_446 rfl dX8_paste_107 ?_
                      refine lv_iload hE.1 hE.2.1 dX8_paste_110 (lv_at hl 6 rfl) ?_
                      refine lv_iload hE.1 hE.2.1 dX8_paste_112 (lv_at hl 7 rfl) ?_
                      refine x_copyl (rest := []) (sp := iI (z_2)) (dp := iI (z_4)) (n := iI (z_5)) (n0 := 60) (n1 := 60) hE hl.1 hK hN hP hS mw_1326 mw_680 mw_679 mw_130 74 70 (Nat.lt_of_lt_of_le (by decide) hNN) (Nat.lt_of_lt_of_le (by decide) hNN) (xG_11 rfl) (fun _ => xG_11 rfl) (iI_nn (by omega)) (iI_nn (by omega)) (iI_nn (by omega)) (iI_cc (by omega)) (iI_cc (by omega)) (by decide) (by decide) dX8_paste_114 (fun al180 H locs ha180 hP hS => ?_)
                      refine lv_iconst (v := iI (0)) hE.1 hE.2.1 dX8_paste_117 (by decide) ?_
                      exact kr _ _ _ _ _ _ _ _ rfl ⟨⟨0, by omega, rfl⟩, hI, fun i j h => rfl⟩ hP hS dX8_paste_118
                  · skip
                    refine lv_bipush (v := iI (-7)) hE.1 hE.2.1 dX8_paste_91 (by decide) ?_
                    exact kr _ _ _ _ _ _ _ _ rfl ⟨⟨-7, by omega, rfl⟩, hI, fun i j h => rfl⟩ hP hS dX8_paste_93
              · skip
                refine lv_bipush (v := iI (-8)) hE.1 hE.2.1 dX8_paste_65 (by decide) ?_
                exact kr _ _ _ _ _ _ _ _ rfl ⟨⟨-8, by omega, rfl⟩, hI, fun i j h => rfl⟩ hP hS dX8_paste_67
            · skip
              refine lv_bipush (v := iI (-6)) hE.1 hE.2.1 dX8_paste_49 (by decide) ?_
              exact kr _ _ _ _ _ _ _ _ rfl ⟨⟨-6, by omega, rfl⟩, hI, fun i j h => rfl⟩ hP hS dX8_paste_51
        · skip
          refine x_aald (r := .ref (ad 71)) hE hK hP 65 4 (Nat.lt_of_lt_of_le (by decide) hNN) (xG_13 rfl) rfl (by unfold vp_in; decide) rfl dX8_paste_30 ?_
          refine lv_astore (lv' := [(7, .ref (ad 71)), (6, .ref (ad 73)), (0, .ref (ad 0)), (1, .int (iI (3))), (2, .int (iI (z_2))), (3, .int (iI (2))), (4, .int (iI (z_4))), (5, .int (iI (z_5)))]) hE.1 hE.2.1 dX8_paste_31 hl (by decide) rfl (fun ls hl => ?_)
          refine lv_aload hE.1 hE.2.1 dX8_paste_33 (lv_at hl 1 rfl) ?_
          obtain ⟨z181, hz181, ez181⟩ := XI_get hI 73 2 (-1) 60 (by decide)
          refine x_get (x := .int (v 73 2)) hE hK hP 73 (Nat.lt_of_lt_of_le (by decide) hNN) (xG_5 rfl) rfl hin5 2 (by decide) mw_451 rfl dX8_paste_35 ?_
          refine x_top (y := iI (z181)) ez181 ?_
          refine s_if_lt (a := z181) (tgt := 49) hE.1 hE.2.1 (by omega) dX8_paste_38 (by decide) (fun c182 => ?_) (fun c182 => ?_)
          · skip
            refine lv_bipush (v := iI (-6)) hE.1 hE.2.1 dX8_paste_49 (by decide) ?_
            exact kr _ _ _ _ _ _ _ _ rfl ⟨⟨-6, by omega, rfl⟩, hI, fun i j h => rfl⟩ hP hS dX8_paste_51
          · skip
            refine lv_aload hE.1 hE.2.1 dX8_paste_41 (lv_at hl 0 rfl) ?_
            obtain ⟨z183, hz183, ez183⟩ := XI_get hI 71 2 (-1) 60 (by decide)
            refine x_get (x := .int (v 71 2)) hE hK hP 71 (Nat.lt_of_lt_of_le (by decide) hNN) (xG_5 rfl) rfl hin5 2 (by decide) mw_451 rfl dX8_paste_43 ?_
            refine x_top (y := iI (z183)) ez183 ?_
            refine s_if_ge (a := z183) (tgt := 52) hE.1 hE.2.1 (by omega) dX8_paste_46 (by decide) (fun c184 => ?_) (fun c184 => ?_)
            · skip
              refine lv_aload hE.1 hE.2.1 dX8_paste_52 (lv_at hl 1 rfl) ?_
              obtain ⟨z185, hz185, ez185⟩ := iI_of (v 73 1)
              refine x_get (x := .int (v 73 1)) hE hK hP 73 (Nat.lt_of_lt_of_le (by decide) hNN) (xG_5 rfl) rfl hin5 1 (by decide) mw_448 rfl dX8_paste_54 ?_
              refine x_top (y := iI (z185)) ez185 ?_
              refine lv_aload hE.1 hE.2.1 dX8_paste_57 (lv_at hl 0 rfl) ?_
              obtain ⟨z186, hz186, ez186⟩ := iI_of (v 71 1)
              refine x_get (x := .int (v 71 1)) hE hK hP 71 (Nat.lt_of_lt_of_le (by decide) hNN) (xG_5 rfl) rfl hin5 1 (by decide) mw_448 rfl dX8_paste_59 ?_
              refine x_top (y := iI (z186)) ez186 ?_
              refine s_icmp_eq (a := z185) (b := z186) (tgt := 68) hE.1 hE.2.1 (by omega) (by omega) dX8_paste_62 (by decide) (fun c187 => ?_) (fun c187 => ?_)
              · skip
                refine lv_aload hE.1 hE.2.1 dX8_paste_68 (lv_at hl 1 rfl) ?_
                refine lv_iload_n hE.1 hE.2.1 dX8_paste_70 rfl (lv_at hl 4 rfl) ?_
                refine lv_iload hE.1 hE.2.1 dX8_paste_71 (lv_at hl 7 rfl) ?_
                refine x_vp (nn := 2) (As := [.int (iI (z_2)), .int (iI (z_5))]) (rest := []) hE (s_X5_holds_73 l D K ad mm N hNN v ar al hI  (z_2) (by omega) (z_5) (by omega)) wPre_blind (wPre_now hK hN hP) (x_recv hK hP 73 (Nat.lt_of_lt_of_le (by decide) hNN) (xG_5 rfl) rfl) rfl mw_1322 mw_1323 mw_1324 mw_121 mw_1325 (by decide +kernel) ⟨by decide, by decide⟩ hl.1 rfl (Nat.le_of_ble_eq_true rfl) ⟨Nat.zero_le _, Nat.zero_le _⟩ dX8_paste_73 (fun r188 hr188 => ?_)
                obtain ⟨z188, hz188, rfl⟩ := hr188
                refine s_if_eq (a := z188) (tgt := 91) hE.1 hE.2.1 (by omega) dX8_paste_76 (by decide) (fun c189 => ?_) (fun c189 => ?_)
                · skip
                  refine lv_bipush (v := iI (-7)) hE.1 hE.2.1 dX8_paste_91 (by decide) ?_
                  exact kr _ _ _ _ _ _ _ _ rfl ⟨⟨-7, by omega, rfl⟩, hI, fun i j h => rfl⟩ hP hS dX8_paste_93
                · skip
                  refine lv_aload hE.1 hE.2.1 dX8_paste_79 (lv_at hl 0 rfl) ?_
                  refine lv_iload hE.1 hE.2.1 dX8_paste_81 (lv_at hl 6 rfl) ?_
                  refine lv_iload hE.1 hE.2.1 dX8_paste_83 (lv_at hl 7 rfl) ?_
                  refine x_vp (nn := 2) (As := [.int (iI (z_4)), .int (iI (z_5))]) (rest := []) hE (s_X5_holds_71 l D K ad mm N hNN v ar al hI  (z_4) (by omega) (z_5) (by omega)) wPre_blind (wPre_now hK hN hP) (x_recv hK hP 71 (Nat.lt_of_lt_of_le (by decide) hNN) (xG_5 rfl) rfl) rfl mw_1322 mw_1323 mw_1324 mw_121 mw_1325 (by decide +kernel) ⟨by decide, by decide⟩ hl.1 rfl (Nat.le_of_ble_eq_true rfl) ⟨Nat.zero_le _, Nat.zero_le _⟩ dX8_paste_85 (fun r190 hr190 => ?_)
                  obtain ⟨z190, hz190, rfl⟩ := hr190
                  refine s_if_ne (a := z190) (tgt := 94) hE.1 hE.2.1 (by omega) dX8_paste_88 (by decide) (fun c191 => ?_) (fun c191 => ?_)
                  · skip
                    refine lv_iload hE.1 hE.2.1 dX8_paste_94 (lv_at hl 7 rfl) ?_
                    refine s_if_le (a := z_5) (tgt := 117) hE.1 hE.2.1 (by omega) dX8_paste_96 (by decide) (fun c192 => ?_) (fun c192 => ?_)
                    · skip
                      refine lv_iconst (v := iI (0)) hE.1 hE.2.1 dX8_paste_117 (by decide) ?_
                      exact kr _ _ _ _ _ _ _ _ rfl ⟨⟨0, by omega, rfl⟩, hI, fun i j h => rfl⟩ hP hS dX8_paste_118
                    · skip
                      refine lv_aload hE.1 hE.2.1 dX8_paste_99 (lv_at hl 1 rfl) ?_
                      refine x_get (x := .ref (ad 74)) hE hK hP 73 (Nat.lt_of_lt_of_le (by decide) hNN) (xG_5 rfl) rfl hin5 0 (by decide) mw_446 rfl dX8_paste_101 ?_
                      refine lv_iload_n hE.1 hE.2.1 dX8_paste_104 rfl (lv_at hl 4 rfl) ?_
                      refine lv_aload hE.1 hE.2.1 dX8_paste_105 (lv_at hl 0 rfl) ?_
                      refine x_get (x := .ref (ad 72)) hE hK hP 71 (Nat.lt_of_lt_of_le (by decide) hNN) (xG_5 rfl) rfl hin5 0 (by decide) mw_446 rfl dX8_paste_107 ?_
                      refine lv_iload hE.1 hE.2.1 dX8_paste_110 (lv_at hl 6 rfl) ?_
                      refine lv_iload hE.1 hE.2.1 dX8_paste_112 (lv_at hl 7 rfl) ?_
                      refine x_copyl (rest := []) (sp := iI (z_2)) (dp := iI (z_4)) (n := iI (z_5)) (n0 := 60) (n1 := 60) hE hl.1 hK hN hP hS mw_1326 mw_680 mw_679 mw_130 74 72 (Nat.lt_of_lt_of_le (by decide) hNN) (Nat.lt_of_lt_of_le (by decide) hNN) (xG_11 rfl) (fun _ => xG_11 rfl) (iI_nn (by omega)) (iI_nn (by omega)) (iI_nn (by omega)) (iI_cc (by omega)) (iI_cc (by omega)) (by decide) (by decide) dX8_paste_114 (fun al193 H locs ha193 hP hS => ?_)
                      refine lv_iconst (v := iI (0)) hE.1 hE.2.1 dX8_paste_117 (by decide) ?_
                      exact kr _ _ _ _ _ _ _ _ rfl ⟨⟨0, by omega, rfl⟩, hI, fun i j h => rfl⟩ hP hS dX8_paste_118
                  · skip
                    refine lv_bipush (v := iI (-7)) hE.1 hE.2.1 dX8_paste_91 (by decide) ?_
                    exact kr _ _ _ _ _ _ _ _ rfl ⟨⟨-7, by omega, rfl⟩, hI, fun i j h => rfl⟩ hP hS dX8_paste_93
              · skip
                refine lv_bipush (v := iI (-8)) hE.1 hE.2.1 dX8_paste_65 (by decide) ?_
                exact kr _ _ _ _ _ _ _ _ rfl ⟨⟨-8, by omega, rfl⟩, hI, fun i j h => rfl⟩ hP hS dX8_paste_67
            · skip
              refine lv_bipush (v := iI (-6)) hE.1 hE.2.1 dX8_paste_49 (by decide) ?_
              exact kr _ _ _ _ _ _ _ _ rfl ⟨⟨-6, by omega, rfl⟩, hI, fun i j h => rfl⟩ hP hS dX8_paste_51
        · skip
          refine x_aald (r := .ref (ad 73)) hE hK hP 65 4 (Nat.lt_of_lt_of_le (by decide) hNN) (xG_13 rfl) rfl (by unfold vp_in; decide) rfl dX8_paste_30 ?_
          refine lv_astore (lv' := [(7, .ref (ad 73)), (6, .ref (ad 73)), (0, .ref (ad 0)), (1, .int (iI (3))), (2, .int (iI (z_2))), (3, .int (iI (3))), (4, .int (iI (z_4))), (5, .int (iI (z_5)))]) hE.1 hE.2.1 dX8_paste_31 hl (by decide) rfl (fun ls hl => ?_)
          refine lv_aload hE.1 hE.2.1 dX8_paste_33 (lv_at hl 1 rfl) ?_
          obtain ⟨z194, hz194, ez194⟩ := XI_get hI 73 2 (-1) 60 (by decide)
          refine x_get (x := .int (v 73 2)) hE hK hP 73 (Nat.lt_of_lt_of_le (by decide) hNN) (xG_5 rfl) rfl hin5 2 (by decide) mw_451 rfl dX8_paste_35 ?_
          refine x_top (y := iI (z194)) ez194 ?_
          refine s_if_lt (a := z194) (tgt := 49) hE.1 hE.2.1 (by omega) dX8_paste_38 (by decide) (fun c195 => ?_) (fun c195 => ?_)
          · skip
            refine lv_bipush (v := iI (-6)) hE.1 hE.2.1 dX8_paste_49 (by decide) ?_
            exact kr _ _ _ _ _ _ _ _ rfl ⟨⟨-6, by omega, rfl⟩, hI, fun i j h => rfl⟩ hP hS dX8_paste_51
          · skip
            refine lv_aload hE.1 hE.2.1 dX8_paste_41 (lv_at hl 0 rfl) ?_
            refine x_get (x := .int (v 73 2)) hE hK hP 73 (Nat.lt_of_lt_of_le (by decide) hNN) (xG_5 rfl) rfl hin5 2 (by decide) mw_451 rfl dX8_paste_43 ?_
            refine x_top (y := iI (z194)) ez194 ?_
            refine s_if_ge (a := z194) (tgt := 52) hE.1 hE.2.1 (by omega) dX8_paste_46 (by decide) (fun _ => ?_) (fun c196 => False.elim (by omega))
            refine lv_aload hE.1 hE.2.1 dX8_paste_52 (lv_at hl 1 rfl) ?_
            obtain ⟨z197, hz197, ez197⟩ := iI_of (v 73 1)
            refine x_get (x := .int (v 73 1)) hE hK hP 73 (Nat.lt_of_lt_of_le (by decide) hNN) (xG_5 rfl) rfl hin5 1 (by decide) mw_448 rfl dX8_paste_54 ?_
            refine x_top (y := iI (z197)) ez197 ?_
            refine lv_aload hE.1 hE.2.1 dX8_paste_57 (lv_at hl 0 rfl) ?_
            refine x_get (x := .int (v 73 1)) hE hK hP 73 (Nat.lt_of_lt_of_le (by decide) hNN) (xG_5 rfl) rfl hin5 1 (by decide) mw_448 rfl dX8_paste_59 ?_
            refine x_top (y := iI (z197)) ez197 ?_
            refine s_icmp_eq (a := z197) (b := z197) (tgt := 68) hE.1 hE.2.1 (by omega) (by omega) dX8_paste_62 (by decide) (fun _ => ?_) (fun c198 => False.elim (by omega))
            refine lv_aload hE.1 hE.2.1 dX8_paste_68 (lv_at hl 1 rfl) ?_
            refine lv_iload_n hE.1 hE.2.1 dX8_paste_70 rfl (lv_at hl 4 rfl) ?_
            refine lv_iload hE.1 hE.2.1 dX8_paste_71 (lv_at hl 7 rfl) ?_
            refine x_vp (nn := 2) (As := [.int (iI (z_2)), .int (iI (z_5))]) (rest := []) hE (s_X5_holds_73 l D K ad mm N hNN v ar al hI  (z_2) (by omega) (z_5) (by omega)) wPre_blind (wPre_now hK hN hP) (x_recv hK hP 73 (Nat.lt_of_lt_of_le (by decide) hNN) (xG_5 rfl) rfl) rfl mw_1322 mw_1323 mw_1324 mw_121 mw_1325 (by decide +kernel) ⟨by decide, by decide⟩ hl.1 rfl (Nat.le_of_ble_eq_true rfl) ⟨Nat.zero_le _, Nat.zero_le _⟩ dX8_paste_73 (fun r199 hr199 => ?_)
            obtain ⟨z199, hz199, rfl⟩ := hr199
            refine s_if_eq (a := z199) (tgt := 91) hE.1 hE.2.1 (by omega) dX8_paste_76 (by decide) (fun c200 => ?_) (fun c200 => ?_)
            · skip
              refine lv_bipush (v := iI (-7)) hE.1 hE.2.1 dX8_paste_91 (by decide) ?_
              exact kr _ _ _ _ _ _ _ _ rfl ⟨⟨-7, by omega, rfl⟩, hI, fun i j h => rfl⟩ hP hS dX8_paste_93
            · skip
              refine lv_aload hE.1 hE.2.1 dX8_paste_79 (lv_at hl 0 rfl) ?_
              refine lv_iload hE.1 hE.2.1 dX8_paste_81 (lv_at hl 6 rfl) ?_
              refine lv_iload hE.1 hE.2.1 dX8_paste_83 (lv_at hl 7 rfl) ?_
              refine x_vp (nn := 2) (As := [.int (iI (z_4)), .int (iI (z_5))]) (rest := []) hE (s_X5_holds_73 l D K ad mm N hNN v ar al hI  (z_4) (by omega) (z_5) (by omega)) wPre_blind (wPre_now hK hN hP) (x_recv hK hP 73 (Nat.lt_of_lt_of_le (by decide) hNN) (xG_5 rfl) rfl) rfl mw_1322 mw_1323 mw_1324 mw_121 mw_1325 (by decide +kernel) ⟨by decide, by decide⟩ hl.1 rfl (Nat.le_of_ble_eq_true rfl) ⟨Nat.zero_le _, Nat.zero_le _⟩ dX8_paste_85 (fun r201 hr201 => ?_)
              obtain ⟨z201, hz201, rfl⟩ := hr201
              refine s_if_ne (a := z201) (tgt := 94) hE.1 hE.2.1 (by omega) dX8_paste_88 (by decide) (fun c202 => ?_) (fun c202 => ?_)
              · skip
                refine lv_iload hE.1 hE.2.1 dX8_paste_94 (lv_at hl 7 rfl) ?_
                refine s_if_le (a := z_5) (tgt := 117) hE.1 hE.2.1 (by omega) dX8_paste_96 (by decide) (fun c203 => ?_) (fun c203 => ?_)
                · skip
                  refine lv_iconst (v := iI (0)) hE.1 hE.2.1 dX8_paste_117 (by decide) ?_
                  exact kr _ _ _ _ _ _ _ _ rfl ⟨⟨0, by omega, rfl⟩, hI, fun i j h => rfl⟩ hP hS dX8_paste_118
                · skip
                  refine lv_aload hE.1 hE.2.1 dX8_paste_99 (lv_at hl 1 rfl) ?_
                  refine x_get (x := .ref (ad 74)) hE hK hP 73 (Nat.lt_of_lt_of_le (by decide) hNN) (xG_5 rfl) rfl hin5 0 (by decide) mw_446 rfl dX8_paste_101 ?_
                  refine lv_iload_n hE.1 hE.2.1 dX8_paste_104 rfl (lv_at hl 4 rfl) ?_
                  refine lv_aload hE.1 hE.2.1 dX8_paste_105 (lv_at hl 0 rfl) ?_
                  refine x_get (x := .ref (ad 74)) hE hK hP 73 (Nat.lt_of_lt_of_le (by decide) hNN) (xG_5 rfl) rfl hin5 0 (by decide) mw_446 rfl dX8_paste_107 ?_
                  refine lv_iload hE.1 hE.2.1 dX8_paste_110 (lv_at hl 6 rfl) ?_
                  refine lv_iload hE.1 hE.2.1 dX8_paste_112 (lv_at hl 7 rfl) ?_
                  refine x_copyl (rest := []) (sp := iI (z_2)) (dp := iI (z_4)) (n := iI (z_5)) (n0 := 60) (n1 := 60) hE hl.1 hK hN hP hS mw_1326 mw_680 mw_679 mw_130 74 74 (Nat.lt_of_lt_of_le (by decide) hNN) (Nat.lt_of_lt_of_le (by decide) hNN) (xG_11 rfl) (fun _ => xG_11 rfl) (iI_nn (by omega)) (iI_nn (by omega)) (iI_nn (by omega)) (iI_cc (by omega)) (iI_cc (by omega)) (by decide) (by decide) dX8_paste_114 (fun al204 H locs ha204 hP hS => ?_)
                  refine lv_iconst (v := iI (0)) hE.1 hE.2.1 dX8_paste_117 (by decide) ?_
                  exact kr _ _ _ _ _ _ _ _ rfl ⟨⟨0, by omega, rfl⟩, hI, fun i j h => rfl⟩ hP hS dX8_paste_118
              · skip
                refine lv_bipush (v := iI (-7)) hE.1 hE.2.1 dX8_paste_91 (by decide) ?_
                exact kr _ _ _ _ _ _ _ _ rfl ⟨⟨-7, by omega, rfl⟩, hI, fun i j h => rfl⟩ hP hS dX8_paste_93
    · skip
      refine lv_bipush (v := iI (-2)) hE.1 hE.2.1 dX8_paste_14 (by decide) ?_
      exact kr _ _ _ _ _ _ _ _ rfl ⟨⟨-2, by omega, rfl⟩, hI, fun i j h => rfl⟩ hP hS dX8_paste_16
