set_option maxHeartbeats 4000000 in
set_option maxRecDepth 100000 in
theorem s_X9_empties_e (l : Launch) (D : va_G) (K : Nat → ClassId) (ad : Nat → Nat) (v ar : sI) (al : sL) (hI : YI v ar) : Met l yX9_empties (wM yX9_empties cX9_empties 2 none) (rmD 0) (va_Pc [.ref (ad 0)] (wPre D K ad (yG ad K) 21 v ar al)) (va_Qv (fun u : sT => YI u.1 u.2.1 ∧ (∀ i j : Nat, (i, j) ∉ ([(0, 24), (0, 25), (0, 26), (0, 27)] : List (Nat × Nat)) → u.1 i j = v i j) ∧ (∀ i : Nat, i ∉ ([14] : List Nat) → u.2.1 i = ar i) ∧ (∀ i : Nat, i ∉ ([] : List Nat) → u.2.2 i = al i) ∧ (∀ t : Nat, t < 3 → u.2.1 14 t = iI 0) ∧ (∃ x_1 x_2 x_3 : Int, (0 ≤ x_1 ∧ x_1 ≤ 0 ∧ 0 ≤ x_2 ∧ x_2 ≤ 0 ∧ -1 ≤ x_3 ∧ x_3 ≤ -1 ∧ (x_1 = 0 ∧ x_2 = 0 ∧ x_3 = -1)) ∧ u.1 0 24 = iI x_1 ∧ u.1 0 25 = iI x_2 ∧ u.1 0 26 = iI x_3)) (wB D ad (yG ad K) 21) (inW ad 21)) 0 0 (inW ad 21) := by
  refine s_metV (by decide) (Nat.le_of_ble_eq_true rfl) ?_
  intro p e s m below meth c ls args Q hE hB hl kr
  have hE : CallFix p m c cX9_empties 2 s args tbG "TaleCourtModel" := hE
  obtain ⟨hP, hK, hN⟩ := hB
  have hS : va_S (inW ad 21) s.heap s.heap [] := va_S.rf
  have hl : lv_has ls 2 [(0, .ref (ad 0))] := hl
  refine lv_aload_n hE.1 hE.2.1 dX9_empties_0 rfl (lv_at hl 0 rfl) ?_
  refine lv_iconst (v := iI (0)) hE.1 hE.2.1 dX9_empties_1 (by decide) ?_
  refine x_put (x := iI (0)) hE hK hN hP hS 0 (by decide) (yG_9 rfl) rfl hin9 tyX9 tyX9_ok nmX9 24 (by decide) mw_1358 rfl rfl rfl (Nat.le_of_ble_eq_true rfl) (yG_9 rfl) dX9_empties_2 (fun v1 H locs hv1 hP hS => ?_)
  have hI := YI_putB (z := 0) hI hv1 0 60 (by omega) (by decide) (by omega)
  refine lv_aload_n hE.1 hE.2.1 dX9_empties_5 rfl (lv_at hl 0 rfl) ?_
  refine lv_iconst (v := iI (0)) hE.1 hE.2.1 dX9_empties_6 (by decide) ?_
  refine x_put (x := iI (0)) hE hK hN hP hS 0 (by decide) (yG_9 rfl) rfl hin9 tyX9 tyX9_ok nmX9 25 (by decide) mw_1359 rfl rfl rfl (Nat.le_of_ble_eq_true rfl) (yG_9 rfl) dX9_empties_7 (fun v2 H locs hv2 hP hS => ?_)
  have hI := YI_putB (z := 0) hI hv2 0 511 (by omega) (by decide) (by omega)
  refine lv_aload_n hE.1 hE.2.1 dX9_empties_10 rfl (lv_at hl 0 rfl) ?_
  refine lv_iconst (v := iI (-1)) hE.1 hE.2.1 dX9_empties_11 (by decide) ?_
  refine x_put (x := iI (-1)) hE hK hN hP hS 0 (by decide) (yG_9 rfl) rfl hin9 tyX9 tyX9_ok nmX9 26 (by decide) mw_1360 rfl rfl rfl (Nat.le_of_ble_eq_true rfl) (yG_9 rfl) dX9_empties_12 (fun v3 H locs hv3 hP hS => ?_)
  have hI := YI_putB (z := -1) hI hv3 (-1) 8 (by omega) (by decide) (by omega)
  refine lv_aload_n hE.1 hE.2.1 dX9_empties_15 rfl (lv_at hl 0 rfl) ?_
  refine lv_iconst (v := iI (0)) hE.1 hE.2.1 dX9_empties_16 (by decide) ?_
  refine x_put (x := iI (0)) hE hK hN hP hS 0 (by decide) (yG_9 rfl) rfl hin9 tyX9 tyX9_ok nmX9 27 (by decide) mw_1361 rfl rfl rfl (Nat.le_of_ble_eq_true rfl) (yG_9 rfl) dX9_empties_17 (fun v4 H locs hv4 hP hS => ?_)
  have hI := YI_putN hI hv4 (by decide)
  refine lv_iconst (v := iI (0)) hE.1 hE.2.1 dX9_empties_20 (by decide) ?_
  refine lv_istore_n (lv' := [(1, .int (iI (0))), (0, .ref (ad 0))]) hE.1 hE.2.1 dX9_empties_21 rfl hl (by decide) rfl (fun ls hl => ?_)
  refine lv_iload_n hE.1 hE.2.1 dX9_empties_22 rfl (lv_at hl 0 rfl) ?_
  refine lv_iconst (v := iI (3)) hE.1 hE.2.1 dX9_empties_23 (by decide) ?_
  refine s_icmp_ge (a := 0) (b := 3) (tgt := 40) hE.1 hE.2.1 (by omega) (by omega) dX9_empties_24 (by decide) (fun c5 => False.elim (by omega)) (fun _ => ?_)
  refine lv_aload_n hE.1 hE.2.1 dX9_empties_27 rfl (lv_at hl 1 rfl) ?_
  refine x_get (x := .ref (ad 14)) hE hK hP 0 (by decide) (yG_9 rfl) rfl hin9 28 (by decide) mw_1362 rfl dX9_empties_28 ?_
  refine lv_iload_n hE.1 hE.2.1 dX9_empties_31 rfl (lv_at hl 0 rfl) ?_
  refine lv_iconst (v := iI (0)) hE.1 hE.2.1 dX9_empties_32 (by decide) ?_
  refine x_iast (j := iI (0)) hE hK hN hP hS 14 (by decide) (fun _ => yG_10 rfl) (iI_in (n := 3) (by omega)) dX9_empties_33 (fun ar6 H locs ha6 hP hS => ?_)
  have hI := YI_ast hI ha6 (by decide)
  refine lv_iinc (v := iI (1)) (lv' := [(1, .int (iI (1))), (0, .ref (ad 0))]) hE.1 hE.2.1 dX9_empties_34 hl (k := 0) rfl ((iI_add (0) (1)).trans (congrArg iI (by omega))) (by decide) rfl (fun ls hl => ?_)
  refine lv_goto (tgt := 22) hE.1 hE.2.1 dX9_empties_37 (by decide) ?_
  refine lv_iload_n hE.1 hE.2.1 dX9_empties_22 rfl (lv_at hl 0 rfl) ?_
  refine lv_iconst (v := iI (3)) hE.1 hE.2.1 dX9_empties_23 (by decide) ?_
  refine s_icmp_ge (a := 1) (b := 3) (tgt := 40) hE.1 hE.2.1 (by omega) (by omega) dX9_empties_24 (by decide) (fun c7 => False.elim (by omega)) (fun _ => ?_)
  refine lv_aload_n hE.1 hE.2.1 dX9_empties_27 rfl (lv_at hl 1 rfl) ?_
  refine x_get (x := .ref (ad 14)) hE hK hP 0 (by decide) (yG_9 rfl) rfl hin9 28 (by decide) mw_1362 rfl dX9_empties_28 ?_
  refine lv_iload_n hE.1 hE.2.1 dX9_empties_31 rfl (lv_at hl 0 rfl) ?_
  refine lv_iconst (v := iI (0)) hE.1 hE.2.1 dX9_empties_32 (by decide) ?_
  refine x_iast (j := iI (1)) hE hK hN hP hS 14 (by decide) (fun _ => yG_10 rfl) (iI_in (n := 3) (by omega)) dX9_empties_33 (fun ar8 H locs ha8 hP hS => ?_)
  have hI := YI_ast hI ha8 (by decide)
  refine lv_iinc (v := iI (2)) (lv' := [(1, .int (iI (2))), (0, .ref (ad 0))]) hE.1 hE.2.1 dX9_empties_34 hl (k := 0) rfl ((iI_add (1) (1)).trans (congrArg iI (by omega))) (by decide) rfl (fun ls hl => ?_)
  refine lv_goto (tgt := 22) hE.1 hE.2.1 dX9_empties_37 (by decide) ?_
  refine lv_iload_n hE.1 hE.2.1 dX9_empties_22 rfl (lv_at hl 0 rfl) ?_
  refine lv_iconst (v := iI (3)) hE.1 hE.2.1 dX9_empties_23 (by decide) ?_
  refine s_icmp_ge (a := 2) (b := 3) (tgt := 40) hE.1 hE.2.1 (by omega) (by omega) dX9_empties_24 (by decide) (fun c9 => False.elim (by omega)) (fun _ => ?_)
  refine lv_aload_n hE.1 hE.2.1 dX9_empties_27 rfl (lv_at hl 1 rfl) ?_
  refine x_get (x := .ref (ad 14)) hE hK hP 0 (by decide) (yG_9 rfl) rfl hin9 28 (by decide) mw_1362 rfl dX9_empties_28 ?_
  refine lv_iload_n hE.1 hE.2.1 dX9_empties_31 rfl (lv_at hl 0 rfl) ?_
  refine lv_iconst (v := iI (0)) hE.1 hE.2.1 dX9_empties_32 (by decide) ?_
  refine x_iast (j := iI (2)) hE hK hN hP hS 14 (by decide) (fun _ => yG_10 rfl) (iI_in (n := 3) (by omega)) dX9_empties_33 (fun ar10 H locs ha10 hP hS => ?_)
  have hI := YI_ast hI ha10 (by decide)
  refine lv_iinc (v := iI (3)) (lv' := [(1, .int (iI (3))), (0, .ref (ad 0))]) hE.1 hE.2.1 dX9_empties_34 hl (k := 0) rfl ((iI_add (2) (1)).trans (congrArg iI (by omega))) (by decide) rfl (fun ls hl => ?_)
  refine lv_goto (tgt := 22) hE.1 hE.2.1 dX9_empties_37 (by decide) ?_
  refine lv_iload_n hE.1 hE.2.1 dX9_empties_22 rfl (lv_at hl 0 rfl) ?_
  refine lv_iconst (v := iI (3)) hE.1 hE.2.1 dX9_empties_23 (by decide) ?_
  refine s_icmp_ge (a := 3) (b := 3) (tgt := 40) hE.1 hE.2.1 (by omega) (by omega) dX9_empties_24 (by decide) (fun _ => ?_) (fun c11 => False.elim (by omega))
  exact kr v4 ar10 al _ _ _ _ ⟨hI, fun i j h => ((up_oth hv4 (fun q => h (by rcases q with ⟨rfl, rfl⟩; decide))).trans ((up_oth hv3 (fun q => h (by rcases q with ⟨rfl, rfl⟩; decide))).trans ((up_oth hv2 (fun q => h (by rcases q with ⟨rfl, rfl⟩; decide))).trans (up_oth hv1 (fun q => h (by rcases q with ⟨rfl, rfl⟩; decide)))))), fun i h => ((upx_ne ha10 i (fun q => h (by rw [q]; decide))).trans ((upx_ne ha8 i (fun q => h (by rw [q]; decide))).trans (upx_ne ha6 i (fun q => h (by rw [q]; decide))))), fun i h => rfl, (t3 (P := fun t => ar10 14 t = iI 0) ((upa_idx ha10 (by decide)).trans ((upa_idx ha8 (by decide)).trans (upa_at ha6 (by decide)))) ((upa_idx ha10 (by decide)).trans (upa_at ha8 (by decide))) (upa_at ha10 (by decide))), 0, 0, -1, by omega, ((up_oth hv4 (by decide)).trans ((up_oth hv3 (by decide)).trans ((up_oth hv2 (by decide)).trans (up_eq hv1)))), ((up_oth hv4 (by decide)).trans ((up_oth hv3 (by decide)).trans (up_eq hv2))), ((up_oth hv4 (by decide)).trans (up_eq hv3))⟩ hP hS dX9_empties_40

set_option maxHeartbeats 4000000 in
set_option maxRecDepth 100000 in
theorem s_X9_puts_e (l : Launch) (D : va_G) (K : Nat → ClassId) (ad : Nat → Nat) (v ar : sI) (al : sL) (hI : YI v ar) (w_1 : Int) (hw_1 : 0 ≤ w_1 ∧ w_1 ≤ 59) (ew_1 : v 0 24 = iI w_1) (w_2 : Int) (hw_2 : 0 ≤ w_2 ∧ w_2 ≤ 511) (ew_2 : v 0 25 = iI w_2) (w_3 : Int) (hw_3 : -1 ≤ w_3 ∧ w_3 ≤ 8) (ew_3 : v 0 26 = iI w_3) (w_4 : Int) (hw_4 : 1 ≤ w_4 ∧ w_4 ≤ 3) (ew_4 : ar 7 0 = iI w_4) (z_1 : Int) (hz_1 : 0 ≤ z_1 ∧ z_1 ≤ 9) : Met l yX9_puts (wM yX9_puts cX9_puts 2 none) (rmD 2) (va_Pc [.ref (ad 0), .int (iI (z_1))] (wPre D K ad (yG ad K) 21 v ar al)) (va_Qv (fun u : sT => YI u.1 u.2.1 ∧ (∀ i j : Nat, (i, j) ∉ ([(0, 24), (0, 25), (0, 26), (0, 27)] : List (Nat × Nat)) → u.1 i j = v i j) ∧ (∀ i : Nat, i ∉ ([12, 13, 14] : List Nat) → u.2.1 i = ar i) ∧ (∀ i : Nat, i ∉ ([] : List Nat) → u.2.2 i = al i) ∧ (PX w_4 w_1 z_1 (ar 12) (ar 14) (u.2.1 12) (u.2.1 14)) ∧ (∃ x_1 x_2 x_3 : Int, (0 ≤ x_1 ∧ x_1 ≤ 60 ∧ 0 ≤ x_2 ∧ x_2 ≤ 511 ∧ -1 ≤ x_3 ∧ x_3 ≤ 8 ∧ (x_1 = w_1 + 1 ∧ ((z_1 = 9 ∧ x_2 = w_2 ∧ x_3 = w_3) ∨ (z_1 ≠ 9 ∧ x_2 = sb w_2 z_1 ∧ x_3 = z_1)))) ∧ u.1 0 24 = iI x_1 ∧ u.1 0 25 = iI x_2 ∧ u.1 0 26 = iI x_3)) (wB D ad (yG ad K) 21) (inW ad 21)) 0 0 (inW ad 21) := by
  refine s_metV (by decide) (Nat.le_of_ble_eq_true rfl) ?_
  intro p e s m below meth c ls args Q hE hB hl kr
  have hE : CallFix p m c cX9_puts 2 s args tbG "TaleCourtModel" := hE
  obtain ⟨hP, hK, hN⟩ := hB
  have hS : va_S (inW ad 21) s.heap s.heap [] := va_S.rf
  have hl : lv_has ls 2 [(0, .ref (ad 0)), (1, .int (iI (z_1)))] := hl
  refine lv_aload_n hE.1 hE.2.1 dX9_puts_0 rfl (lv_at hl 0 rfl) ?_
  refine x_get (x := .ref (ad 12)) hE hK hP 0 (by decide) (yG_9 rfl) rfl hin9 22 (by decide) mw_1356 rfl dX9_puts_1 ?_
  refine lv_aload_n hE.1 hE.2.1 dX9_puts_4 rfl (lv_at hl 0 rfl) ?_
  refine x_get (x := .int (v 0 24)) hE hK hP 0 (by decide) (yG_9 rfl) rfl hin9 24 (by decide) mw_1358 rfl dX9_puts_5 ?_
  refine x_top (y := iI (w_1)) ew_1 ?_
  refine lv_iload_n hE.1 hE.2.1 dX9_puts_8 rfl (lv_at hl 1 rfl) ?_
  refine x_iast (j := iI (w_1)) hE hK hN hP hS 12 (by decide) (fun _ => yG_10 rfl) (iI_in (n := 60) (by omega)) dX9_puts_9 (fun ar1 H locs ha1 hP hS => ?_)
  have hI := YI_ast12 (z := z_1) hI ha1 (by omega)
  refine lv_iload_n hE.1 hE.2.1 dX9_puts_10 rfl (lv_at hl 1 rfl) ?_
  refine lv_bipush (v := iI (9)) hE.1 hE.2.1 dX9_puts_11 (by decide) ?_
  refine s_icmp_ne (a := z_1) (b := 9) (tgt := 39) hE.1 hE.2.1 (by omega) (by omega) dX9_puts_13 (by decide) (fun c2 => ?_) (fun c2 => ?_)
  · skip
    refine lv_aload_n hE.1 hE.2.1 dX9_puts_39 rfl (lv_at hl 0 rfl) ?_
    refine lv_dup hE.1 hE.2.1 dX9_puts_40 rfl ?_
    refine x_get (x := .int (v 0 25)) hE hK hP 0 (by decide) (yG_9 rfl) rfl hin9 25 (by decide) mw_1359 rfl dX9_puts_41 ?_
    refine x_top (y := iI (w_2)) ew_2 ?_
    refine lv_iconst (v := iI (1)) hE.1 hE.2.1 dX9_puts_44 (by decide) ?_
    refine lv_iload_n hE.1 hE.2.1 dX9_puts_45 rfl (lv_at hl 1 rfl) ?_
    refine lv_ishl hE.1 hE.2.1 dX9_puts_46 ?_
    obtain ⟨z3, hz3, ez3⟩ := iI_shl8 (a := z_1) (by omega)
    refine x_top ez3 ?_
    refine lv_ior hE.1 hE.2.1 dX9_puts_47 ?_
    obtain ⟨z4, hz4, ez4⟩ := sb_of (a := w_2) (m := z_1) (by omega) (by omega) ez3
    refine x_top ez4 ?_
    refine x_put (x := iI (z4)) hE hK hN hP hS 0 (by decide) (yG_9 rfl) rfl hin9 tyX9 tyX9_ok nmX9 25 (by decide) mw_1359 rfl rfl rfl (Nat.le_of_ble_eq_true rfl) (yG_9 rfl) dX9_puts_48 (fun v5 H locs hv5 hP hS => ?_)
    have hI := YI_putB (z := z4) hI hv5 0 511 (by omega) (by decide) (by omega)
    refine lv_aload_n hE.1 hE.2.1 dX9_puts_51 rfl (lv_at hl 0 rfl) ?_
    refine x_get (x := .ref (ad 13)) hE hK hP 0 (by decide) (yG_9 rfl) rfl hin9 23 (by decide) mw_1357 rfl dX9_puts_52 ?_
    refine lv_iload_n hE.1 hE.2.1 dX9_puts_55 rfl (lv_at hl 1 rfl) ?_
    refine lv_aload_n hE.1 hE.2.1 dX9_puts_56 rfl (lv_at hl 0 rfl) ?_
    refine x_get (x := .int (v5 0 24)) hE hK hP 0 (by decide) (yG_9 rfl) rfl hin9 24 (by decide) mw_1358 rfl dX9_puts_57 ?_
    refine x_top (y := iI (w_1)) ((up_oth hv5 (by decide)).trans ew_1) ?_
    refine x_iast (j := iI (z_1)) hE hK hN hP hS 13 (by decide) (fun _ => yG_10 rfl) (iI_in (n := 9) (by omega)) dX9_puts_60 (fun ar6 H locs ha6 hP hS => ?_)
    have hI := YI_ast hI ha6 (by decide)
    refine lv_aload_n hE.1 hE.2.1 dX9_puts_61 rfl (lv_at hl 0 rfl) ?_
    refine lv_dup hE.1 hE.2.1 dX9_puts_62 rfl ?_
    obtain ⟨z7, hz7, ez7⟩ := iI_of (v5 0 27)
    refine x_get (x := .int (v5 0 27)) hE hK hP 0 (by decide) (yG_9 rfl) rfl hin9 27 (by decide) mw_1361 rfl dX9_puts_63 ?_
    refine x_top (y := iI (z7)) ez7 ?_
    refine lv_aload_n hE.1 hE.2.1 dX9_puts_66 rfl (lv_at hl 0 rfl) ?_
    refine lv_iload_n hE.1 hE.2.1 dX9_puts_67 rfl (lv_at hl 1 rfl) ?_
    refine x_vp (nn := 1) (As := [.int (iI (z_1))]) (rest := [.int (iI (z7)), .ref (ad 0)]) hE (s_X9_pointsOf l D K ad v5 ar6 al hI  (z_1) (by omega)) wPre_blind (wPre_now hK hN hP) (x_recv hK hP 0 (by decide) (yG_9 rfl) rfl) rfl mw_1650 mw_1652 mw_72 mw_123 mw_1653 (by decide +kernel) ⟨by decide, by decide⟩ hl.1 rfl (Nat.le_of_ble_eq_true rfl) ⟨Nat.zero_le _, Nat.zero_le _⟩ dX9_puts_68 (fun r8 hr8 => ?_)
    obtain ⟨z8, hz8, rfl⟩ := hr8
    refine lv_iadd hE.1 hE.2.1 dX9_puts_71 ?_
    obtain ⟨z9, hz9, ez9⟩ := iI_of (iI (z7) + iI (z8))
    refine x_top ez9 ?_
    refine x_put (x := iI (z9)) hE hK hN hP hS 0 (by decide) (yG_9 rfl) rfl hin9 tyX9 tyX9_ok nmX9 27 (by decide) mw_1361 rfl rfl rfl (Nat.le_of_ble_eq_true rfl) (yG_9 rfl) dX9_puts_72 (fun v10 H locs hv10 hP hS => ?_)
    have hI := YI_putN hI hv10 (by decide)
    refine lv_aload_n hE.1 hE.2.1 dX9_puts_75 rfl (lv_at hl 0 rfl) ?_
    refine lv_iload_n hE.1 hE.2.1 dX9_puts_76 rfl (lv_at hl 1 rfl) ?_
    refine x_put (x := iI (z_1)) hE hK hN hP hS 0 (by decide) (yG_9 rfl) rfl hin9 tyX9 tyX9_ok nmX9 26 (by decide) mw_1360 rfl rfl rfl (Nat.le_of_ble_eq_true rfl) (yG_9 rfl) dX9_puts_77 (fun v11 H locs hv11 hP hS => ?_)
    have hI := YI_putB (z := z_1) hI hv11 (-1) 8 (by omega) (by decide) (by omega)
    refine lv_aload_n hE.1 hE.2.1 dX9_puts_80 rfl (lv_at hl 0 rfl) ?_
    refine lv_dup hE.1 hE.2.1 dX9_puts_81 rfl ?_
    refine x_get (x := .int (v11 0 24)) hE hK hP 0 (by decide) (yG_9 rfl) rfl hin9 24 (by decide) mw_1358 rfl dX9_puts_82 ?_
    refine x_top (y := iI (w_1)) ((up_oth hv11 (by decide)).trans ((up_oth hv10 (by decide)).trans ((up_oth hv5 (by decide)).trans ew_1))) ?_
    refine lv_iconst (v := iI (1)) hE.1 hE.2.1 dX9_puts_85 (by decide) ?_
    refine lv_iadd hE.1 hE.2.1 dX9_puts_86 ?_
    refine x_top (y := iI (w_1 + 1)) ((iI_add (w_1) (1)).trans (congrArg iI (by omega))) ?_
    refine x_put (x := iI (w_1 + 1)) hE hK hN hP hS 0 (by decide) (yG_9 rfl) rfl hin9 tyX9 tyX9_ok nmX9 24 (by decide) mw_1358 rfl rfl rfl (Nat.le_of_ble_eq_true rfl) (yG_9 rfl) dX9_puts_87 (fun v12 H locs hv12 hP hS => ?_)
    have hI := YI_putB (z := w_1 + 1) hI hv12 0 60 (by omega) (by decide) (by omega)
    exact kr v12 ar6 al _ _ _ _ ⟨hI, fun i j h => ((up_oth hv12 (fun q => h (by rcases q with ⟨rfl, rfl⟩; decide))).trans ((up_oth hv11 (fun q => h (by rcases q with ⟨rfl, rfl⟩; decide))).trans ((up_oth hv10 (fun q => h (by rcases q with ⟨rfl, rfl⟩; decide))).trans (up_oth hv5 (fun q => h (by rcases q with ⟨rfl, rfl⟩; decide)))))), fun i h => ((upx_ne ha6 i (fun q => h (by rw [q]; decide))).trans (upx_ne ha1 i (fun q => h (by rw [q]; decide)))), fun i h => rfl, PX_m ha1 ha6 (by omega) (by omega), w_1 + 1, z4, z_1, by omega, (up_eq hv12), ((up_oth hv12 (by decide)).trans ((up_oth hv11 (by decide)).trans ((up_oth hv10 (by decide)).trans (up_eq hv5)))), ((up_oth hv12 (by decide)).trans (up_eq hv11))⟩ hP hS dX9_puts_90
  · skip
    refine lv_aload_n hE.1 hE.2.1 dX9_puts_16 rfl (lv_at hl 0 rfl) ?_
    refine x_get (x := .ref (ad 14)) hE hK hP 0 (by decide) (yG_9 rfl) rfl hin9 28 (by decide) mw_1362 rfl dX9_puts_17 ?_
    refine lv_aload_n hE.1 hE.2.1 dX9_puts_20 rfl (lv_at hl 0 rfl) ?_
    refine x_get (x := .int (v 0 24)) hE hK hP 0 (by decide) (yG_9 rfl) rfl hin9 24 (by decide) mw_1358 rfl dX9_puts_21 ?_
    refine x_top (y := iI (w_1)) ew_1 ?_
    refine lv_aload_n hE.1 hE.2.1 dX9_puts_24 rfl (lv_at hl 0 rfl) ?_
    refine x_get (x := .ref (ad 7)) hE hK hP 0 (by decide) (yG_9 rfl) rfl hin9 17 (by decide) mw_1351 rfl dX9_puts_25 ?_
    refine lv_iconst (v := iI (0)) hE.1 hE.2.1 dX9_puts_28 (by decide) ?_
    refine x_iald (j := iI (0)) hE hK hP 7 (by decide) (yG_10 rfl) (iI_in (n := 30) (by omega)) dX9_puts_29 ?_
    refine x_top (y := iI (w_4)) (by rw [show (iI (0)).toNatClampNeg = 0 from by decide]; exact ((congrFun (upa_ne ha1 7 (by decide)) 0).trans ew_4)) ?_
    refine lv_irem hE.1 hE.2.1 dX9_puts_30 (iI_ne0 (by omega) (by omega)) ?_
    obtain ⟨z14, hz14⟩ : ∃ z : Int, z = (w_1) % (w_4) ∧ 0 ≤ z ∧ z < w_4 := ⟨_, rfl, Int.emod_nonneg _ (by omega), Int.emod_lt_of_pos _ (by omega)⟩
    refine x_top (y := iI (z14)) ((iI_rem (by omega) (by omega)).trans (congrArg iI hz14.1.symm)) ?_
    have er14 : z14 = rm (w_1) (w_4) := hz14.1
    replace hz14 := hz14.2
    refine lv_dup2_11 hE.1 hE.2.1 dX9_puts_31 rfl rfl ?_
    refine x_iald (j := iI (z14)) hE hK hP 14 (by decide) (yG_10 rfl) (iI_in (n := 3) (by omega)) dX9_puts_32 ?_
    obtain ⟨z16, hz16, ez16⟩ := iI_of (ar1 14 (iI (z14)).toNatClampNeg)
    refine x_top ez16 ?_
    refine lv_iconst (v := iI (1)) hE.1 hE.2.1 dX9_puts_33 (by decide) ?_
    refine lv_iadd hE.1 hE.2.1 dX9_puts_34 ?_
    obtain ⟨z17, hz17, ez17⟩ := iI_of (iI (z16) + iI (1))
    refine x_top ez17 ?_
    refine x_iast (j := iI (z14)) hE hK hN hP hS 14 (by decide) (fun _ => yG_10 rfl) (iI_in (n := 3) (by omega)) dX9_puts_35 (fun ar18 H locs ha18 hP hS => ?_)
    have hI := YI_ast hI ha18 (by decide)
    refine lv_goto (tgt := 80) hE.1 hE.2.1 dX9_puts_36 (by decide) ?_
    refine lv_aload_n hE.1 hE.2.1 dX9_puts_80 rfl (lv_at hl 0 rfl) ?_
    refine lv_dup hE.1 hE.2.1 dX9_puts_81 rfl ?_
    refine x_get (x := .int (v 0 24)) hE hK hP 0 (by decide) (yG_9 rfl) rfl hin9 24 (by decide) mw_1358 rfl dX9_puts_82 ?_
    refine x_top (y := iI (w_1)) ew_1 ?_
    refine lv_iconst (v := iI (1)) hE.1 hE.2.1 dX9_puts_85 (by decide) ?_
    refine lv_iadd hE.1 hE.2.1 dX9_puts_86 ?_
    refine x_top (y := iI (w_1 + 1)) ((iI_add (w_1) (1)).trans (congrArg iI (by omega))) ?_
    refine x_put (x := iI (w_1 + 1)) hE hK hN hP hS 0 (by decide) (yG_9 rfl) rfl hin9 tyX9 tyX9_ok nmX9 24 (by decide) mw_1358 rfl rfl rfl (Nat.le_of_ble_eq_true rfl) (yG_9 rfl) dX9_puts_87 (fun v19 H locs hv19 hP hS => ?_)
    have hI := YI_putB (z := w_1 + 1) hI hv19 0 60 (by omega) (by decide) (by omega)
    exact kr v19 ar18 al _ _ _ _ ⟨hI, fun i j h => (up_oth hv19 (fun q => h (by rcases q with ⟨rfl, rfl⟩; decide))), fun i h => ((upx_ne ha18 i (fun q => h (by rw [q]; decide))).trans (upx_ne ha1 i (fun q => h (by rw [q]; decide)))), fun i h => rfl, PX_9 ha1 er14 (by omega) ez16 ez17 ha18 (by omega) (by omega), w_1 + 1, w_2, w_3, by omega, (up_eq hv19), ((up_oth hv19 (by decide)).trans ew_2), ((up_oth hv19 (by decide)).trans ew_3)⟩ hP hS dX9_puts_90

set_option maxHeartbeats 4000000 in
set_option maxRecDepth 100000 in
theorem s_X9_lays_e (l : Launch) (D : va_G) (K : Nat → ClassId) (ad : Nat → Nat) (v ar : sI) (al : sL) (hI : YI v ar) (w_1 : Int) (hw_1 : 0 ≤ w_1 ∧ w_1 ≤ 18) (ew_1 : ar 7 5 = iI w_1) (w_2 : Int) (hw_2 : 0 ≤ w_2 ∧ w_2 ≤ 3) (ew_2 : ar 7 0 = iI w_2) : Met l yX9_lays (wM yX9_lays cX9_lays 2 none) (rmD 3) (va_Pc [.ref (ad 0)] (wPre D K ad (yG ad K) 21 v ar al)) (va_Qv (fun u : sT => YI u.1 u.2.1 ∧ (∀ i j : Nat, (i, j) ∉ ([(0, 24), (0, 25), (0, 26), (0, 27)] : List (Nat × Nat)) → u.1 i j = v i j) ∧ (∀ i : Nat, i ∉ ([12, 13, 14] : List Nat) → u.2.1 i = ar i) ∧ (∀ i : Nat, i ∉ ([] : List Nat) → u.2.2 i = al i) ∧ (LY (ar 10) w_2 w_1 (u.1 0 25).toInt (u.2.1 12) (u.2.1 14)) ∧ (∃ x_1 x_2 x_3 : Int, (0 ≤ x_1 ∧ x_1 ≤ 18 ∧ 0 ≤ x_2 ∧ x_2 ≤ 511 ∧ -1 ≤ x_3 ∧ x_3 ≤ 8 ∧ (x_1 = w_1 ∧ (x_2 = 0 ∨ 0 ≤ x_3))) ∧ u.1 0 24 = iI x_1 ∧ u.1 0 25 = iI x_2 ∧ u.1 0 26 = iI x_3)) (wB D ad (yG ad K) 21) (inW ad 21)) 0 0 (inW ad 21) := by
  refine s_metV (by decide) (Nat.le_of_ble_eq_true rfl) ?_
  intro p e s m below meth c ls args Q hE hB hl kr
  have hE : CallFix p m c cX9_lays 2 s args tbG "TaleCourtModel" := hE
  obtain ⟨hP, hK, hN⟩ := hB
  have hS : va_S (inW ad 21) s.heap s.heap [] := va_S.rf
  have hl : lv_has ls 2 [(0, .ref (ad 0))] := hl
  obtain ⟨z1, hz1, ez1⟩ := iI_of (ar 6 0)
  obtain ⟨z2, hz2, ez2⟩ := YI_h2 hI 2 (by decide)
  have ht0 := YI_t0 hI ez1 (by omega) ez2 (by omega) ew_1 (by omega) ew_2 (by omega)
  refine lv_aload_n hE.1 hE.2.1 dX9_lays_0 rfl (lv_at hl 0 rfl) ?_
  refine x_vv (nn := 0) (As := []) (rest := []) hE hK hN hP hS (s_X9_empties_e l D K ad v ar al hI  ) (x_recv hK hP 0 (by decide) (yG_9 rfl) rfl) rfl mw_1642 mw_1644 mw_70 mw_123 mw_1645 (by decide +kernel) ⟨by decide, by decide⟩ hl.1 rfl (Nat.le_of_ble_eq_true rfl) ⟨Nat.zero_le _, Nat.zero_le _⟩ dX9_lays_1 (fun v3 ar3 al3 H locs hq3 hP hS => ?_)
  obtain ⟨hI, hq3, hqa3, hql3, hp3, x3_1, x3_2, x3_3, hx3, ex3_1, ex3_2, ex3_3⟩ := hq3
  have hI : YI v3 ar3 := hI
  have hp3 : ∀ t : Nat, t < 3 → ar3 14 t = iI 0 := hp3
  refine lv_iconst (v := iI (0)) hE.1 hE.2.1 dX9_lays_4 (by decide) ?_
  refine lv_istore_n (lv' := [(1, .int (iI (0))), (0, .ref (ad 0))]) hE.1 hE.2.1 dX9_lays_5 rfl hl (by decide) rfl (fun ls hl => ?_)
  have loop4 : ∀ (k4 : Nat) (y4_1 : Int) (yf4_0 : Int) (yf4_1 : Int) (yf4_2 : Int) (vl4 arl4 : sI) (all4 : sL) (H : Heap) (locs : List Loc) (ls : Array Slot), (18 - y4_1).toNat = k4 → (0 ≤ y4_1 ∧ y4_1 ≤ 18) → (0 ≤ yf4_0 ∧ yf4_0 ≤ 18 ∧ 0 ≤ yf4_1 ∧ yf4_1 ≤ 511 ∧ -1 ≤ yf4_2 ∧ yf4_2 ≤ 8 ∧ (yf4_0 = y4_1 ∧ y4_1 ≤ w_1 ∧ (yf4_1 = 0 ∨ 0 ≤ yf4_2))) → (vl4 0 24 = iI yf4_0) → (vl4 0 25 = iI yf4_1) → (vl4 0 26 = iI yf4_2) → (LY (ar 10) w_2 yf4_0 yf4_1 (arl4 12) (arl4 14)) → YI vl4 arl4 → (∀ i j : Nat, (i, j) ∉ ([(0, 24), (0, 25), (0, 26), (0, 27)] : List (Nat × Nat)) → vl4 i j = v3 i j) → (∀ i : Nat, i ∉ ([12, 13, 14] : List Nat) → arl4 i = ar3 i) → (∀ i : Nat, i ∉ ([] : List Nat) → all4 i = al3 i) → va_P D xcl (wW ad (yG ad K) 21 vl4 arl4 all4) H → va_S (inW ad 21) s.heap H locs → lv_has ls 2 [(1, .int (iI (y4_1))), (0, .ref (ad 0))] → W p l e (rmD 3) s m args below meth c H locs 0 0 Q (F0 m 6 ls []) := by
    intro k4
    induction k4 using Nat.strongRecOn with
    | _ k4 ih4 =>
      intro y4_1 yf4_0 yf4_1 yf4_2 vl4 arl4 all4 H locs ls hk4 hb_y4_1 hyf4 eyf4_0 eyf4_1 eyf4_2 hb_xi4 hI hfr4 hfa4 hfl4 hP hS hl
      refine lv_iload_n hE.1 hE.2.1 dX9_lays_6 rfl (lv_at hl 0 rfl) ?_
      refine lv_aload_n hE.1 hE.2.1 dX9_lays_7 rfl (lv_at hl 1 rfl) ?_
      refine x_get (x := .ref (ad 7)) hE hK hP 0 (by decide) (yG_9 rfl) rfl hin9 17 (by decide) mw_1351 rfl dX9_lays_8 ?_
      refine lv_iconst (v := iI (5)) hE.1 hE.2.1 dX9_lays_11 (by decide) ?_
      refine x_iald (j := iI (5)) hE hK hP 7 (by decide) (yG_10 rfl) (iI_in (n := 30) (by omega)) dX9_lays_12 ?_
      refine x_top (y := iI (w_1)) (by rw [show (iI (5)).toNatClampNeg = 5 from by decide]; exact ((congrFun (hfa4 7 (by decide)) 5).trans ((congrFun (hqa3 7 (by decide)) 5).trans ew_1))) ?_
      refine s_icmp_ge (a := y4_1) (b := w_1) (tgt := 32) hE.1 hE.2.1 (by omega) (by omega) dX9_lays_13 (by decide) (fun c6 => ?_) (fun c6 => ?_)
      · skip
        exact kr vl4 arl4 all4 _ _ _ _ ⟨hI, fun i j h => ((hfr4 i j (fun q => h (mem_sub (by decide) q))).trans (hq3 i j (fun q => h (mem_sub (by decide) q)))), fun i h => ((hfa4 i (fun q => h (mem_subn (by decide) q))).trans (hqa3 i (fun q => h (mem_subn (by decide) q)))), fun i h => ((hfl4 i (fun q => h (mem_subn (by decide) q))).trans (hql3 i (fun q => h (mem_subn (by decide) q)))), LY_end hb_xi4 eyf4_1 (by omega) (by omega), yf4_0, yf4_1, yf4_2, by omega, eyf4_0, eyf4_1, eyf4_2⟩ hP hS dX9_lays_32
      · skip
        refine lv_aload_n hE.1 hE.2.1 dX9_lays_16 rfl (lv_at hl 1 rfl) ?_
        refine lv_aload_n hE.1 hE.2.1 dX9_lays_17 rfl (lv_at hl 1 rfl) ?_
        refine x_get (x := .ref (ad 10)) hE hK hP 0 (by decide) (yG_9 rfl) rfl hin9 20 (by decide) mw_1354 rfl dX9_lays_18 ?_
        refine lv_iload_n hE.1 hE.2.1 dX9_lays_21 rfl (lv_at hl 0 rfl) ?_
        refine x_iald (j := iI (y4_1)) hE hK hP 10 (by decide) (yG_10 rfl) (iI_in (n := 90) (by omega)) dX9_lays_22 ?_
        obtain ⟨z8, hz8, ez8⟩ := YI_a10 hI ((iI (y4_1)).toNatClampNeg)
        refine x_top ez8 ?_
        have e10_z8 : ar 10 (iI (y4_1)).toNatClampNeg = iI (z8) := (congrFun (show arl4 10 = ar 10 from ((hfa4 10 (by decide)).trans (hqa3 10 (by decide)))) _).symm.trans ez8
        refine x_vv (nn := 1) (As := [.int (iI (z8))]) (rest := []) hE hK hN hP hS (s_X9_puts_e l D K ad vl4 arl4 all4 hI (yf4_0) (by omega) eyf4_0 (yf4_1) (by omega) eyf4_1 (yf4_2) (by omega) eyf4_2 (w_2) (by omega) ((congrFun (hfa4 7 (by decide)) 0).trans ((congrFun (hqa3 7 (by decide)) 0).trans ew_2)) (z8) (by omega)) (x_recv hK hP 0 (by decide) (yG_9 rfl) rfl) rfl mw_1646 mw_1648 mw_71 mw_123 mw_1649 (by decide +kernel) ⟨by decide, by decide⟩ hl.1 rfl (Nat.le_of_ble_eq_true rfl) ⟨Nat.zero_le _, Nat.zero_le _⟩ dX9_lays_23 (fun v9 ar9 al9 H locs hq9 hP hS => ?_)
        obtain ⟨hI, hq9, hqa9, hql9, hp9, x9_1, x9_2, x9_3, hx9, ex9_1, ex9_2, ex9_3⟩ := hq9
        have hI : YI v9 ar9 := hI
        have hp9 : PX (w_2) (yf4_0) (z8) (arl4 12) (arl4 14) (ar9 12) (ar9 14) := hp9
        refine lv_iinc (v := iI (y4_1 + 1)) (lv' := [(1, .int (iI (y4_1 + 1))), (0, .ref (ad 0))]) hE.1 hE.2.1 dX9_lays_26 hl (k := 0) rfl ((iI_add (y4_1) (1)).trans (congrArg iI (by omega))) (by decide) rfl (fun ls hl => ?_)
        refine lv_goto (tgt := 6) hE.1 hE.2.1 dX9_lays_29 (by decide) ?_
        exact ih4 _ (by omega) (y4_1 + 1) (x9_1) (x9_2) (x9_3) v9 ar9 al9 _ _ _ rfl (by omega) (by omega) ex9_1 ex9_2 ex9_3 (LY_step hb_xi4 hp9 e10_z8 (by omega) (by omega) (by omega) (by omega) (by omega) (by omega) (by omega))  hI (fun i j h => ((hq9 i j (fun q => h (mem_sub (by decide) q))).trans (hfr4 i j h))) (fun i h => ((hqa9 i (fun q => h (mem_subn (by decide) q))).trans (hfa4 i h))) (fun i h => ((hql9 i (fun q => h (mem_subn (by decide) q))).trans (hfl4 i h))) hP hS (lv_sub hl [0, 1] rfl)
  exact loop4 _ (0) (x3_1) (x3_2) (x3_3) v3 ar3 al3 _ _ _ rfl (by omega) (by omega) ex3_1 ex3_2 ex3_3 (LY_0 hp3 (by omega) (by omega)) hI (fun _ _ _ => rfl) (fun _ _ => rfl) (fun _ _ => rfl) hP hS hl

set_option maxHeartbeats 4000000 in
set_option maxRecDepth 100000 in
theorem s_X9_isBit_e (l : Launch) (z_1 : Int) (hz_1 : -2147483648 ≤ z_1 ∧ z_1 ≤ 2147483647) (z_2 : Int) (hz_2 : -2147483648 ≤ z_2 ∧ z_2 ≤ 2147483647) : Met l yX9_isBit (wM yX9_isBit cX9_isBit 2 (some .boolean)) (rmD 0) (va_Pc [.int (iI (z_1)), .int (iI (z_2))] (fun _ => True)) (vp_Si (fun r => ∃ z : Int, (z = bt z_1 z_2 ∧ 0 ≤ z ∧ z ≤ 1) ∧ r = iI z)) 0 0 (fun _ => False) := by
  refine s_metP (by decide) (Nat.le_of_ble_eq_true rfl) ?_
  intro p e s m below meth c ls args Q hE hB hl kr
  have hE : CallFix p m c cX9_isBit 2 s args tbG "TaleCourtModel" := hE
  have hl : lv_has ls 2 [(0, .int (iI (z_1))), (1, .int (iI (z_2)))] := hl
  refine lv_iload_n hE.1 hE.2.1 dX9_isBit_0 rfl (lv_at hl 0 rfl) ?_
  refine lv_iload_n hE.1 hE.2.1 dX9_isBit_1 rfl (lv_at hl 1 rfl) ?_
  refine lv_ishr hE.1 hE.2.1 dX9_isBit_2 ?_
  obtain ⟨z1, hz1, ez1⟩ := iI_of (iI (z_1) >>> (iI (z_2) &&& 31))
  refine x_top ez1 ?_
  refine lv_iconst (v := iI (1)) hE.1 hE.2.1 dX9_isBit_3 (by decide) ?_
  refine lv_iand hE.1 hE.2.1 dX9_isBit_4 ?_
  obtain ⟨z2, hz2, ez2⟩ := bt_of ez1
  refine x_top ez2 ?_
  refine lv_iconst (v := iI (1)) hE.1 hE.2.1 dX9_isBit_5 (by decide) ?_
  refine s_icmp_ne (a := z2) (b := 1) (tgt := 13) hE.1 hE.2.1 (by omega) (by omega) dX9_isBit_6 (by decide) (fun c3 => ?_) (fun c3 => ?_)
  · skip
    refine lv_iconst (v := iI (0)) hE.1 hE.2.1 dX9_isBit_13 (by decide) ?_
    exact kr _ _ _ (nar01 (by omega)) ⟨0, by omega, rfl⟩ dX9_isBit_14
  · skip
    refine lv_iconst (v := iI (1)) hE.1 hE.2.1 dX9_isBit_9 (by decide) ?_
    refine lv_goto (tgt := 14) hE.1 hE.2.1 dX9_isBit_10 (by decide) ?_
    exact kr _ _ _ (nar01 (by omega)) ⟨1, by omega, rfl⟩ dX9_isBit_14

set_option maxHeartbeats 4000000 in
set_option maxRecDepth 100000 in
theorem s_X9_whyNot_e (l : Launch) (D : va_G) (K : Nat → ClassId) (ad : Nat → Nat) (v ar : sI) (al : sL) (hI : YI v ar) (w_1 : Int) (hw_1 : 1 ≤ w_1 ∧ w_1 ≤ 3) (ew_1 : ar 7 0 = iI w_1) (w_2 : Int) (hw_2 : 0 ≤ w_2 ∧ w_2 ≤ 511) (ew_2 : v 0 25 = iI w_2) (z_1 : Int) (hz_1 : 0 ≤ z_1 ∧ z_1 ≤ 8) : Met l yX9_whyNot (wM yX9_whyNot cX9_whyNot 2 (some .int)) (rmD 2) (va_Pc [.ref (ad 0), .int (iI (z_1))] (wPre D K ad (yG ad K) 21 v ar al)) (vp_Si (fun r => ∃ z : Int, ((1 ≤ z ∧ z ≤ 6) ∨ (z = 0 ∧ bt w_2 z_1 = 0)) ∧ r = iI z)) 0 0 (fun _ => False) := by
  refine s_metP (by decide) (Nat.le_of_ble_eq_true rfl) ?_
  intro p e s m below meth c ls args Q hE hB hl kr
  have hE : CallFix p m c cX9_whyNot 2 s args tbG "TaleCourtModel" := hE
  obtain ⟨hP, hK, hN⟩ := hB
  have hl : lv_has ls 2 [(0, .ref (ad 0)), (1, .int (iI (z_1)))] := hl
  refine lv_aload_n hE.1 hE.2.1 dX9_whyNot_0 rfl (lv_at hl 0 rfl) ?_
  refine x_get (x := .int (v 0 25)) hE hK hP 0 (by decide) (yG_9 rfl) rfl hin9 25 (by decide) mw_1359 rfl dX9_whyNot_1 ?_
  refine x_top (y := iI (w_2)) ew_2 ?_
  refine lv_iload_n hE.1 hE.2.1 dX9_whyNot_4 rfl (lv_at hl 1 rfl) ?_
  refine x_sp (nn := 2) (As := [.int (iI (w_2)), .int (iI (z_1))]) (rest := []) hE (s_X9_isBit_e l (w_2) (by omega) (z_1) (by omega)) tt_blind (fun _ _ _ => trivial) rfl mw_1683 mw_1684 mw_123 mw_1685 (by decide +kernel) ⟨by decide, by decide⟩ hl.1 rfl (Nat.le_of_ble_eq_true rfl) ⟨Nat.zero_le _, Nat.zero_le _⟩ dX9_whyNot_5 (fun r1 hr1 => ?_)
  obtain ⟨z1, hz1, rfl⟩ := hr1
  refine s_if_eq (a := z1) (tgt := 13) hE.1 hE.2.1 (by omega) dX9_whyNot_8 (by decide) (fun c2 => ?_) (fun c2 => ?_)
  · skip
    refine lv_aload_n hE.1 hE.2.1 dX9_whyNot_13 rfl (lv_at hl 0 rfl) ?_
    refine x_get (x := .int (v 0 25)) hE hK hP 0 (by decide) (yG_9 rfl) rfl hin9 25 (by decide) mw_1359 rfl dX9_whyNot_14 ?_
    refine x_top (y := iI (w_2)) ew_2 ?_
    refine lv_aload_n hE.1 hE.2.1 dX9_whyNot_17 rfl (lv_at hl 0 rfl) ?_
    refine lv_iload_n hE.1 hE.2.1 dX9_whyNot_18 rfl (lv_at hl 1 rfl) ?_
    refine lv_bipush (v := iI (8)) hE.1 hE.2.1 dX9_whyNot_19 (by decide) ?_
    refine x_vp (nn := 2) (As := [.int (iI (z_1)), .int (iI (8))]) (rest := [.int (iI (w_2))]) hE (s_X9_of l D K ad v ar al hI  (z_1) (by omega) (8) (by omega)) wPre_blind (wPre_now hK hN hP) (x_recv hK hP 0 (by decide) (yG_9 rfl) rfl) rfl mw_1654 mw_1656 mw_73 mw_123 mw_1657 (by decide +kernel) ⟨by decide, by decide⟩ hl.1 rfl (Nat.le_of_ble_eq_true rfl) ⟨Nat.zero_le _, Nat.zero_le _⟩ dX9_whyNot_21 (fun r3 hr3 => ?_)
    obtain ⟨z3, hz3, rfl⟩ := hr3
    refine lv_iand hE.1 hE.2.1 dX9_whyNot_24 ?_
    obtain ⟨z4, hz4, ez4⟩ := iI_and9 (a := w_2) (by omega) (iI (z3))
    refine x_top ez4 ?_
    refine s_if_eq (a := z4) (tgt := 30) hE.1 hE.2.1 (by omega) dX9_whyNot_25 (by decide) (fun c5 => ?_) (fun c5 => ?_)
    · skip
      refine lv_aload_n hE.1 hE.2.1 dX9_whyNot_30 rfl (lv_at hl 0 rfl) ?_
      refine lv_iload_n hE.1 hE.2.1 dX9_whyNot_31 rfl (lv_at hl 1 rfl) ?_
      refine x_vp (nn := 1) (As := [.int (iI (z_1))]) (rest := []) hE (s_X9_joinsOn l D K ad v ar al hI  (z_1) (by omega)) wPre_blind (wPre_now hK hN hP) (x_recv hK hP 0 (by decide) (yG_9 rfl) rfl) rfl mw_1702 mw_1704 mw_76 mw_123 mw_1705 (by decide +kernel) ⟨by decide, by decide⟩ hl.1 rfl (Nat.le_of_ble_eq_true rfl) ⟨Nat.zero_le _, Nat.zero_le _⟩ dX9_whyNot_32 (fun r6 hr6 => ?_)
      obtain ⟨z6, hz6, rfl⟩ := hr6
      refine s_if_ne (a := z6) (tgt := 40) hE.1 hE.2.1 (by omega) dX9_whyNot_35 (by decide) (fun c7 => ?_) (fun c7 => ?_)
      · skip
        refine lv_aload_n hE.1 hE.2.1 dX9_whyNot_40 rfl (lv_at hl 0 rfl) ?_
        refine lv_iload_n hE.1 hE.2.1 dX9_whyNot_41 rfl (lv_at hl 1 rfl) ?_
        refine lv_iconst (v := iI (2)) hE.1 hE.2.1 dX9_whyNot_42 (by decide) ?_
        refine x_vp (nn := 2) (As := [.int (iI (z_1)), .int (iI (2))]) (rest := []) hE (s_X9_of l D K ad v ar al hI  (z_1) (by omega) (2) (by omega)) wPre_blind (wPre_now hK hN hP) (x_recv hK hP 0 (by decide) (yG_9 rfl) rfl) rfl mw_1654 mw_1656 mw_73 mw_123 mw_1657 (by decide +kernel) ⟨by decide, by decide⟩ hl.1 rfl (Nat.le_of_ble_eq_true rfl) ⟨Nat.zero_le _, Nat.zero_le _⟩ dX9_whyNot_43 (fun r8 hr8 => ?_)
        obtain ⟨z8, hz8, rfl⟩ := hr8
        refine lv_iconst (v := iI (1)) hE.1 hE.2.1 dX9_whyNot_46 (by decide) ?_
        refine s_icmp_ne (a := z8) (b := 1) (tgt := 61) hE.1 hE.2.1 (by omega) (by omega) dX9_whyNot_47 (by decide) (fun c9 => ?_) (fun c9 => ?_)
        · skip
          refine lv_aload_n hE.1 hE.2.1 dX9_whyNot_61 rfl (lv_at hl 0 rfl) ?_
          refine lv_iload_n hE.1 hE.2.1 dX9_whyNot_62 rfl (lv_at hl 1 rfl) ?_
          refine x_vp (nn := 1) (As := [.int (iI (z_1))]) (rest := []) hE (s_X9_isLate l D K ad v ar al hI  (z_1) (by omega)) wPre_blind (wPre_now hK hN hP) (x_recv hK hP 0 (by decide) (yG_9 rfl) rfl) rfl mw_1706 mw_1708 mw_77 mw_123 mw_1709 (by decide +kernel) ⟨by decide, by decide⟩ hl.1 rfl (Nat.le_of_ble_eq_true rfl) ⟨Nat.zero_le _, Nat.zero_le _⟩ dX9_whyNot_63 (fun r10 hr10 => ?_)
          obtain ⟨z10, hz10, rfl⟩ := hr10
          refine s_if_eq (a := z10) (tgt := 71) hE.1 hE.2.1 (by omega) dX9_whyNot_66 (by decide) (fun c11 => ?_) (fun c11 => ?_)
          · skip
            refine lv_aload_n hE.1 hE.2.1 dX9_whyNot_71 rfl (lv_at hl 0 rfl) ?_
            refine lv_iload_n hE.1 hE.2.1 dX9_whyNot_72 rfl (lv_at hl 1 rfl) ?_
            refine lv_bipush (v := iI (6)) hE.1 hE.2.1 dX9_whyNot_73 (by decide) ?_
            refine x_vp (nn := 2) (As := [.int (iI (z_1)), .int (iI (6))]) (rest := []) hE (s_X9_of l D K ad v ar al hI  (z_1) (by omega) (6) (by omega)) wPre_blind (wPre_now hK hN hP) (x_recv hK hP 0 (by decide) (yG_9 rfl) rfl) rfl mw_1654 mw_1656 mw_73 mw_123 mw_1657 (by decide +kernel) ⟨by decide, by decide⟩ hl.1 rfl (Nat.le_of_ble_eq_true rfl) ⟨Nat.zero_le _, Nat.zero_le _⟩ dX9_whyNot_75 (fun r12 hr12 => ?_)
            obtain ⟨z12, hz12, rfl⟩ := hr12
            refine lv_iconst (v := iI (-1)) hE.1 hE.2.1 dX9_whyNot_78 (by decide) ?_
            refine s_icmp_eq (a := z12) (b := -1) (tgt := 108) hE.1 hE.2.1 (by omega) (by omega) dX9_whyNot_79 (by decide) (fun c13 => ?_) (fun c13 => ?_)
            · skip
              refine lv_iconst (v := iI (0)) hE.1 hE.2.1 dX9_whyNot_108 (by decide) ?_
              exact kr _ _ _ rfl ⟨0, by omega, rfl⟩ dX9_whyNot_109
            · skip
              refine lv_aload_n hE.1 hE.2.1 dX9_whyNot_82 rfl (lv_at hl 0 rfl) ?_
              refine lv_iload_n hE.1 hE.2.1 dX9_whyNot_83 rfl (lv_at hl 1 rfl) ?_
              refine lv_bipush (v := iI (6)) hE.1 hE.2.1 dX9_whyNot_84 (by decide) ?_
              refine x_vp (nn := 2) (As := [.int (iI (z_1)), .int (iI (6))]) (rest := []) hE (s_X9_of l D K ad v ar al hI  (z_1) (by omega) (6) (by omega)) wPre_blind (wPre_now hK hN hP) (x_recv hK hP 0 (by decide) (yG_9 rfl) rfl) rfl mw_1654 mw_1656 mw_73 mw_123 mw_1657 (by decide +kernel) ⟨by decide, by decide⟩ hl.1 rfl (Nat.le_of_ble_eq_true rfl) ⟨Nat.zero_le _, Nat.zero_le _⟩ dX9_whyNot_86 (fun r14 hr14 => ?_)
              obtain ⟨z14, hz14, rfl⟩ := hr14
              refine lv_aload_n hE.1 hE.2.1 dX9_whyNot_89 rfl (lv_at hl 0 rfl) ?_
              obtain ⟨z15, hz15, ez15⟩ := YI_get hI 0 24 0 60 (by decide)
              refine x_get (x := .int (v 0 24)) hE hK hP 0 (by decide) (yG_9 rfl) rfl hin9 24 (by decide) mw_1358 rfl dX9_whyNot_90 ?_
              refine x_top (y := iI (z15)) ez15 ?_
              refine lv_aload_n hE.1 hE.2.1 dX9_whyNot_93 rfl (lv_at hl 0 rfl) ?_
              refine x_get (x := .ref (ad 7)) hE hK hP 0 (by decide) (yG_9 rfl) rfl hin9 17 (by decide) mw_1351 rfl dX9_whyNot_94 ?_
              refine lv_iconst (v := iI (0)) hE.1 hE.2.1 dX9_whyNot_97 (by decide) ?_
              refine x_iald (j := iI (0)) hE hK hP 7 (by decide) (yG_10 rfl) (iI_in (n := 30) (by omega)) dX9_whyNot_98 ?_
              refine x_top (y := iI (w_1)) (by rw [show (iI (0)).toNatClampNeg = 0 from by decide]; exact ew_1) ?_
              refine lv_irem hE.1 hE.2.1 dX9_whyNot_99 (iI_ne0 (by omega) (by omega)) ?_
              obtain ⟨z17, hz17⟩ : ∃ z : Int, z = (z15) % (w_1) ∧ 0 ≤ z ∧ z < w_1 := ⟨_, rfl, Int.emod_nonneg _ (by omega), Int.emod_lt_of_pos _ (by omega)⟩
              refine x_top (y := iI (z17)) ((iI_rem (by omega) (by omega)).trans (congrArg iI hz17.1.symm)) ?_
              have er17 : z17 = rm (z15) (w_1) := hz17.1
              replace hz17 := hz17.2
              refine s_icmp_eq (a := z14) (b := z17) (tgt := 108) hE.1 hE.2.1 (by omega) (by omega) dX9_whyNot_100 (by decide) (fun c18 => ?_) (fun c18 => ?_)
              · skip
                refine lv_iconst (v := iI (0)) hE.1 hE.2.1 dX9_whyNot_108 (by decide) ?_
                exact kr _ _ _ rfl ⟨0, by omega, rfl⟩ dX9_whyNot_109
              · skip
                refine lv_bipush (v := iI (6)) hE.1 hE.2.1 dX9_whyNot_103 (by decide) ?_
                refine lv_goto (tgt := 109) hE.1 hE.2.1 dX9_whyNot_105 (by decide) ?_
                exact kr _ _ _ rfl ⟨6, by omega, rfl⟩ dX9_whyNot_109
          · skip
            refine lv_iconst (v := iI (5)) hE.1 hE.2.1 dX9_whyNot_69 (by decide) ?_
            exact kr _ _ _ rfl ⟨5, by omega, rfl⟩ dX9_whyNot_70
        · skip
          refine lv_aload_n hE.1 hE.2.1 dX9_whyNot_50 rfl (lv_at hl 0 rfl) ?_
          obtain ⟨z19, hz19, ez19⟩ := YI_get hI 0 24 0 60 (by decide)
          refine x_get (x := .int (v 0 24)) hE hK hP 0 (by decide) (yG_9 rfl) rfl hin9 24 (by decide) mw_1358 rfl dX9_whyNot_51 ?_
          refine x_top (y := iI (z19)) ez19 ?_
          refine lv_iconst (v := iI (2)) hE.1 hE.2.1 dX9_whyNot_54 (by decide) ?_
          refine lv_irem hE.1 hE.2.1 dX9_whyNot_55 (iI_ne0 (by omega) (by omega)) ?_
          obtain ⟨z20, hz20⟩ : ∃ z : Int, z = (z19) % (2) ∧ 0 ≤ z ∧ z < 2 := ⟨_, rfl, Int.emod_nonneg _ (by omega), Int.emod_lt_of_pos _ (by omega)⟩
          refine x_top (y := iI (z20)) ((iI_rem (by omega) (by omega)).trans (congrArg iI hz20.1.symm)) ?_
          have er20 : z20 = rm (z19) (2) := hz20.1
          replace hz20 := hz20.2
          refine s_if_ne (a := z20) (tgt := 61) hE.1 hE.2.1 (by omega) dX9_whyNot_56 (by decide) (fun c21 => ?_) (fun c21 => ?_)
          · skip
            refine lv_aload_n hE.1 hE.2.1 dX9_whyNot_61 rfl (lv_at hl 0 rfl) ?_
            refine lv_iload_n hE.1 hE.2.1 dX9_whyNot_62 rfl (lv_at hl 1 rfl) ?_
            refine x_vp (nn := 1) (As := [.int (iI (z_1))]) (rest := []) hE (s_X9_isLate l D K ad v ar al hI  (z_1) (by omega)) wPre_blind (wPre_now hK hN hP) (x_recv hK hP 0 (by decide) (yG_9 rfl) rfl) rfl mw_1706 mw_1708 mw_77 mw_123 mw_1709 (by decide +kernel) ⟨by decide, by decide⟩ hl.1 rfl (Nat.le_of_ble_eq_true rfl) ⟨Nat.zero_le _, Nat.zero_le _⟩ dX9_whyNot_63 (fun r22 hr22 => ?_)
            obtain ⟨z22, hz22, rfl⟩ := hr22
            refine s_if_eq (a := z22) (tgt := 71) hE.1 hE.2.1 (by omega) dX9_whyNot_66 (by decide) (fun c23 => ?_) (fun c23 => ?_)
            · skip
              refine lv_aload_n hE.1 hE.2.1 dX9_whyNot_71 rfl (lv_at hl 0 rfl) ?_
              refine lv_iload_n hE.1 hE.2.1 dX9_whyNot_72 rfl (lv_at hl 1 rfl) ?_
              refine lv_bipush (v := iI (6)) hE.1 hE.2.1 dX9_whyNot_73 (by decide) ?_
              refine x_vp (nn := 2) (As := [.int (iI (z_1)), .int (iI (6))]) (rest := []) hE (s_X9_of l D K ad v ar al hI  (z_1) (by omega) (6) (by omega)) wPre_blind (wPre_now hK hN hP) (x_recv hK hP 0 (by decide) (yG_9 rfl) rfl) rfl mw_1654 mw_1656 mw_73 mw_123 mw_1657 (by decide +kernel) ⟨by decide, by decide⟩ hl.1 rfl (Nat.le_of_ble_eq_true rfl) ⟨Nat.zero_le _, Nat.zero_le _⟩ dX9_whyNot_75 (fun r24 hr24 => ?_)
              obtain ⟨z24, hz24, rfl⟩ := hr24
              refine lv_iconst (v := iI (-1)) hE.1 hE.2.1 dX9_whyNot_78 (by decide) ?_
              refine s_icmp_eq (a := z24) (b := -1) (tgt := 108) hE.1 hE.2.1 (by omega) (by omega) dX9_whyNot_79 (by decide) (fun c25 => ?_) (fun c25 => ?_)
              · skip
                refine lv_iconst (v := iI (0)) hE.1 hE.2.1 dX9_whyNot_108 (by decide) ?_
                exact kr _ _ _ rfl ⟨0, by omega, rfl⟩ dX9_whyNot_109
              · skip
                refine lv_aload_n hE.1 hE.2.1 dX9_whyNot_82 rfl (lv_at hl 0 rfl) ?_
                refine lv_iload_n hE.1 hE.2.1 dX9_whyNot_83 rfl (lv_at hl 1 rfl) ?_
                refine lv_bipush (v := iI (6)) hE.1 hE.2.1 dX9_whyNot_84 (by decide) ?_
                refine x_vp (nn := 2) (As := [.int (iI (z_1)), .int (iI (6))]) (rest := []) hE (s_X9_of l D K ad v ar al hI  (z_1) (by omega) (6) (by omega)) wPre_blind (wPre_now hK hN hP) (x_recv hK hP 0 (by decide) (yG_9 rfl) rfl) rfl mw_1654 mw_1656 mw_73 mw_123 mw_1657 (by decide +kernel) ⟨by decide, by decide⟩ hl.1 rfl (Nat.le_of_ble_eq_true rfl) ⟨Nat.zero_le _, Nat.zero_le _⟩ dX9_whyNot_86 (fun r26 hr26 => ?_)
                obtain ⟨z26, hz26, rfl⟩ := hr26
                refine lv_aload_n hE.1 hE.2.1 dX9_whyNot_89 rfl (lv_at hl 0 rfl) ?_
                refine x_get (x := .int (v 0 24)) hE hK hP 0 (by decide) (yG_9 rfl) rfl hin9 24 (by decide) mw_1358 rfl dX9_whyNot_90 ?_
                refine x_top (y := iI (z19)) ez19 ?_
                refine lv_aload_n hE.1 hE.2.1 dX9_whyNot_93 rfl (lv_at hl 0 rfl) ?_
                refine x_get (x := .ref (ad 7)) hE hK hP 0 (by decide) (yG_9 rfl) rfl hin9 17 (by decide) mw_1351 rfl dX9_whyNot_94 ?_
                refine lv_iconst (v := iI (0)) hE.1 hE.2.1 dX9_whyNot_97 (by decide) ?_
                refine x_iald (j := iI (0)) hE hK hP 7 (by decide) (yG_10 rfl) (iI_in (n := 30) (by omega)) dX9_whyNot_98 ?_
                refine x_top (y := iI (w_1)) (by rw [show (iI (0)).toNatClampNeg = 0 from by decide]; exact ew_1) ?_
                refine lv_irem hE.1 hE.2.1 dX9_whyNot_99 (iI_ne0 (by omega) (by omega)) ?_
                obtain ⟨z28, hz28⟩ : ∃ z : Int, z = (z19) % (w_1) ∧ 0 ≤ z ∧ z < w_1 := ⟨_, rfl, Int.emod_nonneg _ (by omega), Int.emod_lt_of_pos _ (by omega)⟩
                refine x_top (y := iI (z28)) ((iI_rem (by omega) (by omega)).trans (congrArg iI hz28.1.symm)) ?_
                have er28 : z28 = rm (z19) (w_1) := hz28.1
                replace hz28 := hz28.2
                refine s_icmp_eq (a := z26) (b := z28) (tgt := 108) hE.1 hE.2.1 (by omega) (by omega) dX9_whyNot_100 (by decide) (fun c29 => ?_) (fun c29 => ?_)
                · skip
                  refine lv_iconst (v := iI (0)) hE.1 hE.2.1 dX9_whyNot_108 (by decide) ?_
                  exact kr _ _ _ rfl ⟨0, by omega, rfl⟩ dX9_whyNot_109
                · skip
                  refine lv_bipush (v := iI (6)) hE.1 hE.2.1 dX9_whyNot_103 (by decide) ?_
                  refine lv_goto (tgt := 109) hE.1 hE.2.1 dX9_whyNot_105 (by decide) ?_
                  exact kr _ _ _ rfl ⟨6, by omega, rfl⟩ dX9_whyNot_109
            · skip
              refine lv_iconst (v := iI (5)) hE.1 hE.2.1 dX9_whyNot_69 (by decide) ?_
              exact kr _ _ _ rfl ⟨5, by omega, rfl⟩ dX9_whyNot_70
          · skip
            refine lv_iconst (v := iI (4)) hE.1 hE.2.1 dX9_whyNot_59 (by decide) ?_
            exact kr _ _ _ rfl ⟨4, by omega, rfl⟩ dX9_whyNot_60
      · skip
        refine lv_iconst (v := iI (3)) hE.1 hE.2.1 dX9_whyNot_38 (by decide) ?_
        exact kr _ _ _ rfl ⟨3, by omega, rfl⟩ dX9_whyNot_39
    · skip
      refine lv_iconst (v := iI (2)) hE.1 hE.2.1 dX9_whyNot_28 (by decide) ?_
      exact kr _ _ _ rfl ⟨2, by omega, rfl⟩ dX9_whyNot_29
  · skip
    refine lv_iconst (v := iI (1)) hE.1 hE.2.1 dX9_whyNot_11 (by decide) ?_
    exact kr _ _ _ rfl ⟨1, by omega, rfl⟩ dX9_whyNot_12

theorem dX9_keepsTale_0 : decode cX9_keepsTale 0 = .ok (.aload_n 0, 1) := by decide +kernel
theorem dX9_keepsTale_1 : decode cX9_keepsTale 1 = .ok (.getfield 34, 3) := by decide +kernel
theorem dX9_keepsTale_4 : decode cX9_keepsTale 4 = .ok (.iconst 5, 1) := by decide +kernel
theorem dX9_keepsTale_5 : decode cX9_keepsTale 5 = .ok (.aload_n 0, 1) := by decide +kernel
theorem dX9_keepsTale_6 : decode cX9_keepsTale 6 = .ok (.getfield 265, 3) := by decide +kernel
theorem dX9_keepsTale_9 : decode cX9_keepsTale 9 = .ok (.iastore, 1) := by decide +kernel
theorem dX9_keepsTale_10 : decode cX9_keepsTale 10 = .ok (.iconst 0, 1) := by decide +kernel
theorem dX9_keepsTale_11 : decode cX9_keepsTale 11 = .ok (.istore_n 1, 1) := by decide +kernel
theorem dX9_keepsTale_12 : decode cX9_keepsTale 12 = .ok (.iload_n 1, 1) := by decide +kernel
theorem dX9_keepsTale_13 : decode cX9_keepsTale 13 = .ok (.aload_n 0, 1) := by decide +kernel
theorem dX9_keepsTale_14 : decode cX9_keepsTale 14 = .ok (.getfield 265, 3) := by decide +kernel
theorem dX9_keepsTale_17 : decode cX9_keepsTale 17 = .ok (.if_icmp .ge 21, 3) := by decide +kernel
theorem dX9_keepsTale_20 : decode cX9_keepsTale 20 = .ok (.aload_n 0, 1) := by decide +kernel
theorem dX9_keepsTale_21 : decode cX9_keepsTale 21 = .ok (.getfield 43, 3) := by decide +kernel
theorem dX9_keepsTale_24 : decode cX9_keepsTale 24 = .ok (.iload_n 1, 1) := by decide +kernel
theorem dX9_keepsTale_25 : decode cX9_keepsTale 25 = .ok (.aload_n 0, 1) := by decide +kernel
theorem dX9_keepsTale_26 : decode cX9_keepsTale 26 = .ok (.getfield 50, 3) := by decide +kernel
theorem dX9_keepsTale_29 : decode cX9_keepsTale 29 = .ok (.iload_n 1, 1) := by decide +kernel
theorem dX9_keepsTale_30 : decode cX9_keepsTale 30 = .ok (.iaload, 1) := by decide +kernel
theorem dX9_keepsTale_31 : decode cX9_keepsTale 31 = .ok (.iastore, 1) := by decide +kernel
theorem dX9_keepsTale_32 : decode cX9_keepsTale 32 = .ok (.iinc 1 1, 3) := by decide +kernel
theorem dX9_keepsTale_35 : decode cX9_keepsTale 35 = .ok (.goto (-23), 3) := by decide +kernel
theorem dX9_keepsTale_38 : decode cX9_keepsTale 38 = .ok (.return_, 1) := by decide +kernel
set_option maxHeartbeats 4000000 in
set_option maxRecDepth 100000 in
theorem s_X9_keepsTale_e (l : Launch) (D : va_G) (K : Nat → ClassId) (ad : Nat → Nat) (v ar : sI) (al : sL) (hI : YI v ar) (w_1 : Int) (hw_1 : 0 ≤ w_1 ∧ w_1 ≤ 60) (ew_1 : v 0 24 = iI w_1) (w_2 : Int) (hw_2 : 1 ≤ w_2 ∧ w_2 ≤ 3) (ew_2 : ar 7 0 = iI w_2) (w_3 : Int) (hw_3 : 0 ≤ w_3 ∧ w_3 ≤ 3) (ew_3 : ar 7 1 = iI w_3) (hg : gGood (ar 12) w_2.toNat w_3.toNat w_1.toNat) : Met l yX9_keepsTale (wM yX9_keepsTale cX9_keepsTale 2 none) (rmD 0) (va_Pc [.ref (ad 0)] (wPre D K ad (yG ad K) 21 v ar al)) (va_Qv (fun u : sT => YI u.1 u.2.1 ∧ (∀ i j : Nat, (i, j) ∉ ([] : List (Nat × Nat)) → u.1 i j = v i j) ∧ (∀ i : Nat, i ∉ ([7, 10] : List Nat) → u.2.1 i = ar i) ∧ (∀ i : Nat, i ∉ ([] : List Nat) → u.2.2 i = al i)) (wB D ad (yG ad K) 21) (inW ad 21)) 0 0 (inW ad 21) := by
  refine s_metV (by decide) (Nat.le_of_ble_eq_true rfl) ?_
  intro p e s m below meth c ls args Q hE hB hl kr
  have hE : CallFix p m c cX9_keepsTale 2 s args tbG "TaleCourtModel" := hE
  obtain ⟨hP, hK, hN⟩ := hB
  have hS : va_S (inW ad 21) s.heap s.heap [] := va_S.rf
  have hl : lv_has ls 2 [(0, .ref (ad 0))] := hl
  have h18 := gd_le (by omega) (by omega) hI.2.1.2.2.2.2 hg
  refine lv_aload_n hE.1 hE.2.1 dX9_keepsTale_0 rfl (lv_at hl 0 rfl) ?_
  refine x_get (x := .ref (ad 7)) hE hK hP 0 (by decide) (yG_9 rfl) rfl hin9 17 (by decide) mw_1351 rfl dX9_keepsTale_1 ?_
  refine lv_iconst (v := iI (5)) hE.1 hE.2.1 dX9_keepsTale_4 (by decide) ?_
  refine lv_aload_n hE.1 hE.2.1 dX9_keepsTale_5 rfl (lv_at hl 0 rfl) ?_
  refine x_get (x := .int (v 0 24)) hE hK hP 0 (by decide) (yG_9 rfl) rfl hin9 24 (by decide) mw_1358 rfl dX9_keepsTale_6 ?_
  refine x_top (y := iI (w_1)) ew_1 ?_
  refine x_iast (j := iI (5)) hE hK hN hP hS 7 (by decide) (fun _ => yG_10 rfl) (iI_in (n := 30) (by omega)) dX9_keepsTale_9 (fun ar1 H locs ha1 hP hS => ?_)
  have hY := hI
  have hI := KJ_0 ar1 (y := 0) rfl
  refine lv_iconst (v := iI (0)) hE.1 hE.2.1 dX9_keepsTale_10 (by decide) ?_
  refine lv_istore_n (lv' := [(1, .int (iI (0))), (0, .ref (ad 0))]) hE.1 hE.2.1 dX9_keepsTale_11 rfl hl (by decide) rfl (fun ls hl => ?_)
  have loop2 : ∀ (k2 : Nat) (y2_1 : Int) (vl2 arl2 : sI) (all2 : sL) (H : Heap) (locs : List Loc) (ls : Array Slot), (18 - y2_1).toNat = k2 → (0 ≤ y2_1 ∧ y2_1 ≤ 18 ∧ y2_1 ≤ w_1) → KJ ar1 y2_1 arl2 → (∀ i j : Nat, (i, j) ∉ ([] : List (Nat × Nat)) → vl2 i j = v i j) → (∀ i : Nat, i ∉ ([10] : List Nat) → arl2 i = ar1 i) → (∀ i : Nat, i ∉ ([] : List Nat) → all2 i = al i) → va_P D xcl (wW ad (yG ad K) 21 vl2 arl2 all2) H → va_S (inW ad 21) s.heap H locs → lv_has ls 2 [(1, .int (iI (y2_1))), (0, .ref (ad 0))] → W p l e (rmD 0) s m args below meth c H locs 0 0 Q (F0 m 12 ls []) := by
    intro k2
    induction k2 using Nat.strongRecOn with
    | _ k2 ih2 =>
      intro y2_1  vl2 arl2 all2 H locs ls hk2 hb_y2_1 hI hfr2 hfa2 hfl2 hP hS hl
      refine lv_iload_n hE.1 hE.2.1 dX9_keepsTale_12 rfl (lv_at hl 0 rfl) ?_
      refine lv_aload_n hE.1 hE.2.1 dX9_keepsTale_13 rfl (lv_at hl 1 rfl) ?_
      refine x_get (x := .int (vl2 0 24)) hE hK hP 0 (by decide) (yG_9 rfl) rfl hin9 24 (by decide) mw_1358 rfl dX9_keepsTale_14 ?_
      refine x_top (y := iI (w_1)) ((hfr2 0 24 (by decide)).trans ew_1) ?_
      refine s_icmp_ge (a := y2_1) (b := w_1) (tgt := 38) hE.1 hE.2.1 (by omega) (by omega) dX9_keepsTale_17 (by decide) (fun c3 => ?_) (fun c3 => ?_)
      · skip
        have hI := YI_keeps hY (v' := vl2) (funext fun i => funext fun j => (hfr2 i j List.not_mem_nil)) ha1 hI (show y2_1 = w_1 by omega) (by omega) ew_2 (by omega) ew_3 (by omega) hg
        exact kr vl2 arl2 all2 _ _ _ _ ⟨hI, fun i j h => (hfr2 i j (fun q => h (mem_sub (by decide) q))), fun i h => ((hfa2 i (fun q => h (mem_subn (by decide) q))).trans (upx_ne ha1 i (fun q => h (by rw [q]; decide)))), fun i h => (hfl2 i (fun q => h (mem_subn (by decide) q)))⟩ hP hS dX9_keepsTale_38
      · skip
        refine lv_aload_n hE.1 hE.2.1 dX9_keepsTale_20 rfl (lv_at hl 1 rfl) ?_
        refine x_get (x := .ref (ad 10)) hE hK hP 0 (by decide) (yG_9 rfl) rfl hin9 20 (by decide) mw_1354 rfl dX9_keepsTale_21 ?_
        refine lv_iload_n hE.1 hE.2.1 dX9_keepsTale_24 rfl (lv_at hl 0 rfl) ?_
        refine lv_aload_n hE.1 hE.2.1 dX9_keepsTale_25 rfl (lv_at hl 1 rfl) ?_
        refine x_get (x := .ref (ad 12)) hE hK hP 0 (by decide) (yG_9 rfl) rfl hin9 22 (by decide) mw_1356 rfl dX9_keepsTale_26 ?_
        refine lv_iload_n hE.1 hE.2.1 dX9_keepsTale_29 rfl (lv_at hl 0 rfl) ?_
        refine x_iald (j := iI (y2_1)) hE hK hP 12 (by decide) (yG_10 rfl) (iI_in (n := 60) (by omega)) dX9_keepsTale_30 ?_
        obtain ⟨z5, hz5, ez5⟩ := iI_of (arl2 12 (iI (y2_1)).toNatClampNeg)
        refine x_top ez5 ?_
        refine x_iast (j := iI (y2_1)) hE hK hN hP hS 10 (by decide) (fun _ => yG_10 rfl) (iI_in (n := 90) (by omega)) dX9_keepsTale_31 (fun ar6 H locs ha6 hP hS => ?_)
        have hI := KJ_step (y1 := y2_1 + 1) hI ez5 ha6 (by omega) (by omega) (by omega) rfl
        refine lv_iinc (v := iI (y2_1 + 1)) (lv' := [(1, .int (iI (y2_1 + 1))), (0, .ref (ad 0))]) hE.1 hE.2.1 dX9_keepsTale_32 hl (k := 0) rfl ((iI_add (y2_1) (1)).trans (congrArg iI (by omega))) (by decide) rfl (fun ls hl => ?_)
        refine lv_goto (tgt := 12) hE.1 hE.2.1 dX9_keepsTale_35 (by decide) ?_
        exact ih2 _ (by omega) (y2_1 + 1)  vl2 ar6 all2 _ _ _ rfl (by omega)  hI (fun i j h => (hfr2 i j h)) (fun i h => ((upx_ne ha6 i (fun q => h (by rw [q]; decide))).trans (hfa2 i h))) (fun i h => (hfl2 i h)) hP hS (lv_sub hl [0, 1] rfl)
  exact loop2 _ (0)  v ar1 al _ _ _ rfl (by omega)  hI (fun _ _ _ => rfl) (fun _ _ => rfl) (fun _ _ => rfl) hP hS hl

theorem dX9_say_0 : decode cX9_say 0 = .ok (.aload_n 0, 1) := by decide +kernel
theorem dX9_say_1 : decode cX9_say 1 = .ok (.iconst 0, 1) := by decide +kernel
theorem dX9_say_2 : decode cX9_say 2 = .ok (.putfield 81, 3) := by decide +kernel
theorem dX9_say_5 : decode cX9_say 5 = .ok (.aload_n 0, 1) := by decide +kernel
theorem dX9_say_6 : decode cX9_say 6 = .ok (.iload_n 1, 1) := by decide +kernel
theorem dX9_say_7 : decode cX9_say 7 = .ok (.i2l, 1) := by decide +kernel
theorem dX9_say_8 : decode cX9_say 8 = .ok (.invokevirtual 253, 3) := by decide +kernel
theorem dX9_say_11 : decode cX9_say 11 = .ok (.ifCond .ne 6, 3) := by decide +kernel
theorem dX9_say_14 : decode cX9_say 14 = .ok (.bipush (-2), 2) := by decide +kernel
theorem dX9_say_16 : decode cX9_say 16 = .ok (.ireturn, 1) := by decide +kernel
theorem dX9_say_17 : decode cX9_say 17 = .ok (.aload_n 0, 1) := by decide +kernel
theorem dX9_say_18 : decode cX9_say 18 = .ok (.invokevirtual 246, 3) := by decide +kernel
theorem dX9_say_21 : decode cX9_say 21 = .ok (.aload_n 0, 1) := by decide +kernel
theorem dX9_say_22 : decode cX9_say 22 = .ok (.iload_n 1, 1) := by decide +kernel
theorem dX9_say_23 : decode cX9_say 23 = .ok (.invokevirtual 295, 3) := by decide +kernel
theorem dX9_say_26 : decode cX9_say 26 = .ok (.ifCond .eq 6, 3) := by decide +kernel
theorem dX9_say_29 : decode cX9_say 29 = .ok (.bipush (-5), 2) := by decide +kernel
theorem dX9_say_31 : decode cX9_say 31 = .ok (.ireturn, 1) := by decide +kernel
theorem dX9_say_32 : decode cX9_say 32 = .ok (.aload_n 0, 1) := by decide +kernel
theorem dX9_say_33 : decode cX9_say 33 = .ok (.iload_n 1, 1) := by decide +kernel
theorem dX9_say_34 : decode cX9_say 34 = .ok (.invokevirtual 283, 3) := by decide +kernel
theorem dX9_say_37 : decode cX9_say 37 = .ok (.aload_n 0, 1) := by decide +kernel
theorem dX9_say_38 : decode cX9_say 38 = .ok (.invokevirtual 298, 3) := by decide +kernel
theorem dX9_say_41 : decode cX9_say 41 = .ok (.aload_n 0, 1) := by decide +kernel
theorem dX9_say_42 : decode cX9_say 42 = .ok (.iload_n 1, 1) := by decide +kernel
theorem dX9_say_43 : decode cX9_say 43 = .ok (.invokevirtual 274, 3) := by decide +kernel
theorem dX9_say_46 : decode cX9_say 46 = .ok (.ireturn, 1) := by decide +kernel
set_option maxHeartbeats 4000000 in
set_option maxRecDepth 100000 in
theorem s_X9_say (l : Launch) (D : va_G) (K : Nat → ClassId) (ad : Nat → Nat) (v ar : sI) (al : sL) (hI : YI v ar) (z_1 : Int) (hz_1 : -2147483648 ≤ z_1 ∧ z_1 ≤ 2147483647) : Met l yX9_say (wM yX9_say cX9_say 2 (some .int)) (rmD 4) (va_Pc [.ref (ad 0), .int (iI (z_1))] (wPre D K ad (yG ad K) 21 v ar al)) (va_Qi (fun (r : Int32) (u : sT) => (∃ z : Int, (-2147483648 ≤ z ∧ z ≤ 2147483647) ∧ r = iI z) ∧ YI u.1 u.2.1 ∧ (∀ i j : Nat, (i, j) ∉ ([(0, 0), (0, 24), (0, 25), (0, 26), (0, 27)] : List (Nat × Nat)) → u.1 i j = v i j) ∧ (∀ i : Nat, i ∉ ([7, 10, 12, 13, 14] : List Nat) → u.2.1 i = ar i) ∧ (∀ i : Nat, i ∉ ([] : List Nat) → u.2.2 i = al i)) (wB D ad (yG ad K) 21) (inW ad 21)) 0 0 (inW ad 21) := by
  refine s_metI (by decide) (Nat.le_of_ble_eq_true rfl) ?_
  intro p e s m below meth c ls args Q hE hB hl kr
  have hE : CallFix p m c cX9_say 2 s args tbG "TaleCourtModel" := hE
  obtain ⟨hP, hK, hN⟩ := hB
  have hS : va_S (inW ad 21) s.heap s.heap [] := va_S.rf
  have hl : lv_has ls 2 [(0, .ref (ad 0)), (1, .int (iI (z_1)))] := hl
  obtain ⟨z1, hz1, ez1⟩ := iI_of (ar 6 0)
  obtain ⟨z2, hz2, ez2⟩ := YI_h2 hI 2 (by decide)
  obtain ⟨z3, hz3, ez3⟩ := YI_h5 hI 5 (by decide)
  obtain ⟨z4, hz4, ez4⟩ := YI_h0 hI 0 (by decide)
  have ht0 := YI_t0 hI ez1 (by omega) ez2 (by omega) ez3 (by omega) ez4 (by omega)
  refine lv_aload_n hE.1 hE.2.1 dX9_say_0 rfl (lv_at hl 0 rfl) ?_
  refine lv_iconst (v := iI (0)) hE.1 hE.2.1 dX9_say_1 (by decide) ?_
  refine x_put (x := iI (0)) hE hK hN hP hS 0 (by decide) (yG_9 rfl) rfl hin9 tyX9 tyX9_ok nmX9 0 (by decide) mw_1334 rfl rfl rfl (Nat.le_of_ble_eq_true rfl) (yG_9 rfl) dX9_say_2 (fun v5 H locs hv5 hP hS => ?_)
  have hI := YI_putN hI hv5 (by decide)
  refine lv_aload_n hE.1 hE.2.1 dX9_say_5 rfl (lv_at hl 0 rfl) ?_
  refine lv_iload_n hE.1 hE.2.1 dX9_say_6 rfl (lv_at hl 1 rfl) ?_
  refine lv_i2l (v := lI (z_1)) hE.1 hE.2.1 dX9_say_7 (iI_i2l (by omega)) ?_
  refine x_vp (nn := 1) (As := [.long (lI (z_1))]) (rest := []) hE (s_X9_isMotif l D K ad v5 ar al hI (z2) (by omega) ez2 (z_1) (by omega)) wPre_blind (wPre_now hK hN hP) (x_recv hK hP 0 (by decide) (yG_9 rfl) rfl) rfl mw_1662 mw_1664 mw_74 mw_123 mw_1665 (by decide +kernel) ⟨by decide, by decide⟩ hl.1 rfl (Nat.le_of_ble_eq_true rfl) ⟨Nat.zero_le _, Nat.zero_le _⟩ dX9_say_8 (fun r6 hr6 => ?_)
  obtain ⟨z6, hz6, rfl⟩ := hr6
  refine s_if_ne (a := z6) (tgt := 17) hE.1 hE.2.1 (by omega) dX9_say_11 (by decide) (fun c7 => ?_) (fun c7 => ?_)
  · skip
    refine lv_aload_n hE.1 hE.2.1 dX9_say_17 rfl (lv_at hl 0 rfl) ?_
    have hI0 := hI
    obtain ⟨z8, hz8, ez8⟩ := YI_h1 hI 1 (by decide)
    refine x_vv (nn := 0) (As := []) (rest := []) hE hK hN hP hS (s_X9_lays_e l D K ad v5 ar al hI (z3) (by omega) ez3 (z4) (by omega) ez4 ) (x_recv hK hP 0 (by decide) (yG_9 rfl) rfl) rfl mw_1638 mw_1640 mw_69 mw_123 mw_1641 (by decide +kernel) ⟨by decide, by decide⟩ hl.1 rfl (Nat.le_of_ble_eq_true rfl) ⟨Nat.zero_le _, Nat.zero_le _⟩ dX9_say_18 (fun v9 ar9 al9 H locs hq9 hP hS => ?_)
    obtain ⟨hI, hq9, hqa9, hql9, hp9, x9_1, x9_2, x9_3, hx9, ex9_1, ex9_2, ex9_3⟩ := hq9
    have hI : YI v9 ar9 := hI
    have hp9 : LY (ar 10) (z4) (z3) (v9 0 25).toInt (ar9 12) (ar9 14) := hp9
    have hly9 := LY_n hp9 ex9_2 (by omega)
    refine lv_aload_n hE.1 hE.2.1 dX9_say_21 rfl (lv_at hl 0 rfl) ?_
    refine lv_iload_n hE.1 hE.2.1 dX9_say_22 rfl (lv_at hl 1 rfl) ?_
    refine x_vp (nn := 1) (As := [.int (iI (z_1))]) (rest := []) hE (s_X9_whyNot_e l D K ad v9 ar9 al9 hI (z4) (by omega) ((congrFun (hqa9 7 (by decide)) 0).trans ez4) (x9_2) (by omega) ex9_2 (z_1) (by omega)) wPre_blind (wPre_now hK hN hP) (x_recv hK hP 0 (by decide) (yG_9 rfl) rfl) rfl mw_1698 mw_1700 mw_75 mw_123 mw_1701 (by decide +kernel) ⟨by decide, by decide⟩ hl.1 rfl (Nat.le_of_ble_eq_true rfl) ⟨Nat.zero_le _, Nat.zero_le _⟩ dX9_say_23 (fun r10 hr10 => ?_)
    obtain ⟨z10, hz10, rfl⟩ := hr10
    refine s_if_eq (a := z10) (tgt := 32) hE.1 hE.2.1 (by omega) dX9_say_26 (by decide) (fun c11 => ?_) (fun c11 => ?_)
    · skip
      refine lv_aload_n hE.1 hE.2.1 dX9_say_32 rfl (lv_at hl 0 rfl) ?_
      refine lv_iload_n hE.1 hE.2.1 dX9_say_33 rfl (lv_at hl 1 rfl) ?_
      refine x_vv (nn := 1) (As := [.int (iI (z_1))]) (rest := []) hE hK hN hP hS (s_X9_puts_e l D K ad v9 ar9 al9 hI (x9_1) (by omega) ex9_1 (x9_2) (by omega) ex9_2 (x9_3) (by omega) ex9_3 (z4) (by omega) ((congrFun (hqa9 7 (by decide)) 0).trans ez4) (z_1) (by omega)) (x_recv hK hP 0 (by decide) (yG_9 rfl) rfl) rfl mw_1646 mw_1648 mw_71 mw_123 mw_1649 (by decide +kernel) ⟨by decide, by decide⟩ hl.1 rfl (Nat.le_of_ble_eq_true rfl) ⟨Nat.zero_le _, Nat.zero_le _⟩ dX9_say_34 (fun v12 ar12 al12 H locs hq12 hP hS => ?_)
      obtain ⟨hI, hq12, hqa12, hql12, hp12, x12_1, x12_2, x12_3, hx12, ex12_1, ex12_2, ex12_3⟩ := hq12
      have hI : YI v12 ar12 := hI
      have hp12 : PX (z4) (x9_1) (z_1) (ar9 12) (ar9 14) (ar12 12) (ar12 14) := hp12
      refine lv_aload_n hE.1 hE.2.1 dX9_say_37 rfl (lv_at hl 0 rfl) ?_
      refine x_vv (nn := 0) (As := []) (rest := []) hE hK hN hP hS (s_X9_keepsTale_e l D K ad v12 ar12 al12 hI (x12_1) (by omega) ex12_1 (z4) (by omega) ((congrFun (hqa12 7 (by decide)) 0).trans ((congrFun (hqa9 7 (by decide)) 0).trans ez4)) (z8) (by omega) ((congrFun (hqa12 7 (by decide)) 1).trans ((congrFun (hqa9 7 (by decide)) 1).trans ez8))  (say_good hI0 hly9 hp12 (by omega) ez3 (by omega) ez4 (by omega) ez8 (by omega) (by omega) (Or.inl (by omega)) (by omega))) (x_recv hK hP 0 (by decide) (yG_9 rfl) rfl) rfl mw_1710 mw_1712 mw_78 mw_123 mw_1713 (by decide +kernel) ⟨by decide, by decide⟩ hl.1 rfl (Nat.le_of_ble_eq_true rfl) ⟨Nat.zero_le _, Nat.zero_le _⟩ dX9_say_38 (fun v13 ar13 al13 H locs hq13 hP hS => ?_)
      obtain ⟨hI, hq13, hqa13, hql13⟩ := hq13
      have hI : YI v13 ar13 := hI
      refine lv_aload_n hE.1 hE.2.1 dX9_say_41 rfl (lv_at hl 0 rfl) ?_
      refine lv_iload_n hE.1 hE.2.1 dX9_say_42 rfl (lv_at hl 1 rfl) ?_
      refine x_vp (nn := 1) (As := [.int (iI (z_1))]) (rest := []) hE (s_X9_pointsOf l D K ad v13 ar13 al13 hI  (z_1) (by omega)) wPre_blind (wPre_now hK hN hP) (x_recv hK hP 0 (by decide) (yG_9 rfl) rfl) rfl mw_1650 mw_1652 mw_72 mw_123 mw_1653 (by decide +kernel) ⟨by decide, by decide⟩ hl.1 rfl (Nat.le_of_ble_eq_true rfl) ⟨Nat.zero_le _, Nat.zero_le _⟩ dX9_say_43 (fun r14 hr14 => ?_)
      obtain ⟨z14, hz14, rfl⟩ := hr14
      exact kr _ v13 ar13 al13 _ _ _ _ rfl ⟨⟨z14, by omega, rfl⟩, hI, fun i j h => ((hq13 i j (fun q => h (mem_sub (by decide) q))).trans ((hq12 i j (fun q => h (mem_sub (by decide) q))).trans ((hq9 i j (fun q => h (mem_sub (by decide) q))).trans (up_oth hv5 (fun q => h (by rcases q with ⟨rfl, rfl⟩; decide)))))), fun i h => ((hqa13 i (fun q => h (mem_subn (by decide) q))).trans ((hqa12 i (fun q => h (mem_subn (by decide) q))).trans (hqa9 i (fun q => h (mem_subn (by decide) q))))), fun i h => ((hql13 i (fun q => h (mem_subn (by decide) q))).trans ((hql12 i (fun q => h (mem_subn (by decide) q))).trans (hql9 i (fun q => h (mem_subn (by decide) q)))))⟩ hP hS dX9_say_46
    · skip
      refine lv_bipush (v := iI (-5)) hE.1 hE.2.1 dX9_say_29 (by decide) ?_
      exact kr _ v9 ar9 al9 _ _ _ _ rfl ⟨⟨-5, by omega, rfl⟩, hI, fun i j h => ((hq9 i j (fun q => h (mem_sub (by decide) q))).trans (up_oth hv5 (fun q => h (by rcases q with ⟨rfl, rfl⟩; decide)))), fun i h => (hqa9 i (fun q => h (mem_subn (by decide) q))), fun i h => (hql9 i (fun q => h (mem_subn (by decide) q)))⟩ hP hS dX9_say_31
  · skip
    refine lv_bipush (v := iI (-2)) hE.1 hE.2.1 dX9_say_14 (by decide) ?_
    exact kr _ v5 ar al _ _ _ _ rfl ⟨⟨-2, by omega, rfl⟩, hI, fun i j h => (up_oth hv5 (fun q => h (by rcases q with ⟨rfl, rfl⟩; decide))), fun i h => rfl, fun i h => rfl⟩ hP hS dX9_say_16

set_option maxHeartbeats 4000000 in
set_option maxRecDepth 100000 in
theorem s_X9_maySilence_e (l : Launch) (D : va_G) (K : Nat → ClassId) (ad : Nat → Nat) (v ar : sI) (al : sL) (hI : YI v ar) (w_1 : Int) (hw_1 : 1 ≤ w_1 ∧ w_1 ≤ 3) (ew_1 : ar 7 0 = iI w_1) (w_2 : Int) (hw_2 : 0 ≤ w_2 ∧ w_2 ≤ 60) (ew_2 : v 0 24 = iI w_2) (w_3 : Int) (hw_3 : 0 ≤ w_3 ∧ w_3 ≤ 3) (ew_3 : ar 7 1 = iI w_3) : Met l yX9_maySilence (wM yX9_maySilence cX9_maySilence 1 (some .boolean)) (rmD 2) (va_Pc [.ref (ad 0)] (wPre D K ad (yG ad K) 21 v ar al)) (vp_Si (fun r => ∃ z : Int, (z = 0 ∨ (z = 1 ∧ qMay w_2 w_1 w_3 (ar 14))) ∧ r = iI z)) 0 0 (fun _ => False) := by
  refine s_metP (by decide) (Nat.le_of_ble_eq_true rfl) ?_
  intro p e s m below meth c ls args Q hE hB hl kr
  have hE : CallFix p m c cX9_maySilence 1 s args tbG "TaleCourtModel" := hE
  obtain ⟨hP, hK, hN⟩ := hB
  have hl : lv_has ls 1 [(0, .ref (ad 0))] := hl
  refine lv_aload_n hE.1 hE.2.1 dX9_maySilence_0 rfl (lv_at hl 0 rfl) ?_
  refine x_get (x := .ref (ad 14)) hE hK hP 0 (by decide) (yG_9 rfl) rfl hin9 28 (by decide) mw_1362 rfl dX9_maySilence_1 ?_
  refine lv_aload_n hE.1 hE.2.1 dX9_maySilence_4 rfl (lv_at hl 0 rfl) ?_
  refine x_get (x := .int (v 0 24)) hE hK hP 0 (by decide) (yG_9 rfl) rfl hin9 24 (by decide) mw_1358 rfl dX9_maySilence_5 ?_
  refine x_top (y := iI (w_2)) ew_2 ?_
  refine lv_aload_n hE.1 hE.2.1 dX9_maySilence_8 rfl (lv_at hl 0 rfl) ?_
  refine x_get (x := .ref (ad 7)) hE hK hP 0 (by decide) (yG_9 rfl) rfl hin9 17 (by decide) mw_1351 rfl dX9_maySilence_9 ?_
  refine lv_iconst (v := iI (0)) hE.1 hE.2.1 dX9_maySilence_12 (by decide) ?_
  refine x_iald (j := iI (0)) hE hK hP 7 (by decide) (yG_10 rfl) (iI_in (n := 30) (by omega)) dX9_maySilence_13 ?_
  refine x_top (y := iI (w_1)) (by rw [show (iI (0)).toNatClampNeg = 0 from by decide]; exact ew_1) ?_
  refine lv_irem hE.1 hE.2.1 dX9_maySilence_14 (iI_ne0 (by omega) (by omega)) ?_
  obtain ⟨z2, hz2⟩ : ∃ z : Int, z = (w_2) % (w_1) ∧ 0 ≤ z ∧ z < w_1 := ⟨_, rfl, Int.emod_nonneg _ (by omega), Int.emod_lt_of_pos _ (by omega)⟩
  refine x_top (y := iI (z2)) ((iI_rem (by omega) (by omega)).trans (congrArg iI hz2.1.symm)) ?_
  have er2 : z2 = rm (w_2) (w_1) := hz2.1
  replace hz2 := hz2.2
  refine x_iald (j := iI (z2)) hE hK hP 14 (by decide) (yG_10 rfl) (iI_in (n := 3) (by omega)) dX9_maySilence_15 ?_
  obtain ⟨z4, hz4, ez4⟩ := iI_of (ar 14 (iI (z2)).toNatClampNeg)
  refine x_top ez4 ?_
  refine lv_aload_n hE.1 hE.2.1 dX9_maySilence_16 rfl (lv_at hl 0 rfl) ?_
  refine x_get (x := .ref (ad 7)) hE hK hP 0 (by decide) (yG_9 rfl) rfl hin9 17 (by decide) mw_1351 rfl dX9_maySilence_17 ?_
  refine lv_iconst (v := iI (1)) hE.1 hE.2.1 dX9_maySilence_20 (by decide) ?_
  refine x_iald (j := iI (1)) hE hK hP 7 (by decide) (yG_10 rfl) (iI_in (n := 30) (by omega)) dX9_maySilence_21 ?_
  refine x_top (y := iI (w_3)) (by rw [show (iI (1)).toNatClampNeg = 1 from by decide]; exact ew_3) ?_
  refine s_icmp_ge (a := z4) (b := w_3) (tgt := 38) hE.1 hE.2.1 (by omega) (by omega) dX9_maySilence_22 (by decide) (fun c6 => ?_) (fun c6 => ?_)
  · skip
    refine lv_iconst (v := iI (0)) hE.1 hE.2.1 dX9_maySilence_38 (by decide) ?_
    exact kr _ _ _ (nar01 (by omega)) ⟨0, Or.inl rfl, rfl⟩ dX9_maySilence_39
  · skip
    refine lv_aload_n hE.1 hE.2.1 dX9_maySilence_25 rfl (lv_at hl 0 rfl) ?_
    refine lv_bipush (v := iI (9)) hE.1 hE.2.1 dX9_maySilence_26 (by decide) ?_
    refine x_vp (nn := 1) (As := [.int (iI (9))]) (rest := []) hE (s_X9_isLate l D K ad v ar al hI  (9) (by omega)) wPre_blind (wPre_now hK hN hP) (x_recv hK hP 0 (by decide) (yG_9 rfl) rfl) rfl mw_1706 mw_1708 mw_77 mw_123 mw_1709 (by decide +kernel) ⟨by decide, by decide⟩ hl.1 rfl (Nat.le_of_ble_eq_true rfl) ⟨Nat.zero_le _, Nat.zero_le _⟩ dX9_maySilence_28 (fun r7 hr7 => ?_)
    obtain ⟨z7, hz7, rfl⟩ := hr7
    refine s_if_ne (a := z7) (tgt := 38) hE.1 hE.2.1 (by omega) dX9_maySilence_31 (by decide) (fun c8 => ?_) (fun c8 => ?_)
    · skip
      refine lv_iconst (v := iI (0)) hE.1 hE.2.1 dX9_maySilence_38 (by decide) ?_
      exact kr _ _ _ (nar01 (by omega)) ⟨0, Or.inl rfl, rfl⟩ dX9_maySilence_39
    · skip
      refine lv_iconst (v := iI (1)) hE.1 hE.2.1 dX9_maySilence_34 (by decide) ?_
      refine lv_goto (tgt := 39) hE.1 hE.2.1 dX9_maySilence_35 (by decide) ?_
      exact kr _ _ _ (nar01 (by omega)) ⟨1, Or.inr ⟨rfl, qMay_of er2 (by omega) ez4 (by omega) (by omega)⟩, rfl⟩ dX9_maySilence_39

theorem dX9_hush_0 : decode cX9_hush 0 = .ok (.aload_n 0, 1) := by decide +kernel
theorem dX9_hush_1 : decode cX9_hush 1 = .ok (.iconst 0, 1) := by decide +kernel
theorem dX9_hush_2 : decode cX9_hush 2 = .ok (.putfield 81, 3) := by decide +kernel
theorem dX9_hush_5 : decode cX9_hush 5 = .ok (.aload_n 0, 1) := by decide +kernel
theorem dX9_hush_6 : decode cX9_hush 6 = .ok (.invokevirtual 301, 3) := by decide +kernel
theorem dX9_hush_9 : decode cX9_hush 9 = .ok (.ifCond .ne 6, 3) := by decide +kernel
theorem dX9_hush_12 : decode cX9_hush 12 = .ok (.bipush (-2), 2) := by decide +kernel
theorem dX9_hush_14 : decode cX9_hush 14 = .ok (.ireturn, 1) := by decide +kernel
theorem dX9_hush_15 : decode cX9_hush 15 = .ok (.aload_n 0, 1) := by decide +kernel
theorem dX9_hush_16 : decode cX9_hush 16 = .ok (.invokevirtual 246, 3) := by decide +kernel
theorem dX9_hush_19 : decode cX9_hush 19 = .ok (.aload_n 0, 1) := by decide +kernel
theorem dX9_hush_20 : decode cX9_hush 20 = .ok (.invokevirtual 304, 3) := by decide +kernel
theorem dX9_hush_23 : decode cX9_hush 23 = .ok (.ifCond .ne 6, 3) := by decide +kernel
theorem dX9_hush_26 : decode cX9_hush 26 = .ok (.bipush (-5), 2) := by decide +kernel
theorem dX9_hush_28 : decode cX9_hush 28 = .ok (.ireturn, 1) := by decide +kernel
theorem dX9_hush_29 : decode cX9_hush 29 = .ok (.aload_n 0, 1) := by decide +kernel
theorem dX9_hush_30 : decode cX9_hush 30 = .ok (.bipush 9, 2) := by decide +kernel
theorem dX9_hush_32 : decode cX9_hush 32 = .ok (.invokevirtual 283, 3) := by decide +kernel
theorem dX9_hush_35 : decode cX9_hush 35 = .ok (.aload_n 0, 1) := by decide +kernel
theorem dX9_hush_36 : decode cX9_hush 36 = .ok (.invokevirtual 298, 3) := by decide +kernel
theorem dX9_hush_39 : decode cX9_hush 39 = .ok (.aload_n 0, 1) := by decide +kernel
theorem dX9_hush_40 : decode cX9_hush 40 = .ok (.getfield 265, 3) := by decide +kernel
theorem dX9_hush_43 : decode cX9_hush 43 = .ok (.ireturn, 1) := by decide +kernel
set_option maxHeartbeats 4000000 in
set_option maxRecDepth 100000 in
theorem s_X9_hush (l : Launch) (D : va_G) (K : Nat → ClassId) (ad : Nat → Nat) (v ar : sI) (al : sL) (hI : YI v ar) : Met l yX9_hush (wM yX9_hush cX9_hush 1 (some .int)) (rmD 4) (va_Pc [.ref (ad 0)] (wPre D K ad (yG ad K) 21 v ar al)) (va_Qi (fun (r : Int32) (u : sT) => (∃ z : Int, (-2147483648 ≤ z ∧ z ≤ 2147483647) ∧ r = iI z) ∧ YI u.1 u.2.1 ∧ (∀ i j : Nat, (i, j) ∉ ([(0, 0), (0, 24), (0, 25), (0, 26), (0, 27)] : List (Nat × Nat)) → u.1 i j = v i j) ∧ (∀ i : Nat, i ∉ ([7, 10, 12, 13, 14] : List Nat) → u.2.1 i = ar i) ∧ (∀ i : Nat, i ∉ ([] : List Nat) → u.2.2 i = al i)) (wB D ad (yG ad K) 21) (inW ad 21)) 0 0 (inW ad 21) := by
  refine s_metI (by decide) (Nat.le_of_ble_eq_true rfl) ?_
  intro p e s m below meth c ls args Q hE hB hl kr
  have hE : CallFix p m c cX9_hush 1 s args tbG "TaleCourtModel" := hE
  obtain ⟨hP, hK, hN⟩ := hB
  have hS : va_S (inW ad 21) s.heap s.heap [] := va_S.rf
  have hl : lv_has ls 1 [(0, .ref (ad 0))] := hl
  obtain ⟨z1, hz1, ez1⟩ := iI_of (ar 6 0)
  obtain ⟨z2, hz2, ez2⟩ := YI_h2 hI 2 (by decide)
  obtain ⟨z3, hz3, ez3⟩ := YI_h5 hI 5 (by decide)
  obtain ⟨z4, hz4, ez4⟩ := YI_h0 hI 0 (by decide)
  have ht0 := YI_t0 hI ez1 (by omega) ez2 (by omega) ez3 (by omega) ez4 (by omega)
  refine lv_aload_n hE.1 hE.2.1 dX9_hush_0 rfl (lv_at hl 0 rfl) ?_
  refine lv_iconst (v := iI (0)) hE.1 hE.2.1 dX9_hush_1 (by decide) ?_
  refine x_put (x := iI (0)) hE hK hN hP hS 0 (by decide) (yG_9 rfl) rfl hin9 tyX9 tyX9_ok nmX9 0 (by decide) mw_1334 rfl rfl rfl (Nat.le_of_ble_eq_true rfl) (yG_9 rfl) dX9_hush_2 (fun v5 H locs hv5 hP hS => ?_)
  have hI := YI_putN hI hv5 (by decide)
  refine lv_aload_n hE.1 hE.2.1 dX9_hush_5 rfl (lv_at hl 0 rfl) ?_
  refine x_vp (nn := 0) (As := []) (rest := []) hE (s_X9_isCourt l D K ad v5 ar al hI (z1) (by omega) ez1 ) wPre_blind (wPre_now hK hN hP) (x_recv hK hP 0 (by decide) (yG_9 rfl) rfl) rfl mw_1718 mw_1720 mw_79 mw_123 mw_1721 (by decide +kernel) ⟨by decide, by decide⟩ hl.1 rfl (Nat.le_of_ble_eq_true rfl) ⟨Nat.zero_le _, Nat.zero_le _⟩ dX9_hush_6 (fun r6 hr6 => ?_)
  obtain ⟨z6, hz6, rfl⟩ := hr6
  refine s_if_ne (a := z6) (tgt := 15) hE.1 hE.2.1 (by omega) dX9_hush_9 (by decide) (fun c7 => ?_) (fun c7 => ?_)
  · skip
    refine lv_aload_n hE.1 hE.2.1 dX9_hush_15 rfl (lv_at hl 0 rfl) ?_
    have hI0 := hI
    obtain ⟨z8, hz8, ez8⟩ := YI_h1 hI 1 (by decide)
    refine x_vv (nn := 0) (As := []) (rest := []) hE hK hN hP hS (s_X9_lays_e l D K ad v5 ar al hI (z3) (by omega) ez3 (z4) (by omega) ez4 ) (x_recv hK hP 0 (by decide) (yG_9 rfl) rfl) rfl mw_1638 mw_1640 mw_69 mw_123 mw_1641 (by decide +kernel) ⟨by decide, by decide⟩ hl.1 rfl (Nat.le_of_ble_eq_true rfl) ⟨Nat.zero_le _, Nat.zero_le _⟩ dX9_hush_16 (fun v9 ar9 al9 H locs hq9 hP hS => ?_)
    obtain ⟨hI, hq9, hqa9, hql9, hp9, x9_1, x9_2, x9_3, hx9, ex9_1, ex9_2, ex9_3⟩ := hq9
    have hI : YI v9 ar9 := hI
    have hp9 : LY (ar 10) (z4) (z3) (v9 0 25).toInt (ar9 12) (ar9 14) := hp9
    have hly9 := LY_n hp9 ex9_2 (by omega)
    refine lv_aload_n hE.1 hE.2.1 dX9_hush_19 rfl (lv_at hl 0 rfl) ?_
    refine x_vp (nn := 0) (As := []) (rest := []) hE (s_X9_maySilence_e l D K ad v9 ar9 al9 hI (z4) (by omega) ((congrFun (hqa9 7 (by decide)) 0).trans ez4) (x9_1) (by omega) ex9_1 (z8) (by omega) ((congrFun (hqa9 7 (by decide)) 1).trans ez8) ) wPre_blind (wPre_now hK hN hP) (x_recv hK hP 0 (by decide) (yG_9 rfl) rfl) rfl mw_1722 mw_1724 mw_80 mw_123 mw_1725 (by decide +kernel) ⟨by decide, by decide⟩ hl.1 rfl (Nat.le_of_ble_eq_true rfl) ⟨Nat.zero_le _, Nat.zero_le _⟩ dX9_hush_20 (fun r10 hr10 => ?_)
    obtain ⟨z10, hz10, rfl⟩ := hr10
    refine s_if_ne (a := z10) (tgt := 29) hE.1 hE.2.1 (by omega) dX9_hush_23 (by decide) (fun c11 => ?_) (fun c11 => ?_)
    · skip
      refine lv_aload_n hE.1 hE.2.1 dX9_hush_29 rfl (lv_at hl 0 rfl) ?_
      refine lv_bipush (v := iI (9)) hE.1 hE.2.1 dX9_hush_30 (by decide) ?_
      refine x_vv (nn := 1) (As := [.int (iI (9))]) (rest := []) hE hK hN hP hS (s_X9_puts_e l D K ad v9 ar9 al9 hI (x9_1) (by omega) ex9_1 (x9_2) (by omega) ex9_2 (x9_3) (by omega) ex9_3 (z4) (by omega) ((congrFun (hqa9 7 (by decide)) 0).trans ez4) (9) (by omega)) (x_recv hK hP 0 (by decide) (yG_9 rfl) rfl) rfl mw_1646 mw_1648 mw_71 mw_123 mw_1649 (by decide +kernel) ⟨by decide, by decide⟩ hl.1 rfl (Nat.le_of_ble_eq_true rfl) ⟨Nat.zero_le _, Nat.zero_le _⟩ dX9_hush_32 (fun v12 ar12 al12 H locs hq12 hP hS => ?_)
      obtain ⟨hI, hq12, hqa12, hql12, hp12, x12_1, x12_2, x12_3, hx12, ex12_1, ex12_2, ex12_3⟩ := hq12
      have hI : YI v12 ar12 := hI
      have hp12 : PX (z4) (x9_1) (9) (ar9 12) (ar9 14) (ar12 12) (ar12 14) := hp12
      refine lv_aload_n hE.1 hE.2.1 dX9_hush_35 rfl (lv_at hl 0 rfl) ?_
      refine x_vv (nn := 0) (As := []) (rest := []) hE hK hN hP hS (s_X9_keepsTale_e l D K ad v12 ar12 al12 hI (x12_1) (by omega) ex12_1 (z4) (by omega) ((congrFun (hqa12 7 (by decide)) 0).trans ((congrFun (hqa9 7 (by decide)) 0).trans ez4)) (z8) (by omega) ((congrFun (hqa12 7 (by decide)) 1).trans ((congrFun (hqa9 7 (by decide)) 1).trans ez8))  (say_good hI0 hly9 hp12 (by omega) ez3 (by omega) ez4 (by omega) ez8 (by omega) (by omega) (Or.inr ⟨rfl, (hz10.resolve_left (by omega)).2⟩) (by omega))) (x_recv hK hP 0 (by decide) (yG_9 rfl) rfl) rfl mw_1710 mw_1712 mw_78 mw_123 mw_1713 (by decide +kernel) ⟨by decide, by decide⟩ hl.1 rfl (Nat.le_of_ble_eq_true rfl) ⟨Nat.zero_le _, Nat.zero_le _⟩ dX9_hush_36 (fun v13 ar13 al13 H locs hq13 hP hS => ?_)
      obtain ⟨hI, hq13, hqa13, hql13⟩ := hq13
      have hI : YI v13 ar13 := hI
      refine lv_aload_n hE.1 hE.2.1 dX9_hush_39 rfl (lv_at hl 0 rfl) ?_
      refine x_get (x := .int (v13 0 24)) hE hK hP 0 (by decide) (yG_9 rfl) rfl hin9 24 (by decide) mw_1358 rfl dX9_hush_40 ?_
      refine x_top (y := iI (x12_1)) ((hq13 0 24 (by decide)).trans ex12_1) ?_
      exact kr _ v13 ar13 al13 _ _ _ _ rfl ⟨⟨x12_1, by omega, rfl⟩, hI, fun i j h => ((hq13 i j (fun q => h (mem_sub (by decide) q))).trans ((hq12 i j (fun q => h (mem_sub (by decide) q))).trans ((hq9 i j (fun q => h (mem_sub (by decide) q))).trans (up_oth hv5 (fun q => h (by rcases q with ⟨rfl, rfl⟩; decide)))))), fun i h => ((hqa13 i (fun q => h (mem_subn (by decide) q))).trans ((hqa12 i (fun q => h (mem_subn (by decide) q))).trans (hqa9 i (fun q => h (mem_subn (by decide) q))))), fun i h => ((hql13 i (fun q => h (mem_subn (by decide) q))).trans ((hql12 i (fun q => h (mem_subn (by decide) q))).trans (hql9 i (fun q => h (mem_subn (by decide) q)))))⟩ hP hS dX9_hush_43
    · skip
      refine lv_bipush (v := iI (-5)) hE.1 hE.2.1 dX9_hush_26 (by decide) ?_
      exact kr _ v9 ar9 al9 _ _ _ _ rfl ⟨⟨-5, by omega, rfl⟩, hI, fun i j h => ((hq9 i j (fun q => h (mem_sub (by decide) q))).trans (up_oth hv5 (fun q => h (by rcases q with ⟨rfl, rfl⟩; decide)))), fun i h => (hqa9 i (fun q => h (mem_subn (by decide) q))), fun i h => (hql9 i (fun q => h (mem_subn (by decide) q)))⟩ hP hS dX9_hush_28
  · skip
    refine lv_bipush (v := iI (-2)) hE.1 hE.2.1 dX9_hush_12 (by decide) ?_
    exact kr _ v5 ar al _ _ _ _ rfl ⟨⟨-2, by omega, rfl⟩, hI, fun i j h => (up_oth hv5 (fun q => h (by rcases q with ⟨rfl, rfl⟩; decide))), fun i h => rfl, fun i h => rfl⟩ hP hS dX9_hush_14
