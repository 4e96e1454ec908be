theorem dX8_slotBar_0 : decode cX8_slotBar 0 = .ok (.iload_n 1, 1) := by decide +kernel
theorem dX8_slotBar_1 : decode cX8_slotBar 1 = .ok (.invokestatic 260, 3) := by decide +kernel
theorem dX8_slotBar_4 : decode cX8_slotBar 4 = .ok (.ifCond .eq 13, 3) := by decide +kernel
theorem dX8_slotBar_7 : decode cX8_slotBar 7 = .ok (.aload_n 0, 1) := by decide +kernel
theorem dX8_slotBar_8 : decode cX8_slotBar 8 = .ok (.getfield 19, 3) := by decide +kernel
theorem dX8_slotBar_11 : decode cX8_slotBar 11 = .ok (.invokevirtual 157, 3) := by decide +kernel
theorem dX8_slotBar_14 : decode cX8_slotBar 14 = .ok (.ifCond .ne 6, 3) := by decide +kernel
theorem dX8_slotBar_17 : decode cX8_slotBar 17 = .ok (.bipush (-2), 2) := by decide +kernel
theorem dX8_slotBar_19 : decode cX8_slotBar 19 = .ok (.ireturn, 1) := by decide +kernel
theorem dX8_slotBar_20 : decode cX8_slotBar 20 = .ok (.aload_n 0, 1) := by decide +kernel
theorem dX8_slotBar_21 : decode cX8_slotBar 21 = .ok (.getfield 63, 3) := by decide +kernel
theorem dX8_slotBar_24 : decode cX8_slotBar 24 = .ok (.iload_n 1, 1) := by decide +kernel
theorem dX8_slotBar_25 : decode cX8_slotBar 25 = .ok (.aaload, 1) := by decide +kernel
theorem dX8_slotBar_26 : decode cX8_slotBar 26 = .ok (.getfield 263, 3) := by decide +kernel
theorem dX8_slotBar_29 : decode cX8_slotBar 29 = .ok (.ifCond .ge 8, 3) := by decide +kernel
theorem dX8_slotBar_32 : decode cX8_slotBar 32 = .ok (.bipush (-6), 2) := by decide +kernel
theorem dX8_slotBar_34 : decode cX8_slotBar 34 = .ok (.goto 4, 3) := by decide +kernel
theorem dX8_slotBar_37 : decode cX8_slotBar 37 = .ok (.iconst 0, 1) := by decide +kernel
theorem dX8_slotBar_38 : decode cX8_slotBar 38 = .ok (.ireturn, 1) := by decide +kernel
set_option maxHeartbeats 4000000 in
set_option maxRecDepth 100000 in
theorem s_X8_slotBar_0 (l : Launch) (D : va_G) (K : Nat → ClassId) (ad : Nat → Nat) (mm : Option Nat) (N : Nat) (hNN : 132 ≤ N) (v ar : sI) (al : sL) (hI : XI v) (z_1 : Int) (hz_1 : -2147483648 ≤ z_1 ∧ z_1 ≤ 2147483647) : Met l yX8_slotBar (wM yX8_slotBar cX8_slotBar 2 (some .int)) (rmD 1) (va_Pc [.ref (ad 0), .int (iI (z_1))] (wPre D K ad (xG ad K mm) N v ar al)) (vp_Si (fun r => ∃ z : Int, (z = -2 ∨ (0 ≤ z_1 ∧ z_1 ≤ 3 ∧ (z = -6 ∨ z = 0))) ∧ r = iI z)) 0 0 (fun _ => False) := by
  refine s_metP (by decide) (Nat.le_of_ble_eq_true rfl) ?_
  intro p e s m below meth c ls args Q hE hB hl kr
  have hE : CallFix p m c cX8_slotBar 2 s args tbG "TaleCourt" := hE
  obtain ⟨hP, hK, hN⟩ := hB
  have hl : lv_has ls 2 [(0, .ref (ad 0)), (1, .int (iI (z_1)))] := hl
  refine lv_iload_n hE.1 hE.2.1 dX8_slotBar_0 rfl (lv_at hl 1 rfl) ?_
  refine x_sp (nn := 1) (As := [.int (iI (z_1))]) (rest := []) hE (s_X8_isSlot l (z_1) (by omega)) tt_blind (fun _ _ _ => trivial) rfl mw_1134 mw_1135 mw_114 mw_1136 (by decide +kernel) ⟨by decide, by decide⟩ hl.1 rfl (Nat.le_of_ble_eq_true rfl) ⟨Nat.zero_le _, Nat.zero_le _⟩ dX8_slotBar_1 (fun r1 hr1 => ?_)
  obtain ⟨z1, hz1, rfl⟩ := hr1
  refine s_if_eq (a := z1) (tgt := 17) hE.1 hE.2.1 (by omega) dX8_slotBar_4 (by decide) (fun c2 => ?_) (fun c2 => ?_)
  · skip
    refine lv_bipush (v := iI (-2)) hE.1 hE.2.1 dX8_slotBar_17 (by decide) ?_
    exact kr _ _ _ rfl ⟨-2, by omega, rfl⟩ dX8_slotBar_19
  · skip
    refine lv_aload_n hE.1 hE.2.1 dX8_slotBar_7 rfl (lv_at hl 0 rfl) ?_
    refine x_get (x := .ref (ad 3)) hE hK hP 0 (Nat.lt_of_lt_of_le (by decide) hNN) (xG_8 rfl) rfl hin8 1 (by decide) mw_481 rfl dX8_slotBar_8 ?_
    refine x_vp (nn := 0) (As := []) (rest := []) hE (s_X1_stands_3 l D K ad mm N hNN v ar al hI  ) wPre_blind (wPre_now hK hN hP) (x_recv hK hP 3 (Nat.lt_of_lt_of_le (by decide) hNN) (xG_1 rfl) rfl) rfl mw_788 mw_789 mw_790 mw_116 mw_791 (by decide +kernel) ⟨by decide, by decide⟩ hl.1 rfl (Nat.le_of_ble_eq_true rfl) ⟨Nat.zero_le _, Nat.zero_le _⟩ dX8_slotBar_11 (fun r3 hr3 => ?_)
    obtain ⟨z3, hz3, rfl⟩ := hr3
    refine s_if_ne (a := z3) (tgt := 20) hE.1 hE.2.1 (by omega) dX8_slotBar_14 (by decide) (fun c4 => ?_) (fun c4 => ?_)
    · skip
      refine lv_aload_n hE.1 hE.2.1 dX8_slotBar_20 rfl (lv_at hl 0 rfl) ?_
      refine x_get (x := .ref (ad 65)) hE hK hP 0 (Nat.lt_of_lt_of_le (by decide) hNN) (xG_8 rfl) rfl hin8 8 (by decide) mw_488 rfl dX8_slotBar_21 ?_
      refine lv_iload_n hE.1 hE.2.1 dX8_slotBar_24 rfl (lv_at hl 1 rfl) ?_
      rcases (show z_1 = 0 ∨ z_1 = 1 ∨ z_1 = 2 ∨ z_1 = 3 by omega) with rfl | rfl | rfl | rfl
      · skip
        refine x_aald (r := .ref (ad 67)) hE hK hP 65 4 (Nat.lt_of_lt_of_le (by decide) hNN) (xG_13 rfl) rfl (by unfold vp_in; decide) rfl dX8_slotBar_25 ?_
        obtain ⟨z5, hz5, ez5⟩ := XI_get hI 67 2 (-1) 60 (by decide)
        refine x_get (x := .int (v 67 2)) hE hK hP 67 (Nat.lt_of_lt_of_le (by decide) hNN) (xG_5 rfl) rfl hin5 2 (by decide) mw_451 rfl dX8_slotBar_26 ?_
        refine x_top (y := iI (z5)) ez5 ?_
        refine s_if_ge (a := z5) (tgt := 37) hE.1 hE.2.1 (by omega) dX8_slotBar_29 (by decide) (fun c6 => ?_) (fun c6 => ?_)
        · skip
          refine lv_iconst (v := iI (0)) hE.1 hE.2.1 dX8_slotBar_37 (by decide) ?_
          exact kr _ _ _ rfl ⟨0, by omega, rfl⟩ dX8_slotBar_38
        · skip
          refine lv_bipush (v := iI (-6)) hE.1 hE.2.1 dX8_slotBar_32 (by decide) ?_
          refine lv_goto (tgt := 38) hE.1 hE.2.1 dX8_slotBar_34 (by decide) ?_
          exact kr _ _ _ rfl ⟨-6, by omega, rfl⟩ dX8_slotBar_38
      · skip
        refine x_aald (r := .ref (ad 69)) hE hK hP 65 4 (Nat.lt_of_lt_of_le (by decide) hNN) (xG_13 rfl) rfl (by unfold vp_in; decide) rfl dX8_slotBar_25 ?_
        obtain ⟨z7, hz7, ez7⟩ := XI_get hI 69 2 (-1) 60 (by decide)
        refine x_get (x := .int (v 69 2)) hE hK hP 69 (Nat.lt_of_lt_of_le (by decide) hNN) (xG_5 rfl) rfl hin5 2 (by decide) mw_451 rfl dX8_slotBar_26 ?_
        refine x_top (y := iI (z7)) ez7 ?_
        refine s_if_ge (a := z7) (tgt := 37) hE.1 hE.2.1 (by omega) dX8_slotBar_29 (by decide) (fun c8 => ?_) (fun c8 => ?_)
        · skip
          refine lv_iconst (v := iI (0)) hE.1 hE.2.1 dX8_slotBar_37 (by decide) ?_
          exact kr _ _ _ rfl ⟨0, by omega, rfl⟩ dX8_slotBar_38
        · skip
          refine lv_bipush (v := iI (-6)) hE.1 hE.2.1 dX8_slotBar_32 (by decide) ?_
          refine lv_goto (tgt := 38) hE.1 hE.2.1 dX8_slotBar_34 (by decide) ?_
          exact kr _ _ _ rfl ⟨-6, by omega, rfl⟩ dX8_slotBar_38
      · skip
        refine x_aald (r := .ref (ad 71)) hE hK hP 65 4 (Nat.lt_of_lt_of_le (by decide) hNN) (xG_13 rfl) rfl (by unfold vp_in; decide) rfl dX8_slotBar_25 ?_
        obtain ⟨z9, hz9, ez9⟩ := XI_get hI 71 2 (-1) 60 (by decide)
        refine x_get (x := .int (v 71 2)) hE hK hP 71 (Nat.lt_of_lt_of_le (by decide) hNN) (xG_5 rfl) rfl hin5 2 (by decide) mw_451 rfl dX8_slotBar_26 ?_
        refine x_top (y := iI (z9)) ez9 ?_
        refine s_if_ge (a := z9) (tgt := 37) hE.1 hE.2.1 (by omega) dX8_slotBar_29 (by decide) (fun c10 => ?_) (fun c10 => ?_)
        · skip
          refine lv_iconst (v := iI (0)) hE.1 hE.2.1 dX8_slotBar_37 (by decide) ?_
          exact kr _ _ _ rfl ⟨0, by omega, rfl⟩ dX8_slotBar_38
        · skip
          refine lv_bipush (v := iI (-6)) hE.1 hE.2.1 dX8_slotBar_32 (by decide) ?_
          refine lv_goto (tgt := 38) hE.1 hE.2.1 dX8_slotBar_34 (by decide) ?_
          exact kr _ _ _ rfl ⟨-6, by omega, rfl⟩ dX8_slotBar_38
      · skip
        refine x_aald (r := .ref (ad 73)) hE hK hP 65 4 (Nat.lt_of_lt_of_le (by decide) hNN) (xG_13 rfl) rfl (by unfold vp_in; decide) rfl dX8_slotBar_25 ?_
        obtain ⟨z11, hz11, ez11⟩ := XI_get hI 73 2 (-1) 60 (by decide)
        refine x_get (x := .int (v 73 2)) hE hK hP 73 (Nat.lt_of_lt_of_le (by decide) hNN) (xG_5 rfl) rfl hin5 2 (by decide) mw_451 rfl dX8_slotBar_26 ?_
        refine x_top (y := iI (z11)) ez11 ?_
        refine s_if_ge (a := z11) (tgt := 37) hE.1 hE.2.1 (by omega) dX8_slotBar_29 (by decide) (fun c12 => ?_) (fun c12 => ?_)
        · skip
          refine lv_iconst (v := iI (0)) hE.1 hE.2.1 dX8_slotBar_37 (by decide) ?_
          exact kr _ _ _ rfl ⟨0, by omega, rfl⟩ dX8_slotBar_38
        · skip
          refine lv_bipush (v := iI (-6)) hE.1 hE.2.1 dX8_slotBar_32 (by decide) ?_
          refine lv_goto (tgt := 38) hE.1 hE.2.1 dX8_slotBar_34 (by decide) ?_
          exact kr _ _ _ rfl ⟨-6, by omega, rfl⟩ dX8_slotBar_38
    · skip
      refine lv_bipush (v := iI (-2)) hE.1 hE.2.1 dX8_slotBar_17 (by decide) ?_
      exact kr _ _ _ rfl ⟨-2, by omega, rfl⟩ dX8_slotBar_19

set_option maxHeartbeats 4000000 in
set_option maxRecDepth 100000 in
theorem s_X7_clear_31 (l : Launch) (D : va_G) (K : Nat → ClassId) (ad : Nat → Nat) (mm : Option Nat) (N : Nat) (hNN : 132 ≤ N) (v ar : sI) (al : sL) (hI : XI v) : Met l yX7_clear (wM yX7_clear cX7_clear 1 none) (rmD 1) (va_Pc [.ref (ad 31)] (wPre D K ad (xG ad K mm) N v ar al)) (va_Qv (fun u : sT => XI u.1 ∧ (∀ i j : Nat, (i, j) ∉ ([(31, 2), (31, 3), (31, 4), (31, 5), (31, 8), (31, 9)] : List (Nat × Nat)) → u.1 i j = v i j)) (wB D ad (xG ad K mm) N) (inW ad N)) 0 0 (inW ad N) := by
  refine s_metV (by decide) (Nat.le_of_ble_eq_true rfl) ?_
  intro p e s m below meth c ls args Q hE hB hl kr
  have hE : CallFix p m c cX7_clear 1 s args tbG "TaleCourt$Telling" := hE
  obtain ⟨hP, hK, hN⟩ := hB
  have hS : va_S (inW ad N) s.heap s.heap [] := va_S.rf
  have hl : lv_has ls 1 [(0, .ref (ad 31))] := hl
  refine lv_aload_n hE.1 hE.2.1 dX7_clear_0 rfl (lv_at hl 0 rfl) ?_
  refine lv_iconst (v := iI (0)) hE.1 hE.2.1 dX7_clear_1 (by decide) ?_
  refine x_put (x := iI (0)) hE hK hN hP hS 31 (Nat.lt_of_lt_of_le (by decide) hNN) (xG_7 rfl) rfl hin7 tyX7 tyX7_ok nmX7 2 (by decide) mw_301 rfl rfl rfl (Nat.le_of_ble_eq_true rfl) (xG_7 rfl) dX7_clear_2 (fun v1 H locs hv1 hP hS => ?_)
  have hI := XI_putB (z := 0) hI hv1 0 18 (by omega) (by decide) (by omega)
  refine lv_aload_n hE.1 hE.2.1 dX7_clear_5 rfl (lv_at hl 0 rfl) ?_
  refine lv_iconst (v := iI (0)) hE.1 hE.2.1 dX7_clear_6 (by decide) ?_
  refine x_put (x := iI (0)) hE hK hN hP hS 31 (Nat.lt_of_lt_of_le (by decide) hNN) (xG_7 rfl) rfl hin7 tyX7 tyX7_ok nmX7 3 (by decide) mw_305 rfl rfl rfl (Nat.le_of_ble_eq_true rfl) (xG_7 rfl) dX7_clear_7 (fun v2 H locs hv2 hP hS => ?_)
  have hI := XI_putN hI hv2 (by decide)
  refine lv_aload_n hE.1 hE.2.1 dX7_clear_10 rfl (lv_at hl 0 rfl) ?_
  refine lv_iconst (v := iI (-1)) hE.1 hE.2.1 dX7_clear_11 (by decide) ?_
  refine x_put (x := iI (-1)) hE hK hN hP hS 31 (Nat.lt_of_lt_of_le (by decide) hNN) (xG_7 rfl) rfl hin7 tyX7 tyX7_ok nmX7 4 (by decide) mw_309 rfl rfl rfl (Nat.le_of_ble_eq_true rfl) (xG_7 rfl) dX7_clear_12 (fun v3 H locs hv3 hP hS => ?_)
  have hI := XI_putN hI hv3 (by decide)
  refine lv_aload_n hE.1 hE.2.1 dX7_clear_15 rfl (lv_at hl 0 rfl) ?_
  refine lv_iconst (v := iI (0)) hE.1 hE.2.1 dX7_clear_16 (by decide) ?_
  refine x_put (x := iI (0)) hE hK hN hP hS 31 (Nat.lt_of_lt_of_le (by decide) hNN) (xG_7 rfl) rfl hin7 tyX7 tyX7_ok nmX7 5 (by decide) mw_312 rfl rfl rfl (Nat.le_of_ble_eq_true rfl) (xG_7 rfl) dX7_clear_17 (fun v4 H locs hv4 hP hS => ?_)
  have hI := XI_putN hI hv4 (by decide)
  refine lv_aload_n hE.1 hE.2.1 dX7_clear_20 rfl (lv_at hl 0 rfl) ?_
  refine lv_iconst (v := iI (0)) hE.1 hE.2.1 dX7_clear_21 (by decide) ?_
  refine x_put (x := iI (0)) hE hK hN hP hS 31 (Nat.lt_of_lt_of_le (by decide) hNN) (xG_7 rfl) rfl hin7 tyX7 tyX7_ok nmX7 8 (by decide) mw_317 rfl rfl rfl (Nat.le_of_ble_eq_true rfl) (xG_7 rfl) dX7_clear_22 (fun v5 H locs hv5 hP hS => ?_)
  have hI := XI_putN hI hv5 (by decide)
  refine lv_aload_n hE.1 hE.2.1 dX7_clear_25 rfl (lv_at hl 0 rfl) ?_
  refine lv_iconst (v := iI (0)) hE.1 hE.2.1 dX7_clear_26 (by decide) ?_
  refine x_put (x := iI (0)) hE hK hN hP hS 31 (Nat.lt_of_lt_of_le (by decide) hNN) (xG_7 rfl) rfl hin7 tyX7 tyX7_ok nmX7 9 (by decide) mw_318 rfl rfl rfl (Nat.le_of_ble_eq_true rfl) (xG_7 rfl) dX7_clear_27 (fun v6 H locs hv6 hP hS => ?_)
  have hI := XI_putN hI hv6 (by decide)
  refine lv_aload_n hE.1 hE.2.1 dX7_clear_30 rfl (lv_at hl 0 rfl) ?_
  refine x_get (x := .ref (ad 34)) hE hK hP 31 (Nat.lt_of_lt_of_le (by decide) hNN) (xG_7 rfl) rfl hin7 7 (by decide) mw_316 rfl dX7_clear_31 ?_
  refine lv_iconst (v := iI (0)) hE.1 hE.2.1 dX7_clear_34 (by decide) ?_
  refine x_sv (nn := 2) (As := [.ref (ad 34), .int (iI (0))]) (rest := []) hE hK hN hP hS (k_fillI l D K ad v6 ar al 34 3 (Nat.lt_of_lt_of_le (by decide) hNN) (fun _ => xG_10 rfl) (Nat.le_of_ble_eq_true rfl) (iI (0))) rfl mw_685 mw_536 mw_124 mw_537 (by decide +kernel) ⟨by decide, by decide⟩ hl.1 rfl (Nat.le_of_ble_eq_true rfl) ⟨Nat.zero_le _, Nat.zero_le _⟩ dX7_clear_35 (fun v7 ar7 al7 H locs hq7 hP hS => ?_)
  rw [show v7 = v6 from hq7.1] at hP
  exact kr _ _ _ _ _ _ _ ⟨hI, fun i j h => ((up_oth hv6 (fun q => h (by rcases q with ⟨rfl, rfl⟩; decide))).trans ((up_oth hv5 (fun q => h (by rcases q with ⟨rfl, rfl⟩; decide))).trans ((up_oth hv4 (fun q => h (by rcases q with ⟨rfl, rfl⟩; decide))).trans ((up_oth hv3 (fun q => h (by rcases q with ⟨rfl, rfl⟩; decide))).trans ((up_oth hv2 (fun q => h (by rcases q with ⟨rfl, rfl⟩; decide))).trans (up_oth hv1 (fun q => h (by rcases q with ⟨rfl, rfl⟩; decide))))))))⟩ hP hS dX7_clear_38

theorem dX1_hasNumber_0 : decode cX1_hasNumber 0 = .ok (.lload_n 1, 1) := by decide +kernel
theorem dX1_hasNumber_1 : decode cX1_hasNumber 1 = .ok (.lconst 0, 1) := by decide +kernel
theorem dX1_hasNumber_2 : decode cX1_hasNumber 2 = .ok (.lcmp, 1) := by decide +kernel
theorem dX1_hasNumber_3 : decode cX1_hasNumber 3 = .ok (.ifCond .lt 25, 3) := by decide +kernel
theorem dX1_hasNumber_6 : decode cX1_hasNumber 6 = .ok (.lload_n 1, 1) := by decide +kernel
theorem dX1_hasNumber_7 : decode cX1_hasNumber 7 = .ok (.aload_n 0, 1) := by decide +kernel
theorem dX1_hasNumber_8 : decode cX1_hasNumber 8 = .ok (.getfield 46, 3) := by decide +kernel
theorem dX1_hasNumber_11 : decode cX1_hasNumber 11 = .ok (.i2l, 1) := by decide +kernel
theorem dX1_hasNumber_12 : decode cX1_hasNumber 12 = .ok (.lcmp, 1) := by decide +kernel
theorem dX1_hasNumber_13 : decode cX1_hasNumber 13 = .ok (.ifCond .ge 15, 3) := by decide +kernel
theorem dX1_hasNumber_16 : decode cX1_hasNumber 16 = .ok (.lload_n 1, 1) := by decide +kernel
theorem dX1_hasNumber_17 : decode cX1_hasNumber 17 = .ok (.ldc2_w 85, 3) := by decide +kernel
theorem dX1_hasNumber_20 : decode cX1_hasNumber 20 = .ok (.lcmp, 1) := by decide +kernel
theorem dX1_hasNumber_21 : decode cX1_hasNumber 21 = .ok (.ifCond .ge 7, 3) := by decide +kernel
theorem dX1_hasNumber_24 : decode cX1_hasNumber 24 = .ok (.iconst 1, 1) := by decide +kernel
theorem dX1_hasNumber_25 : decode cX1_hasNumber 25 = .ok (.goto 4, 3) := by decide +kernel
theorem dX1_hasNumber_28 : decode cX1_hasNumber 28 = .ok (.iconst 0, 1) := by decide +kernel
theorem dX1_hasNumber_29 : decode cX1_hasNumber 29 = .ok (.ireturn, 1) := by decide +kernel
set_option maxHeartbeats 4000000 in
set_option maxRecDepth 100000 in
theorem s_X1_hasNumber_3 (l : Launch) (D : va_G) (K : Nat → ClassId) (ad : Nat → Nat) (mm : Option Nat) (N : Nat) (hNN : 132 ≤ N) (v ar : sI) (al : sL) (hI : XI v) (z_1 : Int) (hz_1 : -9223372036854775808 ≤ z_1 ∧ z_1 ≤ 9223372036854775807) : Met l yX1_hasNumber (wM yX1_hasNumber cX1_hasNumber 3 (some .boolean)) (rmD 0) (va_Pc [.ref (ad 3), .long (lI (z_1))] (wPre D K ad (xG ad K mm) N v ar al)) (vp_Si (fun r => ∃ z : Int, (z = 0 ∨ (z = 1 ∧ 0 ≤ z_1 ∧ z_1 ≤ 8)) ∧ r = iI z)) 0 0 (fun _ => False) := by
  refine s_metP (by decide) (Nat.le_of_ble_eq_true rfl) ?_
  intro p e s m below meth c ls args Q hE hB hl kr
  have hE : CallFix p m c cX1_hasNumber 3 s args tbG "TaleCourt$Court" := hE
  obtain ⟨hP, hK, hN⟩ := hB
  have hl : lv_has ls 3 [(0, .ref (ad 3)), (1, .long (lI (z_1)))] := hl
  refine lv_lload_n hE.1 hE.2.1 dX1_hasNumber_0 rfl (lv_at hl 1 rfl) ?_
  refine lv_lconst (v := lI (0)) hE.1 hE.2.1 dX1_hasNumber_1 (by decide) ?_
  refine W.lcmp hE.1 hE.2.1 dX1_hasNumber_2 ?_
  obtain ⟨z1, hz1, ez1⟩ := lcmp_of (a := z_1) (b := 0) (by omega) (by omega)
  refine x_top ez1 ?_
  refine s_if_lt (a := z1) (tgt := 28) hE.1 hE.2.1 (by omega) dX1_hasNumber_3 (by decide) (fun c2 => ?_) (fun c2 => ?_)
  · skip
    refine lv_iconst (v := iI (0)) hE.1 hE.2.1 dX1_hasNumber_28 (by decide) ?_
    exact kr _ _ _ (nar01 (by omega)) ⟨0, by omega, rfl⟩ dX1_hasNumber_29
  · skip
    refine lv_lload_n hE.1 hE.2.1 dX1_hasNumber_6 rfl (lv_at hl 1 rfl) ?_
    refine lv_aload_n hE.1 hE.2.1 dX1_hasNumber_7 rfl (lv_at hl 0 rfl) ?_
    obtain ⟨z3, hz3, ez3⟩ := XI_get hI 3 2 0 9 (by decide)
    refine x_get (x := .int (v 3 2)) hE hK hP 3 (Nat.lt_of_lt_of_le (by decide) hNN) (xG_1 rfl) rfl hin1 2 (by decide) mw_187 rfl dX1_hasNumber_8 ?_
    refine x_top (y := iI (z3)) ez3 ?_
    refine lv_i2l (v := lI (z3)) hE.1 hE.2.1 dX1_hasNumber_11 (iI_i2l (by omega)) ?_
    refine W.lcmp hE.1 hE.2.1 dX1_hasNumber_12 ?_
    obtain ⟨z4, hz4, ez4⟩ := lcmp_of (a := z_1) (b := z3) (by omega) (by omega)
    refine x_top ez4 ?_
    refine s_if_ge (a := z4) (tgt := 28) hE.1 hE.2.1 (by omega) dX1_hasNumber_13 (by decide) (fun c5 => ?_) (fun c5 => ?_)
    · skip
      refine lv_iconst (v := iI (0)) hE.1 hE.2.1 dX1_hasNumber_28 (by decide) ?_
      exact kr _ _ _ (nar01 (by omega)) ⟨0, by omega, rfl⟩ dX1_hasNumber_29
    · skip
      refine lv_lload_n hE.1 hE.2.1 dX1_hasNumber_16 rfl (lv_at hl 1 rfl) ?_
      refine lv_ldc2 (v := 9) hE.1 hE.2.1 hE.2.2.2.1 (hE.2.2.2.2 _ mw_1150) dX1_hasNumber_17 ?_
      refine x_topl (y := lI (9)) (by decide) ?_
      refine W.lcmp hE.1 hE.2.1 dX1_hasNumber_20 ?_
      obtain ⟨z6, hz6, ez6⟩ := lcmp_of (a := z_1) (b := 9) (by omega) (by omega)
      refine x_top ez6 ?_
      refine s_if_ge (a := z6) (tgt := 28) hE.1 hE.2.1 (by omega) dX1_hasNumber_21 (by decide) (fun c7 => ?_) (fun c7 => ?_)
      · skip
        exact False.elim (by omega)
      · skip
        refine lv_iconst (v := iI (1)) hE.1 hE.2.1 dX1_hasNumber_24 (by decide) ?_
        refine lv_goto (tgt := 29) hE.1 hE.2.1 dX1_hasNumber_25 (by decide) ?_
        exact kr _ _ _ (nar01 (by omega)) ⟨1, by omega, rfl⟩ dX1_hasNumber_29

set_option maxHeartbeats 4000000 in
set_option maxRecDepth 100000 in
theorem s_X7_joined_31 (l : Launch) (D : va_G) (K : Nat → ClassId) (ad : Nat → Nat) (mm : Option Nat) (N : Nat) (hNN : 132 ≤ N) (v ar : sI) (al : sL) (hI : XI v) : Met l yX7_joined (wM yX7_joined cX7_joined 1 (some .int)) (rmD 0) (va_Pc [.ref (ad 31)] (wPre D K ad (xG ad K mm) N v ar al)) (vp_Si (fun r => ∃ z : Int, (-2147483648 ≤ z ∧ z ≤ 2147483647) ∧ r = iI z)) 0 0 (fun _ => False) := by
  refine s_metP (by decide) (Nat.le_of_ble_eq_true rfl) ?_
  intro p e s m below meth c ls args Q hE hB hl kr
  have hE : CallFix p m c cX7_joined 1 s args tbG "TaleCourt$Telling" := hE
  obtain ⟨hP, hK, hN⟩ := hB
  have hl : lv_has ls 1 [(0, .ref (ad 31))] := hl
  refine lv_aload_n hE.1 hE.2.1 dX7_joined_0 rfl (lv_at hl 0 rfl) ?_
  obtain ⟨z1, hz1, ez1⟩ := iI_of (v 31 4)
  refine x_get (x := .int (v 31 4)) hE hK hP 31 (Nat.lt_of_lt_of_le (by decide) hNN) (xG_7 rfl) rfl hin7 4 (by decide) mw_309 rfl dX7_joined_1 ?_
  refine x_top (y := iI (z1)) ez1 ?_
  refine s_if_lt (a := z1) (tgt := 31) hE.1 hE.2.1 (by omega) dX7_joined_4 (by decide) (fun c2 => ?_) (fun c2 => ?_)
  · skip
    refine lv_aload_n hE.1 hE.2.1 dX7_joined_31 rfl (lv_at hl 0 rfl) ?_
    refine x_get (x := .ref (ad 3)) hE hK hP 31 (Nat.lt_of_lt_of_le (by decide) hNN) (xG_7 rfl) rfl hin7 6 (by decide) mw_315 rfl dX7_joined_32 ?_
    obtain ⟨z3, hz3, ez3⟩ := iI_of (v 3 7)
    refine x_get (x := .int (v 3 7)) hE hK hP 3 (Nat.lt_of_lt_of_le (by decide) hNN) (xG_1 rfl) rfl hin1 7 (by decide) mw_206 rfl dX7_joined_35 ?_
    refine x_top (y := iI (z3)) ez3 ?_
    exact kr _ _ _ rfl ⟨z3, by omega, rfl⟩ dX7_joined_38
  · skip
    refine lv_aload_n hE.1 hE.2.1 dX7_joined_7 rfl (lv_at hl 0 rfl) ?_
    refine x_get (x := .int (v 31 4)) hE hK hP 31 (Nat.lt_of_lt_of_le (by decide) hNN) (xG_7 rfl) rfl hin7 4 (by decide) mw_309 rfl dX7_joined_8 ?_
    refine x_top (y := iI (z1)) ez1 ?_
    refine lv_bipush (v := iI (9)) hE.1 hE.2.1 dX7_joined_11 (by decide) ?_
    refine s_icmp_ge (a := z1) (b := 9) (tgt := 31) hE.1 hE.2.1 (by omega) (by omega) dX7_joined_13 (by decide) (fun c4 => ?_) (fun c4 => ?_)
    · skip
      refine lv_aload_n hE.1 hE.2.1 dX7_joined_31 rfl (lv_at hl 0 rfl) ?_
      refine x_get (x := .ref (ad 3)) hE hK hP 31 (Nat.lt_of_lt_of_le (by decide) hNN) (xG_7 rfl) rfl hin7 6 (by decide) mw_315 rfl dX7_joined_32 ?_
      obtain ⟨z5, hz5, ez5⟩ := iI_of (v 3 7)
      refine x_get (x := .int (v 3 7)) hE hK hP 3 (Nat.lt_of_lt_of_le (by decide) hNN) (xG_1 rfl) rfl hin1 7 (by decide) mw_206 rfl dX7_joined_35 ?_
      refine x_top (y := iI (z5)) ez5 ?_
      exact kr _ _ _ rfl ⟨z5, by omega, rfl⟩ dX7_joined_38
    · skip
      refine lv_aload_n hE.1 hE.2.1 dX7_joined_16 rfl (lv_at hl 0 rfl) ?_
      refine x_get (x := .ref (ad 3)) hE hK hP 31 (Nat.lt_of_lt_of_le (by decide) hNN) (xG_7 rfl) rfl hin7 6 (by decide) mw_315 rfl dX7_joined_17 ?_
      refine x_get (x := .ref (ad 8)) hE hK hP 3 (Nat.lt_of_lt_of_le (by decide) hNN) (xG_1 rfl) rfl hin1 15 (by decide) mw_234 rfl dX7_joined_20 ?_
      refine lv_aload_n hE.1 hE.2.1 dX7_joined_23 rfl (lv_at hl 0 rfl) ?_
      refine x_get (x := .int (v 31 4)) hE hK hP 31 (Nat.lt_of_lt_of_le (by decide) hNN) (xG_7 rfl) rfl hin7 4 (by decide) mw_309 rfl dX7_joined_24 ?_
      refine x_top (y := iI (z1)) ez1 ?_
      refine x_iald (j := iI (z1)) hE hK hP 8 (Nat.lt_of_lt_of_le (by decide) hNN) (xG_10 rfl) (iI_in (n := 9) (by omega)) dX7_joined_27 ?_
      obtain ⟨z7, hz7, ez7⟩ := iI_of (ar 8 (iI (z1)).toNatClampNeg)
      refine x_top ez7 ?_
      refine lv_goto (tgt := 38) hE.1 hE.2.1 dX7_joined_28 (by decide) ?_
      exact kr _ _ _ rfl ⟨z7, by omega, rfl⟩ dX7_joined_38

set_option maxHeartbeats 4000000 in
set_option maxRecDepth 100000 in
theorem s_X7_unpaid_31 (l : Launch) (D : va_G) (K : Nat → ClassId) (ad : Nat → Nat) (mm : Option Nat) (N : Nat) (hNN : 132 ≤ N) (v ar : sI) (al : sL) (hI : XI v) : Met l yX7_unpaid (wM yX7_unpaid cX7_unpaid 1 (some .int)) (rmD 0) (va_Pc [.ref (ad 31)] (wPre D K ad (xG ad K mm) N v ar al)) (vp_Si (fun r => ∃ z : Int, (-2147483648 ≤ z ∧ z ≤ 2147483647) ∧ r = iI z)) 0 0 (fun _ => False) := by
  refine s_metP (by decide) (Nat.le_of_ble_eq_true rfl) ?_
  intro p e s m below meth c ls args Q hE hB hl kr
  have hE : CallFix p m c cX7_unpaid 1 s args tbG "TaleCourt$Telling" := hE
  obtain ⟨hP, hK, hN⟩ := hB
  have hl : lv_has ls 1 [(0, .ref (ad 31))] := hl
  refine lv_aload_n hE.1 hE.2.1 dX7_unpaid_0 rfl (lv_at hl 0 rfl) ?_
  obtain ⟨z1, hz1, ez1⟩ := iI_of (v 31 9)
  refine x_get (x := .int (v 31 9)) hE hK hP 31 (Nat.lt_of_lt_of_le (by decide) hNN) (xG_7 rfl) rfl hin7 9 (by decide) mw_318 rfl dX7_unpaid_1 ?_
  refine x_top (y := iI (z1)) ez1 ?_
  refine lv_aload_n hE.1 hE.2.1 dX7_unpaid_4 rfl (lv_at hl 0 rfl) ?_
  obtain ⟨z2, hz2, ez2⟩ := iI_of (v 31 3)
  refine x_get (x := .int (v 31 3)) hE hK hP 31 (Nat.lt_of_lt_of_le (by decide) hNN) (xG_7 rfl) rfl hin7 3 (by decide) mw_305 rfl dX7_unpaid_5 ?_
  refine x_top (y := iI (z2)) ez2 ?_
  refine lv_iconst (v := iI (-1)) hE.1 hE.2.1 dX7_unpaid_8 (by decide) ?_
  refine lv_ixor hE.1 hE.2.1 dX7_unpaid_9 ?_
  obtain ⟨z3, hz3, ez3⟩ := iI_of (iI (z2) ^^^ iI (-1))
  refine x_top ez3 ?_
  refine lv_iand hE.1 hE.2.1 dX7_unpaid_10 ?_
  obtain ⟨z4, hz4, ez4⟩ := iI_of (iI (z1) &&& iI (z3))
  refine x_top ez4 ?_
  exact kr _ _ _ rfl ⟨z4, by omega, rfl⟩ dX7_unpaid_11

set_option maxHeartbeats 4000000 in
set_option maxRecDepth 100000 in
theorem s_X7_pressing_31 (l : Launch) (D : va_G) (K : Nat → ClassId) (ad : Nat → Nat) (mm : Option Nat) (N : Nat) (hNN : 132 ≤ N) (v ar : sI) (al : sL) (hI : XI v) : Met l yX7_pressing (wM yX7_pressing cX7_pressing 3 (some .int)) (rmD 1) (va_Pc [.ref (ad 31)] (wPre D K ad (xG ad K mm) N v ar al)) (vp_Si (fun r => ∃ z : Int, (-2147483648 ≤ z ∧ z ≤ 2147483647) ∧ r = iI z)) 0 0 (fun _ => False) := by
  refine s_metP (by decide) (Nat.le_of_ble_eq_true rfl) ?_
  intro p e s m below meth c ls args Q hE hB hl kr
  have hE : CallFix p m c cX7_pressing 3 s args tbG "TaleCourt$Telling" := hE
  obtain ⟨hP, hK, hN⟩ := hB
  have hl : lv_has ls 3 [(0, .ref (ad 31))] := hl
  refine lv_aload_n hE.1 hE.2.1 dX7_pressing_0 rfl (lv_at hl 0 rfl) ?_
  refine x_vp (nn := 0) (As := []) (rest := []) hE (s_X7_unpaid_31 l D K ad mm N hNN v ar al hI  ) wPre_blind (wPre_now hK hN hP) (x_recv hK hP 31 (Nat.lt_of_lt_of_le (by decide) hNN) (xG_7 rfl) rfl) rfl mw_754 mw_755 mw_756 mw_117 mw_757 (by decide +kernel) ⟨by decide, by decide⟩ hl.1 rfl (Nat.le_of_ble_eq_true rfl) ⟨Nat.zero_le _, Nat.zero_le _⟩ dX7_pressing_1 (fun r1 hr1 => ?_)
  obtain ⟨z1, hz1, rfl⟩ := hr1
  refine lv_istore_n (lv' := [(1, .int (iI (z1))), (0, .ref (ad 31))]) hE.1 hE.2.1 dX7_pressing_4 rfl hl (by decide) rfl (fun ls hl => ?_)
  refine lv_iconst (v := iI (0)) hE.1 hE.2.1 dX7_pressing_5 (by decide) ?_
  refine lv_istore_n (lv' := [(2, .int (iI (0))), (1, .int (iI (z1))), (0, .ref (ad 31))]) hE.1 hE.2.1 dX7_pressing_6 rfl hl (by decide) rfl (fun ls hl => ?_)
  have loop2 : ∀ (k2 : Nat) (y2_2 : Int) (y2_1 : Int) (ls : Array Slot), (9 - y2_2).toNat = k2 → (0 ≤ y2_2 ∧ y2_2 ≤ 9) → (-2147483648 ≤ y2_1 ∧ y2_1 ≤ 2147483647) → lv_has ls 3 [(2, .int (iI (y2_2))), (1, .int (iI (y2_1))), (0, .ref (ad 31))] → W p l e (rmD 1) s m args below meth c s.heap [] 0 0 Q (F0 m 7 ls []) := by
    intro k2
    induction k2 using Nat.strongRecOn with
    | _ k2 ih2 =>
      intro y2_2 y2_1 ls hk2 hb_y2_2 hb_y2_1 hl
      refine lv_iload_n hE.1 hE.2.1 dX7_pressing_7 rfl (lv_at hl 0 rfl) ?_
      refine lv_bipush (v := iI (9)) hE.1 hE.2.1 dX7_pressing_8 (by decide) ?_
      refine s_icmp_ge (a := y2_2) (b := 9) (tgt := 46) hE.1 hE.2.1 (by omega) (by omega) dX7_pressing_10 (by decide) (fun c3 => ?_) (fun c3 => ?_)
      · skip
        refine lv_iload_n hE.1 hE.2.1 dX7_pressing_46 rfl (lv_at hl 1 rfl) ?_
        exact kr _ _ _ rfl ⟨y2_1, by omega, rfl⟩ dX7_pressing_47
      · skip
        refine lv_iload_n hE.1 hE.2.1 dX7_pressing_13 rfl (lv_at hl 1 rfl) ?_
        refine lv_iload_n hE.1 hE.2.1 dX7_pressing_14 rfl (lv_at hl 0 rfl) ?_
        refine lv_ishr hE.1 hE.2.1 dX7_pressing_15 ?_
        obtain ⟨z4, hz4, ez4⟩ := iI_of (iI (y2_1) >>> (iI (y2_2) &&& 31))
        refine x_top ez4 ?_
        refine s_if_eq (a := z4) (tgt := 46) hE.1 hE.2.1 (by omega) dX7_pressing_16 (by decide) (fun c5 => ?_) (fun c5 => ?_)
        · skip
          refine lv_iload_n hE.1 hE.2.1 dX7_pressing_46 rfl (lv_at hl 1 rfl) ?_
          exact kr _ _ _ rfl ⟨y2_1, by omega, rfl⟩ dX7_pressing_47
        · skip
          refine lv_aload_n hE.1 hE.2.1 dX7_pressing_19 rfl (lv_at hl 2 rfl) ?_
          refine x_get (x := .ref (ad 33)) hE hK hP 31 (Nat.lt_of_lt_of_le (by decide) hNN) (xG_7 rfl) rfl hin7 1 (by decide) mw_299 rfl dX7_pressing_20 ?_
          refine lv_iload_n hE.1 hE.2.1 dX7_pressing_23 rfl (lv_at hl 0 rfl) ?_
          refine x_iald (j := iI (y2_2)) hE hK hP 33 (Nat.lt_of_lt_of_le (by decide) hNN) (xG_10 rfl) (iI_in (n := 9) (by omega)) dX7_pressing_24 ?_
          obtain ⟨z7, hz7, ez7⟩ := iI_of (ar 33 (iI (y2_2)).toNatClampNeg)
          refine x_top ez7 ?_
          refine lv_aload_n hE.1 hE.2.1 dX7_pressing_25 rfl (lv_at hl 2 rfl) ?_
          obtain ⟨z8, hz8, ez8⟩ := XI_get hI 31 2 0 18 (by decide)
          refine x_get (x := .int (v 31 2)) hE hK hP 31 (Nat.lt_of_lt_of_le (by decide) hNN) (xG_7 rfl) rfl hin7 2 (by decide) mw_301 rfl dX7_pressing_26 ?_
          refine x_top (y := iI (z8)) ez8 ?_
          refine s_icmp_le (a := z7) (b := z8) (tgt := 40) hE.1 hE.2.1 (by omega) (by omega) dX7_pressing_29 (by decide) (fun c9 => ?_) (fun c9 => ?_)
          · skip
            refine lv_iinc (v := iI (y2_2 + 1)) (lv' := [(2, .int (iI (y2_2 + 1))), (1, .int (iI (y2_1))), (0, .ref (ad 31))]) hE.1 hE.2.1 dX7_pressing_40 hl (k := 0) rfl ((iI_add (y2_2) (1)).trans (congrArg iI (by omega))) (by decide) rfl (fun ls hl => ?_)
            refine lv_goto (tgt := 7) hE.1 hE.2.1 dX7_pressing_43 (by decide) ?_
            exact ih2 _ (by omega) (y2_2 + 1) (y2_1) _ rfl (by omega) (by omega) (lv_sub hl [0, 1, 2] rfl)
          · skip
            refine lv_iload_n hE.1 hE.2.1 dX7_pressing_32 rfl (lv_at hl 1 rfl) ?_
            refine lv_iconst (v := iI (1)) hE.1 hE.2.1 dX7_pressing_33 (by decide) ?_
            refine lv_iload_n hE.1 hE.2.1 dX7_pressing_34 rfl (lv_at hl 0 rfl) ?_
            refine lv_ishl hE.1 hE.2.1 dX7_pressing_35 ?_
            obtain ⟨z10, hz10, ez10⟩ := iI_shl1 (a := y2_2) (by omega)
            refine x_top ez10 ?_
            refine lv_iconst (v := iI (-1)) hE.1 hE.2.1 dX7_pressing_36 (by decide) ?_
            refine lv_ixor hE.1 hE.2.1 dX7_pressing_37 ?_
            obtain ⟨z11, hz11, ez11⟩ := iI_of (iI (z10) ^^^ iI (-1))
            refine x_top ez11 ?_
            refine lv_iand hE.1 hE.2.1 dX7_pressing_38 ?_
            obtain ⟨z12, hz12, ez12⟩ := iI_of (iI (y2_1) &&& iI (z11))
            refine x_top ez12 ?_
            refine lv_istore_n (lv' := [(1, .int (iI (z12))), (2, .int (iI (y2_2))), (0, .ref (ad 31))]) hE.1 hE.2.1 dX7_pressing_39 rfl hl (by decide) rfl (fun ls hl => ?_)
            refine lv_iinc (v := iI (y2_2 + 1)) (lv' := [(2, .int (iI (y2_2 + 1))), (1, .int (iI (z12))), (0, .ref (ad 31))]) hE.1 hE.2.1 dX7_pressing_40 hl (k := 1) rfl ((iI_add (y2_2) (1)).trans (congrArg iI (by omega))) (by decide) rfl (fun ls hl => ?_)
            refine lv_goto (tgt := 7) hE.1 hE.2.1 dX7_pressing_43 (by decide) ?_
            exact ih2 _ (by omega) (y2_2 + 1) (z12) _ rfl (by omega) (by omega) (lv_sub hl [0, 1, 2] rfl)
  exact loop2 _ (0) (z1) _ rfl (by omega) (by omega) hl

set_option maxHeartbeats 4000000 in
set_option maxRecDepth 100000 in
theorem s_X7_teller_31 (l : Launch) (D : va_G) (K : Nat → ClassId) (ad : Nat → Nat) (mm : Option Nat) (N : Nat) (hNN : 132 ≤ N) (v ar : sI) (al : sL) (hI : XI v) : Met l yX7_teller (wM yX7_teller cX7_teller 2 (some .int)) (rmD 0) (va_Pc [.ref (ad 31)] (wPre D K ad (xG ad K mm) N v ar al)) (vp_Si (fun r => ∃ z : Int, (0 ≤ z ∧ z ≤ 2) ∧ r = iI z)) 0 0 (fun _ => False) := by
  refine s_metP (by decide) (Nat.le_of_ble_eq_true rfl) ?_
  intro p e s m below meth c ls args Q hE hB hl kr
  have hE : CallFix p m c cX7_teller 2 s args tbG "TaleCourt$Telling" := hE
  obtain ⟨hP, hK, hN⟩ := hB
  have hl : lv_has ls 2 [(0, .ref (ad 31))] := hl
  refine lv_aload_n hE.1 hE.2.1 dX7_teller_0 rfl (lv_at hl 0 rfl) ?_
  refine x_get (x := .ref (ad 3)) hE hK hP 31 (Nat.lt_of_lt_of_le (by decide) hNN) (xG_7 rfl) rfl hin7 6 (by decide) mw_315 rfl dX7_teller_1 ?_
  obtain ⟨z1, hz1, ez1⟩ := XI_get hI 3 0 0 3 (by decide)
  refine x_get (x := .int (v 3 0)) hE hK hP 3 (Nat.lt_of_lt_of_le (by decide) hNN) (xG_1 rfl) rfl hin1 0 (by decide) mw_179 rfl dX7_teller_4 ?_
  refine x_top (y := iI (z1)) ez1 ?_
  refine lv_istore_n (lv' := [(1, .int (iI (z1))), (0, .ref (ad 31))]) hE.1 hE.2.1 dX7_teller_7 rfl hl (by decide) rfl (fun ls hl => ?_)
  refine lv_iload_n hE.1 hE.2.1 dX7_teller_8 rfl (lv_at hl 0 rfl) ?_
  refine s_if_le (a := z1) (tgt := 33) hE.1 hE.2.1 (by omega) dX7_teller_9 (by decide) (fun c2 => ?_) (fun c2 => ?_)
  · skip
    refine lv_iconst (v := iI (0)) hE.1 hE.2.1 dX7_teller_33 (by decide) ?_
    exact kr _ _ _ rfl ⟨0, by omega, rfl⟩ dX7_teller_34
  · skip
    refine lv_iload_n hE.1 hE.2.1 dX7_teller_12 rfl (lv_at hl 0 rfl) ?_
    refine lv_iconst (v := iI (3)) hE.1 hE.2.1 dX7_teller_13 (by decide) ?_
    refine s_icmp_gt (a := z1) (b := 3) (tgt := 33) hE.1 hE.2.1 (by omega) (by omega) dX7_teller_14 (by decide) (fun c3 => False.elim (by omega)) (fun _ => ?_)
    refine lv_aload_n hE.1 hE.2.1 dX7_teller_17 rfl (lv_at hl 1 rfl) ?_
    obtain ⟨z4, hz4, ez4⟩ := XI_get hI 31 2 0 18 (by decide)
    refine x_get (x := .int (v 31 2)) hE hK hP 31 (Nat.lt_of_lt_of_le (by decide) hNN) (xG_7 rfl) rfl hin7 2 (by decide) mw_301 rfl dX7_teller_18 ?_
    refine x_top (y := iI (z4)) ez4 ?_
    refine s_if_lt (a := z4) (tgt := 33) hE.1 hE.2.1 (by omega) dX7_teller_21 (by decide) (fun c5 => False.elim (by omega)) (fun _ => ?_)
    refine lv_aload_n hE.1 hE.2.1 dX7_teller_24 rfl (lv_at hl 1 rfl) ?_
    refine x_get (x := .int (v 31 2)) hE hK hP 31 (Nat.lt_of_lt_of_le (by decide) hNN) (xG_7 rfl) rfl hin7 2 (by decide) mw_301 rfl dX7_teller_25 ?_
    refine x_top (y := iI (z4)) ez4 ?_
    refine lv_iload_n hE.1 hE.2.1 dX7_teller_28 rfl (lv_at hl 0 rfl) ?_
    refine lv_irem hE.1 hE.2.1 dX7_teller_29 (iI_ne0 (by omega) (by omega)) ?_
    obtain ⟨z6, hz6⟩ : ∃ z : Int, z = (z4) % (z1) ∧ 0 ≤ z ∧ z < z1 := ⟨_, rfl, Int.emod_nonneg _ (by omega), Int.emod_lt_of_pos _ (by omega)⟩
    refine x_top (y := iI (z6)) ((iI_rem (by omega) (by omega)).trans (congrArg iI hz6.1.symm)) ?_
    replace hz6 := hz6.2
    refine lv_goto (tgt := 34) hE.1 hE.2.1 dX7_teller_30 (by decide) ?_
    exact kr _ _ _ rfl ⟨z6, by omega, rfl⟩ dX7_teller_34

set_option maxHeartbeats 4000000 in
set_option maxRecDepth 100000 in
theorem s_X7_reason_31 (l : Launch) (D : va_G) (K : Nat → ClassId) (ad : Nat → Nat) (mm : Option Nat) (N : Nat) (hNN : 132 ≤ N) (v ar : sI) (al : sL) (hI : XI v) (z_1 : Int) (hz_1 : -2147483648 ≤ z_1 ∧ z_1 ≤ 2147483647) : Met l yX7_reason (wM yX7_reason cX7_reason 2 (some .int)) (rmD 2) (va_Pc [.ref (ad 31), .int (iI (z_1))] (wPre D K ad (xG ad K mm) N v ar al)) (vp_Si (fun r => ∃ z : Int, (-2147483648 ≤ z ∧ z ≤ 2147483647) ∧ r = iI z)) 0 0 (fun _ => False) := by
  refine s_metP (by decide) (Nat.le_of_ble_eq_true rfl) ?_
  intro p e s m below meth c ls args Q hE hB hl kr
  have hE : CallFix p m c cX7_reason 2 s args tbG "TaleCourt$Telling" := hE
  obtain ⟨hP, hK, hN⟩ := hB
  have hl : lv_has ls 2 [(0, .ref (ad 31)), (1, .int (iI (z_1)))] := hl
  refine lv_aload_n hE.1 hE.2.1 dX7_reason_0 rfl (lv_at hl 0 rfl) ?_
  obtain ⟨z1, hz1, ez1⟩ := iI_of (v 31 3)
  refine x_get (x := .int (v 31 3)) hE hK hP 31 (Nat.lt_of_lt_of_le (by decide) hNN) (xG_7 rfl) rfl hin7 3 (by decide) mw_305 rfl dX7_reason_1 ?_
  refine x_top (y := iI (z1)) ez1 ?_
  refine lv_iload_n hE.1 hE.2.1 dX7_reason_4 rfl (lv_at hl 1 rfl) ?_
  refine lv_ishr hE.1 hE.2.1 dX7_reason_5 ?_
  obtain ⟨z2, hz2, ez2⟩ := iI_of (iI (z1) >>> (iI (z_1) &&& 31))
  refine x_top ez2 ?_
  refine lv_iconst (v := iI (1)) hE.1 hE.2.1 dX7_reason_6 (by decide) ?_
  refine lv_iand hE.1 hE.2.1 dX7_reason_7 ?_
  obtain ⟨z3, hz3, ez3⟩ := iI_and (iI (z2)) (iI (1)) 1 (by decide)
  refine x_top ez3 ?_
  refine s_if_eq (a := z3) (tgt := 13) hE.1 hE.2.1 (by omega) dX7_reason_8 (by decide) (fun c4 => ?_) (fun c4 => ?_)
  · skip
    refine lv_aload_n hE.1 hE.2.1 dX7_reason_13 rfl (lv_at hl 0 rfl) ?_
    obtain ⟨z5, hz5, ez5⟩ := iI_of (v 31 8)
    refine x_get (x := .int (v 31 8)) hE hK hP 31 (Nat.lt_of_lt_of_le (by decide) hNN) (xG_7 rfl) rfl hin7 8 (by decide) mw_317 rfl dX7_reason_14 ?_
    refine x_top (y := iI (z5)) ez5 ?_
    refine lv_iload_n hE.1 hE.2.1 dX7_reason_17 rfl (lv_at hl 1 rfl) ?_
    refine lv_ishr hE.1 hE.2.1 dX7_reason_18 ?_
    obtain ⟨z6, hz6, ez6⟩ := iI_of (iI (z5) >>> (iI (z_1) &&& 31))
    refine x_top ez6 ?_
    refine lv_iconst (v := iI (1)) hE.1 hE.2.1 dX7_reason_19 (by decide) ?_
    refine lv_iand hE.1 hE.2.1 dX7_reason_20 ?_
    obtain ⟨z7, hz7, ez7⟩ := iI_and (iI (z6)) (iI (1)) 1 (by decide)
    refine x_top ez7 ?_
    refine s_if_eq (a := z7) (tgt := 26) hE.1 hE.2.1 (by omega) dX7_reason_21 (by decide) (fun c8 => ?_) (fun c8 => ?_)
    · skip
      refine lv_aload_n hE.1 hE.2.1 dX7_reason_26 rfl (lv_at hl 0 rfl) ?_
      refine x_vp (nn := 0) (As := []) (rest := []) hE (s_X7_joined_31 l D K ad mm N hNN v ar al hI  ) wPre_blind (wPre_now hK hN hP) (x_recv hK hP 31 (Nat.lt_of_lt_of_le (by decide) hNN) (xG_7 rfl) rfl) rfl mw_746 mw_748 mw_16 mw_117 mw_749 (by decide +kernel) ⟨by decide, by decide⟩ hl.1 rfl (Nat.le_of_ble_eq_true rfl) ⟨Nat.zero_le _, Nat.zero_le _⟩ dX7_reason_27 (fun r9 hr9 => ?_)
      obtain ⟨z9, hz9, rfl⟩ := hr9
      refine lv_iload_n hE.1 hE.2.1 dX7_reason_30 rfl (lv_at hl 1 rfl) ?_
      refine lv_ishr hE.1 hE.2.1 dX7_reason_31 ?_
      obtain ⟨z10, hz10, ez10⟩ := iI_of (iI (z9) >>> (iI (z_1) &&& 31))
      refine x_top ez10 ?_
      refine lv_iconst (v := iI (1)) hE.1 hE.2.1 dX7_reason_32 (by decide) ?_
      refine lv_iand hE.1 hE.2.1 dX7_reason_33 ?_
      obtain ⟨z11, hz11, ez11⟩ := iI_and (iI (z10)) (iI (1)) 1 (by decide)
      refine x_top ez11 ?_
      refine s_if_ne (a := z11) (tgt := 39) hE.1 hE.2.1 (by omega) dX7_reason_34 (by decide) (fun c12 => ?_) (fun c12 => ?_)
      · skip
        refine lv_aload_n hE.1 hE.2.1 dX7_reason_39 rfl (lv_at hl 0 rfl) ?_
        refine x_get (x := .ref (ad 3)) hE hK hP 31 (Nat.lt_of_lt_of_le (by decide) hNN) (xG_7 rfl) rfl hin7 6 (by decide) mw_315 rfl dX7_reason_40 ?_
        obtain ⟨z13, hz13, ez13⟩ := iI_of (v 3 8)
        refine x_get (x := .int (v 3 8)) hE hK hP 3 (Nat.lt_of_lt_of_le (by decide) hNN) (xG_1 rfl) rfl hin1 8 (by decide) mw_210 rfl dX7_reason_43 ?_
        refine x_top (y := iI (z13)) ez13 ?_
        refine lv_iload_n hE.1 hE.2.1 dX7_reason_46 rfl (lv_at hl 1 rfl) ?_
        refine lv_ishr hE.1 hE.2.1 dX7_reason_47 ?_
        obtain ⟨z14, hz14, ez14⟩ := iI_of (iI (z13) >>> (iI (z_1) &&& 31))
        refine x_top ez14 ?_
        refine lv_iconst (v := iI (1)) hE.1 hE.2.1 dX7_reason_48 (by decide) ?_
        refine lv_iand hE.1 hE.2.1 dX7_reason_49 ?_
        obtain ⟨z15, hz15, ez15⟩ := iI_and (iI (z14)) (iI (1)) 1 (by decide)
        refine x_top ez15 ?_
        refine s_if_eq (a := z15) (tgt := 64) hE.1 hE.2.1 (by omega) dX7_reason_50 (by decide) (fun c16 => ?_) (fun c16 => ?_)
        · skip
          refine lv_aload_n hE.1 hE.2.1 dX7_reason_64 rfl (lv_at hl 0 rfl) ?_
          refine x_vp (nn := 0) (As := []) (rest := []) hE (s_X7_pressing_31 l D K ad mm N hNN v ar al hI  ) wPre_blind (wPre_now hK hN hP) (x_recv hK hP 31 (Nat.lt_of_lt_of_le (by decide) hNN) (xG_7 rfl) rfl) rfl mw_750 mw_752 mw_17 mw_117 mw_753 (by decide +kernel) ⟨by decide, by decide⟩ hl.1 rfl (Nat.le_of_ble_eq_true rfl) ⟨Nat.zero_le _, Nat.zero_le _⟩ dX7_reason_65 (fun r17 hr17 => ?_)
          obtain ⟨z17, hz17, rfl⟩ := hr17
          refine lv_iconst (v := iI (1)) hE.1 hE.2.1 dX7_reason_68 (by decide) ?_
          refine lv_iload_n hE.1 hE.2.1 dX7_reason_69 rfl (lv_at hl 1 rfl) ?_
          refine lv_ishl hE.1 hE.2.1 dX7_reason_70 ?_
          obtain ⟨z18, hz18, ez18⟩ := iI_of (iI (1) <<< (iI (z_1) &&& 31))
          refine x_top ez18 ?_
          refine lv_iconst (v := iI (-1)) hE.1 hE.2.1 dX7_reason_71 (by decide) ?_
          refine lv_ixor hE.1 hE.2.1 dX7_reason_72 ?_
          obtain ⟨z19, hz19, ez19⟩ := iI_of (iI (z18) ^^^ iI (-1))
          refine x_top ez19 ?_
          refine lv_iand hE.1 hE.2.1 dX7_reason_73 ?_
          obtain ⟨z20, hz20, ez20⟩ := iI_of (iI (z17) &&& iI (z19))
          refine x_top ez20 ?_
          refine s_if_eq (a := z20) (tgt := 79) hE.1 hE.2.1 (by omega) dX7_reason_74 (by decide) (fun c21 => ?_) (fun c21 => ?_)
          · skip
            refine lv_aload_n hE.1 hE.2.1 dX7_reason_79 rfl (lv_at hl 0 rfl) ?_
            refine x_get (x := .ref (ad 3)) hE hK hP 31 (Nat.lt_of_lt_of_le (by decide) hNN) (xG_7 rfl) rfl hin7 6 (by decide) mw_315 rfl dX7_reason_80 ?_
            refine x_get (x := .ref (ad 10)) hE hK hP 3 (Nat.lt_of_lt_of_le (by decide) hNN) (xG_1 rfl) rfl hin1 17 (by decide) mw_240 rfl dX7_reason_83 ?_
            refine lv_aload_n hE.1 hE.2.1 dX7_reason_86 rfl (lv_at hl 0 rfl) ?_
            refine x_vp (nn := 0) (As := []) (rest := [.ref (ad 10)]) hE (s_X7_teller_31 l D K ad mm N hNN v ar al hI  ) wPre_blind (wPre_now hK hN hP) (x_recv hK hP 31 (Nat.lt_of_lt_of_le (by decide) hNN) (xG_7 rfl) rfl) rfl mw_758 mw_759 mw_760 mw_117 mw_761 (by decide +kernel) ⟨by decide, by decide⟩ hl.1 rfl (Nat.le_of_ble_eq_true rfl) ⟨Nat.zero_le _, Nat.zero_le _⟩ dX7_reason_87 (fun r22 hr22 => ?_)
            obtain ⟨z22, hz22, rfl⟩ := hr22
            refine x_iald (j := iI (z22)) hE hK hP 10 (Nat.lt_of_lt_of_le (by decide) hNN) (xG_10 rfl) (iI_in (n := 3) (by omega)) dX7_reason_90 ?_
            obtain ⟨z24, hz24, ez24⟩ := iI_of (ar 10 (iI (z22)).toNatClampNeg)
            refine x_top ez24 ?_
            refine lv_iload_n hE.1 hE.2.1 dX7_reason_91 rfl (lv_at hl 1 rfl) ?_
            refine lv_ishr hE.1 hE.2.1 dX7_reason_92 ?_
            obtain ⟨z25, hz25, ez25⟩ := iI_of (iI (z24) >>> (iI (z_1) &&& 31))
            refine x_top ez25 ?_
            refine lv_iconst (v := iI (1)) hE.1 hE.2.1 dX7_reason_93 (by decide) ?_
            refine lv_iand hE.1 hE.2.1 dX7_reason_94 ?_
            obtain ⟨z26, hz26, ez26⟩ := iI_and (iI (z25)) (iI (1)) 1 (by decide)
            refine x_top ez26 ?_
            refine s_if_eq (a := z26) (tgt := 103) hE.1 hE.2.1 (by omega) dX7_reason_95 (by decide) (fun c27 => ?_) (fun c27 => ?_)
            · skip
              refine lv_iconst (v := iI (0)) hE.1 hE.2.1 dX7_reason_103 (by decide) ?_
              exact kr _ _ _ rfl ⟨0, by omega, rfl⟩ dX7_reason_104
            · skip
              refine lv_bipush (v := iI (6)) hE.1 hE.2.1 dX7_reason_98 (by decide) ?_
              refine lv_goto (tgt := 104) hE.1 hE.2.1 dX7_reason_100 (by decide) ?_
              exact kr _ _ _ rfl ⟨6, by omega, rfl⟩ dX7_reason_104
          · skip
            refine lv_iconst (v := iI (5)) hE.1 hE.2.1 dX7_reason_77 (by decide) ?_
            exact kr _ _ _ rfl ⟨5, by omega, rfl⟩ dX7_reason_78
        · skip
          refine lv_aload_n hE.1 hE.2.1 dX7_reason_53 rfl (lv_at hl 0 rfl) ?_
          obtain ⟨z28, hz28, ez28⟩ := XI_get hI 31 2 0 18 (by decide)
          refine x_get (x := .int (v 31 2)) hE hK hP 31 (Nat.lt_of_lt_of_le (by decide) hNN) (xG_7 rfl) rfl hin7 2 (by decide) mw_301 rfl dX7_reason_54 ?_
          refine x_top (y := iI (z28)) ez28 ?_
          refine lv_iconst (v := iI (1)) hE.1 hE.2.1 dX7_reason_57 (by decide) ?_
          refine lv_iand hE.1 hE.2.1 dX7_reason_58 ?_
          obtain ⟨z29, hz29, ez29⟩ := iI_and (iI (z28)) (iI (1)) 1 (by decide)
          refine x_top ez29 ?_
          refine s_if_ne (a := z29) (tgt := 64) hE.1 hE.2.1 (by omega) dX7_reason_59 (by decide) (fun c30 => ?_) (fun c30 => ?_)
          · skip
            refine lv_aload_n hE.1 hE.2.1 dX7_reason_64 rfl (lv_at hl 0 rfl) ?_
            refine x_vp (nn := 0) (As := []) (rest := []) hE (s_X7_pressing_31 l D K ad mm N hNN v ar al hI  ) wPre_blind (wPre_now hK hN hP) (x_recv hK hP 31 (Nat.lt_of_lt_of_le (by decide) hNN) (xG_7 rfl) rfl) rfl mw_750 mw_752 mw_17 mw_117 mw_753 (by decide +kernel) ⟨by decide, by decide⟩ hl.1 rfl (Nat.le_of_ble_eq_true rfl) ⟨Nat.zero_le _, Nat.zero_le _⟩ dX7_reason_65 (fun r31 hr31 => ?_)
            obtain ⟨z31, hz31, rfl⟩ := hr31
            refine lv_iconst (v := iI (1)) hE.1 hE.2.1 dX7_reason_68 (by decide) ?_
            refine lv_iload_n hE.1 hE.2.1 dX7_reason_69 rfl (lv_at hl 1 rfl) ?_
            refine lv_ishl hE.1 hE.2.1 dX7_reason_70 ?_
            obtain ⟨z32, hz32, ez32⟩ := iI_of (iI (1) <<< (iI (z_1) &&& 31))
            refine x_top ez32 ?_
            refine lv_iconst (v := iI (-1)) hE.1 hE.2.1 dX7_reason_71 (by decide) ?_
            refine lv_ixor hE.1 hE.2.1 dX7_reason_72 ?_
            obtain ⟨z33, hz33, ez33⟩ := iI_of (iI (z32) ^^^ iI (-1))
            refine x_top ez33 ?_
            refine lv_iand hE.1 hE.2.1 dX7_reason_73 ?_
            obtain ⟨z34, hz34, ez34⟩ := iI_of (iI (z31) &&& iI (z33))
            refine x_top ez34 ?_
            refine s_if_eq (a := z34) (tgt := 79) hE.1 hE.2.1 (by omega) dX7_reason_74 (by decide) (fun c35 => ?_) (fun c35 => ?_)
            · skip
              refine lv_aload_n hE.1 hE.2.1 dX7_reason_79 rfl (lv_at hl 0 rfl) ?_
              refine x_get (x := .ref (ad 3)) hE hK hP 31 (Nat.lt_of_lt_of_le (by decide) hNN) (xG_7 rfl) rfl hin7 6 (by decide) mw_315 rfl dX7_reason_80 ?_
              refine x_get (x := .ref (ad 10)) hE hK hP 3 (Nat.lt_of_lt_of_le (by decide) hNN) (xG_1 rfl) rfl hin1 17 (by decide) mw_240 rfl dX7_reason_83 ?_
              refine lv_aload_n hE.1 hE.2.1 dX7_reason_86 rfl (lv_at hl 0 rfl) ?_
              refine x_vp (nn := 0) (As := []) (rest := [.ref (ad 10)]) hE (s_X7_teller_31 l D K ad mm N hNN v ar al hI  ) wPre_blind (wPre_now hK hN hP) (x_recv hK hP 31 (Nat.lt_of_lt_of_le (by decide) hNN) (xG_7 rfl) rfl) rfl mw_758 mw_759 mw_760 mw_117 mw_761 (by decide +kernel) ⟨by decide, by decide⟩ hl.1 rfl (Nat.le_of_ble_eq_true rfl) ⟨Nat.zero_le _, Nat.zero_le _⟩ dX7_reason_87 (fun r36 hr36 => ?_)
              obtain ⟨z36, hz36, rfl⟩ := hr36
              refine x_iald (j := iI (z36)) hE hK hP 10 (Nat.lt_of_lt_of_le (by decide) hNN) (xG_10 rfl) (iI_in (n := 3) (by omega)) dX7_reason_90 ?_
              obtain ⟨z38, hz38, ez38⟩ := iI_of (ar 10 (iI (z36)).toNatClampNeg)
              refine x_top ez38 ?_
              refine lv_iload_n hE.1 hE.2.1 dX7_reason_91 rfl (lv_at hl 1 rfl) ?_
              refine lv_ishr hE.1 hE.2.1 dX7_reason_92 ?_
              obtain ⟨z39, hz39, ez39⟩ := iI_of (iI (z38) >>> (iI (z_1) &&& 31))
              refine x_top ez39 ?_
              refine lv_iconst (v := iI (1)) hE.1 hE.2.1 dX7_reason_93 (by decide) ?_
              refine lv_iand hE.1 hE.2.1 dX7_reason_94 ?_
              obtain ⟨z40, hz40, ez40⟩ := iI_and (iI (z39)) (iI (1)) 1 (by decide)
              refine x_top ez40 ?_
              refine s_if_eq (a := z40) (tgt := 103) hE.1 hE.2.1 (by omega) dX7_reason_95 (by decide) (fun c41 => ?_) (fun c41 => ?_)
              · skip
                refine lv_iconst (v := iI (0)) hE.1 hE.2.1 dX7_reason_103 (by decide) ?_
                exact kr _ _ _ rfl ⟨0, by omega, rfl⟩ dX7_reason_104
              · skip
                refine lv_bipush (v := iI (6)) hE.1 hE.2.1 dX7_reason_98 (by decide) ?_
                refine lv_goto (tgt := 104) hE.1 hE.2.1 dX7_reason_100 (by decide) ?_
                exact kr _ _ _ rfl ⟨6, by omega, rfl⟩ dX7_reason_104
            · skip
              refine lv_iconst (v := iI (5)) hE.1 hE.2.1 dX7_reason_77 (by decide) ?_
              exact kr _ _ _ rfl ⟨5, by omega, rfl⟩ dX7_reason_78
          · skip
            refine lv_iconst (v := iI (4)) hE.1 hE.2.1 dX7_reason_62 (by decide) ?_
            exact kr _ _ _ rfl ⟨4, by omega, rfl⟩ dX7_reason_63
      · skip
        refine lv_iconst (v := iI (3)) hE.1 hE.2.1 dX7_reason_37 (by decide) ?_
        exact kr _ _ _ rfl ⟨3, by omega, rfl⟩ dX7_reason_38
    · skip
      refine lv_iconst (v := iI (2)) hE.1 hE.2.1 dX7_reason_24 (by decide) ?_
      exact kr _ _ _ rfl ⟨2, by omega, rfl⟩ dX7_reason_25
  · skip
    refine lv_iconst (v := iI (1)) hE.1 hE.2.1 dX7_reason_11 (by decide) ?_
    exact kr _ _ _ rfl ⟨1, by omega, rfl⟩ dX7_reason_12

set_option maxHeartbeats 4000000 in
set_option maxRecDepth 100000 in
theorem s_X7_hasRoom_31 (l : Launch) (D : va_G) (K : Nat → ClassId) (ad : Nat → Nat) (mm : Option Nat) (N : Nat) (hNN : 132 ≤ N) (v ar : sI) (al : sL) (hI : XI v) (w_1 : Int) (hw_1 : 0 ≤ w_1 ∧ w_1 ≤ 18) (ew_1 : v 31 2 = iI w_1) : Met l yX7_hasRoom (wM yX7_hasRoom cX7_hasRoom 1 (some .boolean)) (rmD 0) (va_Pc [.ref (ad 31)] (wPre D K ad (xG ad K mm) N v ar al)) (vp_Si (fun r => ∃ z : Int, (z = 0 ∨ (z = 1 ∧ 0 ≤ w_1 ∧ w_1 ≤ 17)) ∧ r = iI z)) 0 0 (fun _ => False) := by
  refine s_metP (by decide) (Nat.le_of_ble_eq_true rfl) ?_
  intro p e s m below meth c ls args Q hE hB hl kr
  have hE : CallFix p m c cX7_hasRoom 1 s args tbG "TaleCourt$Telling" := hE
  obtain ⟨hP, hK, hN⟩ := hB
  have hl : lv_has ls 1 [(0, .ref (ad 31))] := hl
  refine lv_aload_n hE.1 hE.2.1 dX7_hasRoom_0 rfl (lv_at hl 0 rfl) ?_
  refine x_get (x := .int (v 31 2)) hE hK hP 31 (Nat.lt_of_lt_of_le (by decide) hNN) (xG_7 rfl) rfl hin7 2 (by decide) mw_301 rfl dX7_hasRoom_1 ?_
  refine x_top (y := iI (w_1)) ew_1 ?_
  refine s_if_lt (a := w_1) (tgt := 20) hE.1 hE.2.1 (by omega) dX7_hasRoom_4 (by decide) (fun c1 => False.elim (by omega)) (fun _ => ?_)
  refine lv_aload_n hE.1 hE.2.1 dX7_hasRoom_7 rfl (lv_at hl 0 rfl) ?_
  refine x_get (x := .int (v 31 2)) hE hK hP 31 (Nat.lt_of_lt_of_le (by decide) hNN) (xG_7 rfl) rfl hin7 2 (by decide) mw_301 rfl dX7_hasRoom_8 ?_
  refine x_top (y := iI (w_1)) ew_1 ?_
  refine lv_bipush (v := iI (18)) hE.1 hE.2.1 dX7_hasRoom_11 (by decide) ?_
  refine s_icmp_ge (a := w_1) (b := 18) (tgt := 20) hE.1 hE.2.1 (by omega) (by omega) dX7_hasRoom_13 (by decide) (fun c2 => ?_) (fun c2 => ?_)
  · skip
    refine lv_iconst (v := iI (0)) hE.1 hE.2.1 dX7_hasRoom_20 (by decide) ?_
    exact kr _ _ _ (nar01 (by omega)) ⟨0, by omega, rfl⟩ dX7_hasRoom_21
  · skip
    refine lv_iconst (v := iI (1)) hE.1 hE.2.1 dX7_hasRoom_16 (by decide) ?_
    refine lv_goto (tgt := 21) hE.1 hE.2.1 dX7_hasRoom_17 (by decide) ?_
    exact kr _ _ _ (nar01 (by omega)) ⟨1, by omega, rfl⟩ dX7_hasRoom_21

set_option maxHeartbeats 4000000 in
set_option maxRecDepth 100000 in
theorem s_X7_remember_31 (l : Launch) (D : va_G) (K : Nat → ClassId) (ad : Nat → Nat) (mm : Option Nat) (N : Nat) (hNN : 132 ≤ N) (v ar : sI) (al : sL) (hI : XI v) (w_1 : Int) (hw_1 : 0 ≤ w_1 ∧ w_1 ≤ 17) (ew_1 : v 31 2 = iI w_1) (z_1 : Int) (hz_1 : -2147483648 ≤ z_1 ∧ z_1 ≤ 2147483647) : Met l yX7_remember (wM yX7_remember cX7_remember 2 none) (rmD 0) (va_Pc [.ref (ad 31), .int (iI (z_1))] (wPre D K ad (xG ad K mm) N v ar al)) (va_Qv (fun u : sT => XI u.1 ∧ (∀ i j : Nat, (i, j) ∉ ([] : List (Nat × Nat)) → u.1 i j = v i j)) (wB D ad (xG ad K mm) N) (inW ad N)) 0 0 (inW ad N) := by
  refine s_metV (by decide) (Nat.le_of_ble_eq_true rfl) ?_
  intro p e s m below meth c ls args Q hE hB hl kr
  have hE : CallFix p m c cX7_remember 2 s args tbG "TaleCourt$Telling" := hE
  obtain ⟨hP, hK, hN⟩ := hB
  have hS : va_S (inW ad N) s.heap s.heap [] := va_S.rf
  have hl : lv_has ls 2 [(0, .ref (ad 31)), (1, .int (iI (z_1)))] := hl
  refine lv_aload_n hE.1 hE.2.1 dX7_remember_0 rfl (lv_at hl 0 rfl) ?_
  refine x_get (x := .ref (ad 32)) hE hK hP 31 (Nat.lt_of_lt_of_le (by decide) hNN) (xG_7 rfl) rfl hin7 0 (by decide) mw_295 rfl dX7_remember_1 ?_
  refine lv_aload_n hE.1 hE.2.1 dX7_remember_4 rfl (lv_at hl 0 rfl) ?_
  refine x_get (x := .int (v 31 2)) hE hK hP 31 (Nat.lt_of_lt_of_le (by decide) hNN) (xG_7 rfl) rfl hin7 2 (by decide) mw_301 rfl dX7_remember_5 ?_
  refine x_top (y := iI (w_1)) ew_1 ?_
  refine lv_iload_n hE.1 hE.2.1 dX7_remember_8 rfl (lv_at hl 1 rfl) ?_
  refine x_iast (j := iI (w_1)) hE hK hN hP hS 32 (Nat.lt_of_lt_of_le (by decide) hNN) (fun _ => xG_10 rfl) (iI_in (n := 18) (by omega)) dX7_remember_9 (fun ar1 H locs ha1 hP hS => ?_)
  refine lv_aload_n hE.1 hE.2.1 dX7_remember_10 rfl (lv_at hl 0 rfl) ?_
  refine x_get (x := .ref (ad 35)) hE hK hP 31 (Nat.lt_of_lt_of_le (by decide) hNN) (xG_7 rfl) rfl hin7 10 (by decide) mw_319 rfl dX7_remember_11 ?_
  refine lv_aload_n hE.1 hE.2.1 dX7_remember_14 rfl (lv_at hl 0 rfl) ?_
  refine x_get (x := .int (v 31 2)) hE hK hP 31 (Nat.lt_of_lt_of_le (by decide) hNN) (xG_7 rfl) rfl hin7 2 (by decide) mw_301 rfl dX7_remember_15 ?_
  refine x_top (y := iI (w_1)) ew_1 ?_
  refine lv_aload_n hE.1 hE.2.1 dX7_remember_18 rfl (lv_at hl 0 rfl) ?_
  obtain ⟨z2, hz2, ez2⟩ := iI_of (v 31 4)
  refine x_get (x := .int (v 31 4)) hE hK hP 31 (Nat.lt_of_lt_of_le (by decide) hNN) (xG_7 rfl) rfl hin7 4 (by decide) mw_309 rfl dX7_remember_19 ?_
  refine x_top (y := iI (z2)) ez2 ?_
  refine x_iast (j := iI (w_1)) hE hK hN hP hS 35 (Nat.lt_of_lt_of_le (by decide) hNN) (fun _ => xG_10 rfl) (iI_in (n := 18) (by omega)) dX7_remember_22 (fun ar3 H locs ha3 hP hS => ?_)
  refine lv_aload_n hE.1 hE.2.1 dX7_remember_23 rfl (lv_at hl 0 rfl) ?_
  refine x_get (x := .ref (ad 36)) hE hK hP 31 (Nat.lt_of_lt_of_le (by decide) hNN) (xG_7 rfl) rfl hin7 11 (by decide) mw_320 rfl dX7_remember_24 ?_
  refine lv_aload_n hE.1 hE.2.1 dX7_remember_27 rfl (lv_at hl 0 rfl) ?_
  refine x_get (x := .int (v 31 2)) hE hK hP 31 (Nat.lt_of_lt_of_le (by decide) hNN) (xG_7 rfl) rfl hin7 2 (by decide) mw_301 rfl dX7_remember_28 ?_
  refine x_top (y := iI (w_1)) ew_1 ?_
  refine lv_aload_n hE.1 hE.2.1 dX7_remember_31 rfl (lv_at hl 0 rfl) ?_
  obtain ⟨z4, hz4, ez4⟩ := iI_of (v 31 8)
  refine x_get (x := .int (v 31 8)) hE hK hP 31 (Nat.lt_of_lt_of_le (by decide) hNN) (xG_7 rfl) rfl hin7 8 (by decide) mw_317 rfl dX7_remember_32 ?_
  refine x_top (y := iI (z4)) ez4 ?_
  refine x_iast (j := iI (w_1)) hE hK hN hP hS 36 (Nat.lt_of_lt_of_le (by decide) hNN) (fun _ => xG_10 rfl) (iI_in (n := 18) (by omega)) dX7_remember_35 (fun ar5 H locs ha5 hP hS => ?_)
  refine lv_aload_n hE.1 hE.2.1 dX7_remember_36 rfl (lv_at hl 0 rfl) ?_
  refine x_get (x := .ref (ad 37)) hE hK hP 31 (Nat.lt_of_lt_of_le (by decide) hNN) (xG_7 rfl) rfl hin7 12 (by decide) mw_321 rfl dX7_remember_37 ?_
  refine lv_aload_n hE.1 hE.2.1 dX7_remember_40 rfl (lv_at hl 0 rfl) ?_
  refine x_get (x := .int (v 31 2)) hE hK hP 31 (Nat.lt_of_lt_of_le (by decide) hNN) (xG_7 rfl) rfl hin7 2 (by decide) mw_301 rfl dX7_remember_41 ?_
  refine x_top (y := iI (w_1)) ew_1 ?_
  refine lv_aload_n hE.1 hE.2.1 dX7_remember_44 rfl (lv_at hl 0 rfl) ?_
  obtain ⟨z6, hz6, ez6⟩ := iI_of (v 31 9)
  refine x_get (x := .int (v 31 9)) hE hK hP 31 (Nat.lt_of_lt_of_le (by decide) hNN) (xG_7 rfl) rfl hin7 9 (by decide) mw_318 rfl dX7_remember_45 ?_
  refine x_top (y := iI (z6)) ez6 ?_
  refine x_iast (j := iI (w_1)) hE hK hN hP hS 37 (Nat.lt_of_lt_of_le (by decide) hNN) (fun _ => xG_10 rfl) (iI_in (n := 18) (by omega)) dX7_remember_48 (fun ar7 H locs ha7 hP hS => ?_)
  exact kr _ _ _ _ _ _ _ ⟨hI, fun i j h => rfl⟩ hP hS dX7_remember_49

set_option maxHeartbeats 4000000 in
set_option maxRecDepth 100000 in
theorem s_X7_owe_31 (l : Launch) (D : va_G) (K : Nat → ClassId) (ad : Nat → Nat) (mm : Option Nat) (N : Nat) (hNN : 132 ≤ N) (v ar : sI) (al : sL) (hI : XI v) (w_1 : Int) (hw_1 : 0 ≤ w_1 ∧ w_1 ≤ 17) (ew_1 : v 31 2 = iI w_1) (z_1 : Int) (hz_1 : -2147483648 ≤ z_1 ∧ z_1 ≤ 2147483647) (z_2 : Int) (hz_2 : -2147483648 ≤ z_2 ∧ z_2 ≤ 2147483647) : Met l yX7_owe (wM yX7_owe cX7_owe 3 none) (rmD 0) (va_Pc [.ref (ad 31), .int (iI (z_1)), .int (iI (z_2))] (wPre D K ad (xG ad K mm) N v ar al)) (va_Qv (fun u : sT => XI u.1 ∧ (∀ i j : Nat, (i, j) ∉ ([(31, 9)] : List (Nat × Nat)) → u.1 i j = v i j)) (wB D ad (xG ad K mm) N) (inW ad N)) 0 0 (inW ad N) := by
  refine s_metV (by decide) (Nat.le_of_ble_eq_true rfl) ?_
  intro p e s m below meth c ls args Q hE hB hl kr
  have hE : CallFix p m c cX7_owe 3 s args tbG "TaleCourt$Telling" := hE
  obtain ⟨hP, hK, hN⟩ := hB
  have hS : va_S (inW ad N) s.heap s.heap [] := va_S.rf
  have hl : lv_has ls 3 [(0, .ref (ad 31)), (1, .int (iI (z_1))), (2, .int (iI (z_2)))] := hl
  refine lv_iload_n hE.1 hE.2.1 dX7_owe_0 rfl (lv_at hl 1 rfl) ?_
  refine s_if_lt (a := z_1) (tgt := 10) hE.1 hE.2.1 (by omega) dX7_owe_1 (by decide) (fun c1 => ?_) (fun c1 => ?_)
  · skip
    exact kr _ _ _ _ _ _ _ ⟨hI, fun i j h => rfl⟩ hP hS dX7_owe_10
  · skip
    refine lv_iload_n hE.1 hE.2.1 dX7_owe_4 rfl (lv_at hl 1 rfl) ?_
    refine lv_bipush (v := iI (9)) hE.1 hE.2.1 dX7_owe_5 (by decide) ?_
    refine s_icmp_lt (a := z_1) (b := 9) (tgt := 11) hE.1 hE.2.1 (by omega) (by omega) dX7_owe_7 (by decide) (fun c2 => ?_) (fun c2 => ?_)
    · skip
      refine lv_aload_n hE.1 hE.2.1 dX7_owe_11 rfl (lv_at hl 0 rfl) ?_
      refine x_get (x := .ref (ad 38)) hE hK hP 31 (Nat.lt_of_lt_of_le (by decide) hNN) (xG_7 rfl) rfl hin7 13 (by decide) mw_322 rfl dX7_owe_12 ?_
      refine lv_aload_n hE.1 hE.2.1 dX7_owe_15 rfl (lv_at hl 0 rfl) ?_
      refine x_get (x := .int (v 31 2)) hE hK hP 31 (Nat.lt_of_lt_of_le (by decide) hNN) (xG_7 rfl) rfl hin7 2 (by decide) mw_301 rfl dX7_owe_16 ?_
      refine x_top (y := iI (w_1)) ew_1 ?_
      refine lv_aload_n hE.1 hE.2.1 dX7_owe_19 rfl (lv_at hl 0 rfl) ?_
      refine x_get (x := .ref (ad 33)) hE hK hP 31 (Nat.lt_of_lt_of_le (by decide) hNN) (xG_7 rfl) rfl hin7 1 (by decide) mw_299 rfl dX7_owe_20 ?_
      refine lv_iload_n hE.1 hE.2.1 dX7_owe_23 rfl (lv_at hl 1 rfl) ?_
      refine x_iald (j := iI (z_1)) hE hK hP 33 (Nat.lt_of_lt_of_le (by decide) hNN) (xG_10 rfl) (iI_in (n := 9) (by omega)) dX7_owe_24 ?_
      obtain ⟨z4, hz4, ez4⟩ := iI_of (ar 33 (iI (z_1)).toNatClampNeg)
      refine x_top ez4 ?_
      refine x_iast (j := iI (w_1)) hE hK hN hP hS 38 (Nat.lt_of_lt_of_le (by decide) hNN) (fun _ => xG_10 rfl) (iI_in (n := 18) (by omega)) dX7_owe_25 (fun ar5 H locs ha5 hP hS => ?_)
      refine lv_aload_n hE.1 hE.2.1 dX7_owe_26 rfl (lv_at hl 0 rfl) ?_
      obtain ⟨z6, hz6, ez6⟩ := iI_of (v 31 9)
      refine x_get (x := .int (v 31 9)) hE hK hP 31 (Nat.lt_of_lt_of_le (by decide) hNN) (xG_7 rfl) rfl hin7 9 (by decide) mw_318 rfl dX7_owe_27 ?_
      refine x_top (y := iI (z6)) ez6 ?_
      refine lv_iload_n hE.1 hE.2.1 dX7_owe_30 rfl (lv_at hl 1 rfl) ?_
      refine lv_ishr hE.1 hE.2.1 dX7_owe_31 ?_
      obtain ⟨z7, hz7, ez7⟩ := iI_of (iI (z6) >>> (iI (z_1) &&& 31))
      refine x_top ez7 ?_
      refine lv_iconst (v := iI (1)) hE.1 hE.2.1 dX7_owe_32 (by decide) ?_
      refine lv_iand hE.1 hE.2.1 dX7_owe_33 ?_
      obtain ⟨z8, hz8, ez8⟩ := iI_and (iI (z7)) (iI (1)) 1 (by decide)
      refine x_top ez8 ?_
      refine s_if_eq (a := z8) (tgt := 47) hE.1 hE.2.1 (by omega) dX7_owe_34 (by decide) (fun c9 => ?_) (fun c9 => ?_)
      · skip
        refine lv_aload_n hE.1 hE.2.1 dX7_owe_47 rfl (lv_at hl 0 rfl) ?_
        refine x_get (x := .ref (ad 33)) hE hK hP 31 (Nat.lt_of_lt_of_le (by decide) hNN) (xG_7 rfl) rfl hin7 1 (by decide) mw_299 rfl dX7_owe_48 ?_
        refine lv_iload_n hE.1 hE.2.1 dX7_owe_51 rfl (lv_at hl 1 rfl) ?_
        refine lv_iload_n hE.1 hE.2.1 dX7_owe_52 rfl (lv_at hl 2 rfl) ?_
        refine x_iast (j := iI (z_1)) hE hK hN hP hS 33 (Nat.lt_of_lt_of_le (by decide) hNN) (fun _ => xG_10 rfl) (iI_in (n := 9) (by omega)) dX7_owe_53 (fun ar10 H locs ha10 hP hS => ?_)
        refine lv_aload_n hE.1 hE.2.1 dX7_owe_54 rfl (lv_at hl 0 rfl) ?_
        refine lv_dup hE.1 hE.2.1 dX7_owe_55 rfl ?_
        refine x_get (x := .int (v 31 9)) hE hK hP 31 (Nat.lt_of_lt_of_le (by decide) hNN) (xG_7 rfl) rfl hin7 9 (by decide) mw_318 rfl dX7_owe_56 ?_
        refine x_top (y := iI (z6)) ez6 ?_
        refine lv_iconst (v := iI (1)) hE.1 hE.2.1 dX7_owe_59 (by decide) ?_
        refine lv_iload_n hE.1 hE.2.1 dX7_owe_60 rfl (lv_at hl 1 rfl) ?_
        refine lv_ishl hE.1 hE.2.1 dX7_owe_61 ?_
        obtain ⟨z11, hz11, ez11⟩ := iI_shl1 (a := z_1) (by omega)
        refine x_top ez11 ?_
        refine lv_ior hE.1 hE.2.1 dX7_owe_62 ?_
        obtain ⟨z12, hz12, ez12⟩ := iI_of (iI (z6) ||| iI (z11))
        refine x_top ez12 ?_
        refine x_put (x := iI (z12)) hE hK hN hP hS 31 (Nat.lt_of_lt_of_le (by decide) hNN) (xG_7 rfl) rfl hin7 tyX7 tyX7_ok nmX7 9 (by decide) mw_318 rfl rfl rfl (Nat.le_of_ble_eq_true rfl) (xG_7 rfl) dX7_owe_63 (fun v13 H locs hv13 hP hS => ?_)
        have hI := XI_putN hI hv13 (by decide)
        exact kr _ _ _ _ _ _ _ ⟨hI, fun i j h => (up_oth hv13 (fun q => h (by rcases q with ⟨rfl, rfl⟩; decide)))⟩ hP hS dX7_owe_66
      · skip
        refine lv_iload_n hE.1 hE.2.1 dX7_owe_37 rfl (lv_at hl 2 rfl) ?_
        refine lv_aload_n hE.1 hE.2.1 dX7_owe_38 rfl (lv_at hl 0 rfl) ?_
        refine x_get (x := .ref (ad 33)) hE hK hP 31 (Nat.lt_of_lt_of_le (by decide) hNN) (xG_7 rfl) rfl hin7 1 (by decide) mw_299 rfl dX7_owe_39 ?_
        refine lv_iload_n hE.1 hE.2.1 dX7_owe_42 rfl (lv_at hl 1 rfl) ?_
        refine x_iald (j := iI (z_1)) hE hK hP 33 (Nat.lt_of_lt_of_le (by decide) hNN) (xG_10 rfl) (iI_in (n := 9) (by omega)) dX7_owe_43 ?_
        obtain ⟨z15, hz15, ez15⟩ := iI_of (ar5 33 (iI (z_1)).toNatClampNeg)
        refine x_top ez15 ?_
        refine s_icmp_ge (a := z_2) (b := z15) (tgt := 54) hE.1 hE.2.1 (by omega) (by omega) dX7_owe_44 (by decide) (fun c16 => ?_) (fun c16 => ?_)
        · skip
          refine lv_aload_n hE.1 hE.2.1 dX7_owe_54 rfl (lv_at hl 0 rfl) ?_
          refine lv_dup hE.1 hE.2.1 dX7_owe_55 rfl ?_
          refine x_get (x := .int (v 31 9)) hE hK hP 31 (Nat.lt_of_lt_of_le (by decide) hNN) (xG_7 rfl) rfl hin7 9 (by decide) mw_318 rfl dX7_owe_56 ?_
          refine x_top (y := iI (z6)) ez6 ?_
          refine lv_iconst (v := iI (1)) hE.1 hE.2.1 dX7_owe_59 (by decide) ?_
          refine lv_iload_n hE.1 hE.2.1 dX7_owe_60 rfl (lv_at hl 1 rfl) ?_
          refine lv_ishl hE.1 hE.2.1 dX7_owe_61 ?_
          obtain ⟨z17, hz17, ez17⟩ := iI_shl1 (a := z_1) (by omega)
          refine x_top ez17 ?_
          refine lv_ior hE.1 hE.2.1 dX7_owe_62 ?_
          obtain ⟨z18, hz18, ez18⟩ := iI_of (iI (z6) ||| iI (z17))
          refine x_top ez18 ?_
          refine x_put (x := iI (z18)) hE hK hN hP hS 31 (Nat.lt_of_lt_of_le (by decide) hNN) (xG_7 rfl) rfl hin7 tyX7 tyX7_ok nmX7 9 (by decide) mw_318 rfl rfl rfl (Nat.le_of_ble_eq_true rfl) (xG_7 rfl) dX7_owe_63 (fun v19 H locs hv19 hP hS => ?_)
          have hI := XI_putN hI hv19 (by decide)
          exact kr _ _ _ _ _ _ _ ⟨hI, fun i j h => (up_oth hv19 (fun q => h (by rcases q with ⟨rfl, rfl⟩; decide)))⟩ hP hS dX7_owe_66
        · skip
          refine lv_aload_n hE.1 hE.2.1 dX7_owe_47 rfl (lv_at hl 0 rfl) ?_
          refine x_get (x := .ref (ad 33)) hE hK hP 31 (Nat.lt_of_lt_of_le (by decide) hNN) (xG_7 rfl) rfl hin7 1 (by decide) mw_299 rfl dX7_owe_48 ?_
          refine lv_iload_n hE.1 hE.2.1 dX7_owe_51 rfl (lv_at hl 1 rfl) ?_
          refine lv_iload_n hE.1 hE.2.1 dX7_owe_52 rfl (lv_at hl 2 rfl) ?_
          refine x_iast (j := iI (z_1)) hE hK hN hP hS 33 (Nat.lt_of_lt_of_le (by decide) hNN) (fun _ => xG_10 rfl) (iI_in (n := 9) (by omega)) dX7_owe_53 (fun ar20 H locs ha20 hP hS => ?_)
          refine lv_aload_n hE.1 hE.2.1 dX7_owe_54 rfl (lv_at hl 0 rfl) ?_
          refine lv_dup hE.1 hE.2.1 dX7_owe_55 rfl ?_
          refine x_get (x := .int (v 31 9)) hE hK hP 31 (Nat.lt_of_lt_of_le (by decide) hNN) (xG_7 rfl) rfl hin7 9 (by decide) mw_318 rfl dX7_owe_56 ?_
          refine x_top (y := iI (z6)) ez6 ?_
          refine lv_iconst (v := iI (1)) hE.1 hE.2.1 dX7_owe_59 (by decide) ?_
          refine lv_iload_n hE.1 hE.2.1 dX7_owe_60 rfl (lv_at hl 1 rfl) ?_
          refine lv_ishl hE.1 hE.2.1 dX7_owe_61 ?_
          obtain ⟨z21, hz21, ez21⟩ := iI_shl1 (a := z_1) (by omega)
          refine x_top ez21 ?_
          refine lv_ior hE.1 hE.2.1 dX7_owe_62 ?_
          obtain ⟨z22, hz22, ez22⟩ := iI_of (iI (z6) ||| iI (z21))
          refine x_top ez22 ?_
          refine x_put (x := iI (z22)) hE hK hN hP hS 31 (Nat.lt_of_lt_of_le (by decide) hNN) (xG_7 rfl) rfl hin7 tyX7 tyX7_ok nmX7 9 (by decide) mw_318 rfl rfl rfl (Nat.le_of_ble_eq_true rfl) (xG_7 rfl) dX7_owe_63 (fun v23 H locs hv23 hP hS => ?_)
          have hI := XI_putN hI hv23 (by decide)
          exact kr _ _ _ _ _ _ _ ⟨hI, fun i j h => (up_oth hv23 (fun q => h (by rcases q with ⟨rfl, rfl⟩; decide)))⟩ hP hS dX7_owe_66
    · skip
      exact kr _ _ _ _ _ _ _ ⟨hI, fun i j h => rfl⟩ hP hS dX7_owe_10

set_option maxHeartbeats 4000000 in
set_option maxRecDepth 100000 in
theorem s_X7_tell_31 (l : Launch) (D : va_G) (K : Nat → ClassId) (ad : Nat → Nat) (mm : Option Nat) (N : Nat) (hNN : 132 ≤ N) (v ar : sI) (al : sL) (hI : XI v) (z_1 : Int) (hz_1 : -2147483648 ≤ z_1 ∧ z_1 ≤ 2147483647) : Met l yX7_tell (wM yX7_tell cX7_tell 2 none) (rmD 1) (va_Pc [.ref (ad 31), .int (iI (z_1))] (wPre D K ad (xG ad K mm) N v ar al)) (va_Qv (fun u : sT => XI u.1 ∧ (∀ i j : Nat, (i, j) ∉ ([(31, 2), (31, 3), (31, 4), (31, 5), (31, 8), (31, 9)] : List (Nat × Nat)) → u.1 i j = v i j)) (wB D ad (xG ad K mm) N) (inW ad N)) 0 0 (inW ad N) := by
  refine s_metV (by decide) (Nat.le_of_ble_eq_true rfl) ?_
  intro p e s m below meth c ls args Q hE hB hl kr
  have hE : CallFix p m c cX7_tell 2 s args tbG "TaleCourt$Telling" := hE
  obtain ⟨hP, hK, hN⟩ := hB
  have hS : va_S (inW ad N) s.heap s.heap [] := va_S.rf
  have hl : lv_has ls 2 [(0, .ref (ad 31)), (1, .int (iI (z_1)))] := hl
  refine lv_aload_n hE.1 hE.2.1 dX7_tell_0 rfl (lv_at hl 0 rfl) ?_
  obtain ⟨z1, hz1, ez1⟩ := XI_get hI 31 2 0 18 (by decide)
  refine x_vp (nn := 0) (As := []) (rest := []) hE (s_X7_hasRoom_31 l D K ad mm N hNN v ar al hI (z1) (by omega) ez1 ) wPre_blind (wPre_now hK hN hP) (x_recv hK hP 31 (Nat.lt_of_lt_of_le (by decide) hNN) (xG_7 rfl) rfl) rfl mw_766 mw_768 mw_18 mw_117 mw_769 (by decide +kernel) ⟨by decide, by decide⟩ hl.1 rfl (Nat.le_of_ble_eq_true rfl) ⟨Nat.zero_le _, Nat.zero_le _⟩ dX7_tell_1 (fun r2 hr2 => ?_)
  obtain ⟨z2, hz2, rfl⟩ := hr2
  refine s_if_eq (a := z2) (tgt := 18) hE.1 hE.2.1 (by omega) dX7_tell_4 (by decide) (fun c3 => ?_) (fun c3 => ?_)
  · skip
    exact kr _ _ _ _ _ _ _ ⟨hI, fun i j h => rfl⟩ hP hS dX7_tell_18
  · skip
    refine lv_aload_n hE.1 hE.2.1 dX7_tell_7 rfl (lv_at hl 0 rfl) ?_
    refine x_get (x := .ref (ad 3)) hE hK hP 31 (Nat.lt_of_lt_of_le (by decide) hNN) (xG_7 rfl) rfl hin7 6 (by decide) mw_315 rfl dX7_tell_8 ?_
    refine lv_iload_n hE.1 hE.2.1 dX7_tell_11 rfl (lv_at hl 1 rfl) ?_
    refine x_vp (nn := 1) (As := [.int (iI (z_1))]) (rest := []) hE (s_X1_hasMotif_3 l D K ad mm N hNN v ar al hI  (z_1) (by omega)) wPre_blind (wPre_now hK hN hP) (x_recv hK hP 3 (Nat.lt_of_lt_of_le (by decide) hNN) (xG_1 rfl) rfl) rfl mw_770 mw_695 mw_696 mw_116 mw_697 (by decide +kernel) ⟨by decide, by decide⟩ hl.1 rfl (Nat.le_of_ble_eq_true rfl) ⟨Nat.zero_le _, Nat.zero_le _⟩ dX7_tell_12 (fun r4 hr4 => ?_)
    obtain ⟨z4, hz4, rfl⟩ := hr4
    refine s_if_ne (a := z4) (tgt := 19) hE.1 hE.2.1 (by omega) dX7_tell_15 (by decide) (fun c5 => ?_) (fun c5 => ?_)
    · skip
      refine lv_aload_n hE.1 hE.2.1 dX7_tell_19 rfl (lv_at hl 0 rfl) ?_
      refine lv_iload_n hE.1 hE.2.1 dX7_tell_20 rfl (lv_at hl 1 rfl) ?_
      refine x_vv (nn := 1) (As := [.int (iI (z_1))]) (rest := []) hE hK hN hP hS (s_X7_remember_31 l D K ad mm N hNN v ar al hI (z1) (by omega) ez1 (z_1) (by omega)) (x_recv hK hP 31 (Nat.lt_of_lt_of_le (by decide) hNN) (xG_7 rfl) rfl) rfl mw_771 mw_773 mw_19 mw_117 mw_774 (by decide +kernel) ⟨by decide, by decide⟩ hl.1 rfl (Nat.le_of_ble_eq_true rfl) ⟨Nat.zero_le _, Nat.zero_le _⟩ dX7_tell_21 (fun v6 ar6 al6 H locs hq6 hP hS => ?_)
      obtain ⟨hI, hq6⟩ := hq6
      have hI : XI v6 := hI
      refine lv_aload_n hE.1 hE.2.1 dX7_tell_24 rfl (lv_at hl 0 rfl) ?_
      refine lv_dup hE.1 hE.2.1 dX7_tell_25 rfl ?_
      obtain ⟨z7, hz7, ez7⟩ := iI_of (v6 31 3)
      refine x_get (x := .int (v6 31 3)) hE hK hP 31 (Nat.lt_of_lt_of_le (by decide) hNN) (xG_7 rfl) rfl hin7 3 (by decide) mw_305 rfl dX7_tell_26 ?_
      refine x_top (y := iI (z7)) ez7 ?_
      refine lv_iconst (v := iI (1)) hE.1 hE.2.1 dX7_tell_29 (by decide) ?_
      refine lv_iload_n hE.1 hE.2.1 dX7_tell_30 rfl (lv_at hl 1 rfl) ?_
      refine lv_ishl hE.1 hE.2.1 dX7_tell_31 ?_
      obtain ⟨z8, hz8, ez8⟩ := iI_shl1 (a := z_1) (by omega)
      refine x_top ez8 ?_
      refine lv_ior hE.1 hE.2.1 dX7_tell_32 ?_
      obtain ⟨z9, hz9, ez9⟩ := iI_of (iI (z7) ||| iI (z8))
      refine x_top ez9 ?_
      refine x_put (x := iI (z9)) hE hK hN hP hS 31 (Nat.lt_of_lt_of_le (by decide) hNN) (xG_7 rfl) rfl hin7 tyX7 tyX7_ok nmX7 3 (by decide) mw_305 rfl rfl rfl (Nat.le_of_ble_eq_true rfl) (xG_7 rfl) dX7_tell_33 (fun v10 H locs hv10 hP hS => ?_)
      have hI := XI_putN hI hv10 (by decide)
      refine lv_aload_n hE.1 hE.2.1 dX7_tell_36 rfl (lv_at hl 0 rfl) ?_
      refine lv_iload_n hE.1 hE.2.1 dX7_tell_37 rfl (lv_at hl 1 rfl) ?_
      refine x_put (x := iI (z_1)) hE hK hN hP hS 31 (Nat.lt_of_lt_of_le (by decide) hNN) (xG_7 rfl) rfl hin7 tyX7 tyX7_ok nmX7 4 (by decide) mw_309 rfl rfl rfl (Nat.le_of_ble_eq_true rfl) (xG_7 rfl) dX7_tell_38 (fun v11 H locs hv11 hP hS => ?_)
      have hI := XI_putN hI hv11 (by decide)
      refine lv_aload_n hE.1 hE.2.1 dX7_tell_41 rfl (lv_at hl 0 rfl) ?_
      refine lv_dup hE.1 hE.2.1 dX7_tell_42 rfl ?_
      obtain ⟨z12, hz12, ez12⟩ := iI_of (v11 31 5)
      refine x_get (x := .int (v11 31 5)) hE hK hP 31 (Nat.lt_of_lt_of_le (by decide) hNN) (xG_7 rfl) rfl hin7 5 (by decide) mw_312 rfl dX7_tell_43 ?_
      refine x_top (y := iI (z12)) ez12 ?_
      refine lv_aload_n hE.1 hE.2.1 dX7_tell_46 rfl (lv_at hl 0 rfl) ?_
      refine x_get (x := .ref (ad 3)) hE hK hP 31 (Nat.lt_of_lt_of_le (by decide) hNN) (xG_7 rfl) rfl hin7 6 (by decide) mw_315 rfl dX7_tell_47 ?_
      refine lv_iload_n hE.1 hE.2.1 dX7_tell_50 rfl (lv_at hl 1 rfl) ?_
      refine x_vp (nn := 1) (As := [.int (iI (z_1))]) (rest := [.int (iI (z12)), .ref (ad 31)]) hE (s_X1_value_3 l D K ad mm N hNN v11 ar6 al6 hI  (z_1) (by omega)) wPre_blind (wPre_now hK hN hP) (x_recv hK hP 3 (Nat.lt_of_lt_of_le (by decide) hNN) (xG_1 rfl) rfl) rfl mw_775 mw_776 mw_777 mw_116 mw_778 (by decide +kernel) ⟨by decide, by decide⟩ hl.1 rfl (Nat.le_of_ble_eq_true rfl) ⟨Nat.zero_le _, Nat.zero_le _⟩ dX7_tell_51 (fun r13 hr13 => ?_)
      obtain ⟨z13, hz13, rfl⟩ := hr13
      refine lv_iadd hE.1 hE.2.1 dX7_tell_54 ?_
      obtain ⟨z14, hz14, ez14⟩ := iI_of (iI (z12) + iI (z13))
      refine x_top ez14 ?_
      refine x_put (x := iI (z14)) hE hK hN hP hS 31 (Nat.lt_of_lt_of_le (by decide) hNN) (xG_7 rfl) rfl hin7 tyX7 tyX7_ok nmX7 5 (by decide) mw_312 rfl rfl rfl (Nat.le_of_ble_eq_true rfl) (xG_7 rfl) dX7_tell_55 (fun v15 H locs hv15 hP hS => ?_)
      have hI := XI_putN hI hv15 (by decide)
      refine lv_aload_n hE.1 hE.2.1 dX7_tell_58 rfl (lv_at hl 0 rfl) ?_
      refine lv_dup hE.1 hE.2.1 dX7_tell_59 rfl ?_
      obtain ⟨z16, hz16, ez16⟩ := iI_of (v15 31 8)
      refine x_get (x := .int (v15 31 8)) hE hK hP 31 (Nat.lt_of_lt_of_le (by decide) hNN) (xG_7 rfl) rfl hin7 8 (by decide) mw_317 rfl dX7_tell_60 ?_
      refine x_top (y := iI (z16)) ez16 ?_
      refine lv_aload_n hE.1 hE.2.1 dX7_tell_63 rfl (lv_at hl 0 rfl) ?_
      refine x_get (x := .ref (ad 3)) hE hK hP 31 (Nat.lt_of_lt_of_le (by decide) hNN) (xG_7 rfl) rfl hin7 6 (by decide) mw_315 rfl dX7_tell_64 ?_
      refine x_get (x := .ref (ad 9)) hE hK hP 3 (Nat.lt_of_lt_of_le (by decide) hNN) (xG_1 rfl) rfl hin1 16 (by decide) mw_238 rfl dX7_tell_67 ?_
      refine lv_iload_n hE.1 hE.2.1 dX7_tell_70 rfl (lv_at hl 1 rfl) ?_
      refine x_iald (j := iI (z_1)) hE hK hP 9 (Nat.lt_of_lt_of_le (by decide) hNN) (xG_10 rfl) (iI_in (n := 9) (by omega)) dX7_tell_71 ?_
      obtain ⟨z18, hz18, ez18⟩ := iI_of (ar6 9 (iI (z_1)).toNatClampNeg)
      refine x_top ez18 ?_
      refine lv_ior hE.1 hE.2.1 dX7_tell_72 ?_
      obtain ⟨z19, hz19, ez19⟩ := iI_of (iI (z16) ||| iI (z18))
      refine x_top ez19 ?_
      refine x_put (x := iI (z19)) hE hK hN hP hS 31 (Nat.lt_of_lt_of_le (by decide) hNN) (xG_7 rfl) rfl hin7 tyX7 tyX7_ok nmX7 8 (by decide) mw_317 rfl rfl rfl (Nat.le_of_ble_eq_true rfl) (xG_7 rfl) dX7_tell_73 (fun v20 H locs hv20 hP hS => ?_)
      have hI := XI_putN hI hv20 (by decide)
      refine lv_aload_n hE.1 hE.2.1 dX7_tell_76 rfl (lv_at hl 0 rfl) ?_
      refine lv_aload_n hE.1 hE.2.1 dX7_tell_77 rfl (lv_at hl 0 rfl) ?_
      refine x_get (x := .ref (ad 3)) hE hK hP 31 (Nat.lt_of_lt_of_le (by decide) hNN) (xG_7 rfl) rfl hin7 6 (by decide) mw_315 rfl dX7_tell_78 ?_
      refine x_get (x := .ref (ad 5)) hE hK hP 3 (Nat.lt_of_lt_of_le (by decide) hNN) (xG_1 rfl) rfl hin1 12 (by decide) mw_224 rfl dX7_tell_81 ?_
      refine lv_iload_n hE.1 hE.2.1 dX7_tell_84 rfl (lv_at hl 1 rfl) ?_
      refine x_iald (j := iI (z_1)) hE hK hP 5 (Nat.lt_of_lt_of_le (by decide) hNN) (xG_10 rfl) (iI_in (n := 9) (by omega)) dX7_tell_85 ?_
      obtain ⟨z22, hz22, ez22⟩ := iI_of (ar6 5 (iI (z_1)).toNatClampNeg)
      refine x_top ez22 ?_
      refine lv_aload_n hE.1 hE.2.1 dX7_tell_86 rfl (lv_at hl 0 rfl) ?_
      refine x_get (x := .int (v20 31 2)) hE hK hP 31 (Nat.lt_of_lt_of_le (by decide) hNN) (xG_7 rfl) rfl hin7 2 (by decide) mw_301 rfl dX7_tell_87 ?_
      refine x_top (y := iI (z1)) ((up_oth hv20 (by decide)).trans ((up_oth hv15 (by decide)).trans ((up_oth hv11 (by decide)).trans ((up_oth hv10 (by decide)).trans ((hq6 31 2 (by decide)).trans ez1))))) ?_
      refine lv_aload_n hE.1 hE.2.1 dX7_tell_90 rfl (lv_at hl 0 rfl) ?_
      refine x_get (x := .ref (ad 3)) hE hK hP 31 (Nat.lt_of_lt_of_le (by decide) hNN) (xG_7 rfl) rfl hin7 6 (by decide) mw_315 rfl dX7_tell_91 ?_
      refine x_get (x := .ref (ad 6)) hE hK hP 3 (Nat.lt_of_lt_of_le (by decide) hNN) (xG_1 rfl) rfl hin1 13 (by decide) mw_228 rfl dX7_tell_94 ?_
      refine lv_iload_n hE.1 hE.2.1 dX7_tell_97 rfl (lv_at hl 1 rfl) ?_
      refine x_iald (j := iI (z_1)) hE hK hP 6 (Nat.lt_of_lt_of_le (by decide) hNN) (xG_10 rfl) (iI_in (n := 9) (by omega)) dX7_tell_98 ?_
      obtain ⟨z24, hz24, ez24⟩ := iI_of (ar6 6 (iI (z_1)).toNatClampNeg)
      refine x_top ez24 ?_
      refine lv_iadd hE.1 hE.2.1 dX7_tell_99 ?_
      obtain ⟨z25, hz25, ez25⟩ := iI_of (iI (z1) + iI (z24))
      refine x_top ez25 ?_
      refine x_vv (nn := 2) (As := [.int (iI (z22)), .int (iI (z25))]) (rest := []) hE hK hN hP hS (s_X7_owe_31 l D K ad mm N hNN v20 ar6 al6 hI (z1) (by omega) ((up_oth hv20 (by decide)).trans ((up_oth hv15 (by decide)).trans ((up_oth hv11 (by decide)).trans ((up_oth hv10 (by decide)).trans ((hq6 31 2 (by decide)).trans ez1))))) (z22) (by omega) (z25) (by omega)) (x_recv hK hP 31 (Nat.lt_of_lt_of_le (by decide) hNN) (xG_7 rfl) rfl) rfl mw_779 mw_781 mw_20 mw_117 mw_782 (by decide +kernel) ⟨by decide, by decide⟩ hl.1 rfl (Nat.le_of_ble_eq_true rfl) ⟨Nat.zero_le _, Nat.zero_le _⟩ dX7_tell_100 (fun v26 ar26 al26 H locs hq26 hP hS => ?_)
      obtain ⟨hI, hq26⟩ := hq26
      have hI : XI v26 := hI
      refine lv_aload_n hE.1 hE.2.1 dX7_tell_103 rfl (lv_at hl 0 rfl) ?_
      refine lv_dup hE.1 hE.2.1 dX7_tell_104 rfl ?_
      refine x_get (x := .int (v26 31 2)) hE hK hP 31 (Nat.lt_of_lt_of_le (by decide) hNN) (xG_7 rfl) rfl hin7 2 (by decide) mw_301 rfl dX7_tell_105 ?_
      refine x_top (y := iI (z1)) ((hq26 31 2 (by decide)).trans ((up_oth hv20 (by decide)).trans ((up_oth hv15 (by decide)).trans ((up_oth hv11 (by decide)).trans ((up_oth hv10 (by decide)).trans ((hq6 31 2 (by decide)).trans ez1)))))) ?_
      refine lv_iconst (v := iI (1)) hE.1 hE.2.1 dX7_tell_108 (by decide) ?_
      refine lv_iadd hE.1 hE.2.1 dX7_tell_109 ?_
      refine x_top (y := iI (z1 + 1)) ((iI_add (z1) (1)).trans (congrArg iI (by omega))) ?_
      refine x_put (x := iI (z1 + 1)) hE hK hN hP hS 31 (Nat.lt_of_lt_of_le (by decide) hNN) (xG_7 rfl) rfl hin7 tyX7 tyX7_ok nmX7 2 (by decide) mw_301 rfl rfl rfl (Nat.le_of_ble_eq_true rfl) (xG_7 rfl) dX7_tell_110 (fun v27 H locs hv27 hP hS => ?_)
      have hI := XI_putB (z := z1 + 1) hI hv27 0 18 (by omega) (by decide) (by omega)
      exact kr _ _ _ _ _ _ _ ⟨hI, fun i j h => ((up_oth hv27 (fun q => h (by rcases q with ⟨rfl, rfl⟩; decide))).trans ((hq26 i j (fun q => h (mem_sub (by decide) q))).trans ((up_oth hv20 (fun q => h (by rcases q with ⟨rfl, rfl⟩; decide))).trans ((up_oth hv15 (fun q => h (by rcases q with ⟨rfl, rfl⟩; decide))).trans ((up_oth hv11 (fun q => h (by rcases q with ⟨rfl, rfl⟩; decide))).trans ((up_oth hv10 (fun q => h (by rcases q with ⟨rfl, rfl⟩; decide))).trans (hq6 i j (fun q => h (mem_sub (by decide) q)))))))))⟩ hP hS dX7_tell_113
    · skip
      exact kr _ _ _ _ _ _ _ ⟨hI, fun i j h => rfl⟩ hP hS dX7_tell_18

set_option maxHeartbeats 4000000 in
set_option maxRecDepth 100000 in
theorem s_X7_silencesLeft_31 (l : Launch) (D : va_G) (K : Nat → ClassId) (ad : Nat → Nat) (mm : Option Nat) (N : Nat) (hNN : 132 ≤ N) (v ar : sI) (al : sL) (hI : XI v) (z_1 : Int) (hz_1 : -2147483648 ≤ z_1 ∧ z_1 ≤ 2147483647) : Met l yX7_silencesLeft (wM yX7_silencesLeft cX7_silencesLeft 2 (some .int)) (rmD 0) (va_Pc [.ref (ad 31), .int (iI (z_1))] (wPre D K ad (xG ad K mm) N v ar al)) (vp_Si (fun r => ∃ z : Int, (-2147483648 ≤ z ∧ z ≤ 2147483647) ∧ r = iI z)) 0 0 (fun _ => False) := by
  refine s_metP (by decide) (Nat.le_of_ble_eq_true rfl) ?_
  intro p e s m below meth c ls args Q hE hB hl kr
  have hE : CallFix p m c cX7_silencesLeft 2 s args tbG "TaleCourt$Telling" := hE
  obtain ⟨hP, hK, hN⟩ := hB
  have hl : lv_has ls 2 [(0, .ref (ad 31)), (1, .int (iI (z_1)))] := hl
  refine lv_iload_n hE.1 hE.2.1 dX7_silencesLeft_0 rfl (lv_at hl 1 rfl) ?_
  refine s_if_lt (a := z_1) (tgt := 26) hE.1 hE.2.1 (by omega) dX7_silencesLeft_1 (by decide) (fun c1 => ?_) (fun c1 => ?_)
  · skip
    refine lv_iconst (v := iI (0)) hE.1 hE.2.1 dX7_silencesLeft_26 (by decide) ?_
    exact kr _ _ _ rfl ⟨0, by omega, rfl⟩ dX7_silencesLeft_27
  · skip
    refine lv_iload_n hE.1 hE.2.1 dX7_silencesLeft_4 rfl (lv_at hl 1 rfl) ?_
    refine lv_iconst (v := iI (3)) hE.1 hE.2.1 dX7_silencesLeft_5 (by decide) ?_
    refine s_icmp_ge (a := z_1) (b := 3) (tgt := 26) hE.1 hE.2.1 (by omega) (by omega) dX7_silencesLeft_6 (by decide) (fun c2 => ?_) (fun c2 => ?_)
    · skip
      refine lv_iconst (v := iI (0)) hE.1 hE.2.1 dX7_silencesLeft_26 (by decide) ?_
      exact kr _ _ _ rfl ⟨0, by omega, rfl⟩ dX7_silencesLeft_27
    · skip
      refine lv_aload_n hE.1 hE.2.1 dX7_silencesLeft_9 rfl (lv_at hl 0 rfl) ?_
      refine x_get (x := .ref (ad 3)) hE hK hP 31 (Nat.lt_of_lt_of_le (by decide) hNN) (xG_7 rfl) rfl hin7 6 (by decide) mw_315 rfl dX7_silencesLeft_10 ?_
      obtain ⟨z3, hz3, ez3⟩ := iI_of (v 3 1)
      refine x_get (x := .int (v 3 1)) hE hK hP 3 (Nat.lt_of_lt_of_le (by decide) hNN) (xG_1 rfl) rfl hin1 1 (by decide) mw_183 rfl dX7_silencesLeft_13 ?_
      refine x_top (y := iI (z3)) ez3 ?_
      refine lv_aload_n hE.1 hE.2.1 dX7_silencesLeft_16 rfl (lv_at hl 0 rfl) ?_
      refine x_get (x := .ref (ad 34)) hE hK hP 31 (Nat.lt_of_lt_of_le (by decide) hNN) (xG_7 rfl) rfl hin7 7 (by decide) mw_316 rfl dX7_silencesLeft_17 ?_
      refine lv_iload_n hE.1 hE.2.1 dX7_silencesLeft_20 rfl (lv_at hl 1 rfl) ?_
      refine x_iald (j := iI (z_1)) hE hK hP 34 (Nat.lt_of_lt_of_le (by decide) hNN) (xG_10 rfl) (iI_in (n := 3) (by omega)) dX7_silencesLeft_21 ?_
      obtain ⟨z5, hz5, ez5⟩ := iI_of (ar 34 (iI (z_1)).toNatClampNeg)
      refine x_top ez5 ?_
      refine lv_isub hE.1 hE.2.1 dX7_silencesLeft_22 ?_
      obtain ⟨z6, hz6, ez6⟩ := iI_of (iI (z3) - iI (z5))
      refine x_top ez6 ?_
      refine lv_goto (tgt := 27) hE.1 hE.2.1 dX7_silencesLeft_23 (by decide) ?_
      exact kr _ _ _ rfl ⟨z6, by omega, rfl⟩ dX7_silencesLeft_27

set_option maxHeartbeats 4000000 in
set_option maxRecDepth 100000 in
theorem s_X7_hasSilence_31 (l : Launch) (D : va_G) (K : Nat → ClassId) (ad : Nat → Nat) (mm : Option Nat) (N : Nat) (hNN : 132 ≤ N) (v ar : sI) (al : sL) (hI : XI v) : Met l yX7_hasSilence (wM yX7_hasSilence cX7_hasSilence 1 (some .boolean)) (rmD 1) (va_Pc [.ref (ad 31)] (wPre D K ad (xG ad K mm) N v ar al)) (vp_Si (fun r => ∃ z : Int, (0 ≤ z ∧ z ≤ 1) ∧ r = iI z)) 0 0 (fun _ => False) := by
  refine s_metP (by decide) (Nat.le_of_ble_eq_true rfl) ?_
  intro p e s m below meth c ls args Q hE hB hl kr
  have hE : CallFix p m c cX7_hasSilence 1 s args tbG "TaleCourt$Telling" := hE
  obtain ⟨hP, hK, hN⟩ := hB
  have hl : lv_has ls 1 [(0, .ref (ad 31))] := hl
  refine lv_aload_n hE.1 hE.2.1 dX7_hasSilence_0 rfl (lv_at hl 0 rfl) ?_
  refine lv_aload_n hE.1 hE.2.1 dX7_hasSilence_1 rfl (lv_at hl 0 rfl) ?_
  refine x_vp (nn := 0) (As := []) (rest := [.ref (ad 31)]) hE (s_X7_teller_31 l D K ad mm N hNN v ar al hI  ) wPre_blind (wPre_now hK hN hP) (x_recv hK hP 31 (Nat.lt_of_lt_of_le (by decide) hNN) (xG_7 rfl) rfl) rfl mw_758 mw_759 mw_760 mw_117 mw_761 (by decide +kernel) ⟨by decide, by decide⟩ hl.1 rfl (Nat.le_of_ble_eq_true rfl) ⟨Nat.zero_le _, Nat.zero_le _⟩ dX7_hasSilence_2 (fun r1 hr1 => ?_)
  obtain ⟨z1, hz1, rfl⟩ := hr1
  refine x_vp (nn := 1) (As := [.int (iI (z1))]) (rest := []) hE (s_X7_silencesLeft_31 l D K ad mm N hNN v ar al hI  (z1) (by omega)) wPre_blind (wPre_now hK hN hP) (x_recv hK hP 31 (Nat.lt_of_lt_of_le (by decide) hNN) (xG_7 rfl) rfl) rfl mw_800 mw_801 mw_802 mw_117 mw_803 (by decide +kernel) ⟨by decide, by decide⟩ hl.1 rfl (Nat.le_of_ble_eq_true rfl) ⟨Nat.zero_le _, Nat.zero_le _⟩ dX7_hasSilence_5 (fun r2 hr2 => ?_)
  obtain ⟨z2, hz2, rfl⟩ := hr2
  refine s_if_le (a := z2) (tgt := 15) hE.1 hE.2.1 (by omega) dX7_hasSilence_8 (by decide) (fun c3 => ?_) (fun c3 => ?_)
  · skip
    refine lv_iconst (v := iI (0)) hE.1 hE.2.1 dX7_hasSilence_15 (by decide) ?_
    exact kr _ _ _ (nar01 (by omega)) ⟨0, by omega, rfl⟩ dX7_hasSilence_16
  · skip
    refine lv_iconst (v := iI (1)) hE.1 hE.2.1 dX7_hasSilence_11 (by decide) ?_
    refine lv_goto (tgt := 16) hE.1 hE.2.1 dX7_hasSilence_12 (by decide) ?_
    exact kr _ _ _ (nar01 (by omega)) ⟨1, by omega, rfl⟩ dX7_hasSilence_16

set_option maxHeartbeats 4000000 in
set_option maxRecDepth 100000 in
theorem s_X7_mayBeSilent_31 (l : Launch) (D : va_G) (K : Nat → ClassId) (ad : Nat → Nat) (mm : Option Nat) (N : Nat) (hNN : 132 ≤ N) (v ar : sI) (al : sL) (hI : XI v) : Met l yX7_mayBeSilent (wM yX7_mayBeSilent cX7_mayBeSilent 1 (some .boolean)) (rmD 2) (va_Pc [.ref (ad 31)] (wPre D K ad (xG ad K mm) N v ar al)) (vp_Si (fun r => ∃ z : Int, (0 ≤ z ∧ z ≤ 1) ∧ r = iI z)) 0 0 (fun _ => False) := by
  refine s_metP (by decide) (Nat.le_of_ble_eq_true rfl) ?_
  intro p e s m below meth c ls args Q hE hB hl kr
  have hE : CallFix p m c cX7_mayBeSilent 1 s args tbG "TaleCourt$Telling" := hE
  obtain ⟨hP, hK, hN⟩ := hB
  have hl : lv_has ls 1 [(0, .ref (ad 31))] := hl
  refine lv_aload_n hE.1 hE.2.1 dX7_mayBeSilent_0 rfl (lv_at hl 0 rfl) ?_
  refine x_vp (nn := 0) (As := []) (rest := []) hE (s_X7_hasSilence_31 l D K ad mm N hNN v ar al hI  ) wPre_blind (wPre_now hK hN hP) (x_recv hK hP 31 (Nat.lt_of_lt_of_le (by decide) hNN) (xG_7 rfl) rfl) rfl mw_796 mw_797 mw_798 mw_117 mw_799 (by decide +kernel) ⟨by decide, by decide⟩ hl.1 rfl (Nat.le_of_ble_eq_true rfl) ⟨Nat.zero_le _, Nat.zero_le _⟩ dX7_mayBeSilent_1 (fun r1 hr1 => ?_)
  obtain ⟨z1, hz1, rfl⟩ := hr1
  refine s_if_eq (a := z1) (tgt := 18) hE.1 hE.2.1 (by omega) dX7_mayBeSilent_4 (by decide) (fun c2 => ?_) (fun c2 => ?_)
  · skip
    refine lv_iconst (v := iI (0)) hE.1 hE.2.1 dX7_mayBeSilent_18 (by decide) ?_
    exact kr _ _ _ (nar01 (by omega)) ⟨0, by omega, rfl⟩ dX7_mayBeSilent_19
  · skip
    refine lv_aload_n hE.1 hE.2.1 dX7_mayBeSilent_7 rfl (lv_at hl 0 rfl) ?_
    refine x_vp (nn := 0) (As := []) (rest := []) hE (s_X7_pressing_31 l D K ad mm N hNN v ar al hI  ) wPre_blind (wPre_now hK hN hP) (x_recv hK hP 31 (Nat.lt_of_lt_of_le (by decide) hNN) (xG_7 rfl) rfl) rfl mw_750 mw_752 mw_17 mw_117 mw_753 (by decide +kernel) ⟨by decide, by decide⟩ hl.1 rfl (Nat.le_of_ble_eq_true rfl) ⟨Nat.zero_le _, Nat.zero_le _⟩ dX7_mayBeSilent_8 (fun r3 hr3 => ?_)
    obtain ⟨z3, hz3, rfl⟩ := hr3
    refine s_if_ne (a := z3) (tgt := 18) hE.1 hE.2.1 (by omega) dX7_mayBeSilent_11 (by decide) (fun c4 => ?_) (fun c4 => ?_)
    · skip
      refine lv_iconst (v := iI (0)) hE.1 hE.2.1 dX7_mayBeSilent_18 (by decide) ?_
      exact kr _ _ _ (nar01 (by omega)) ⟨0, by omega, rfl⟩ dX7_mayBeSilent_19
    · skip
      refine lv_iconst (v := iI (1)) hE.1 hE.2.1 dX7_mayBeSilent_14 (by decide) ?_
      refine lv_goto (tgt := 19) hE.1 hE.2.1 dX7_mayBeSilent_15 (by decide) ?_
      exact kr _ _ _ (nar01 (by omega)) ⟨1, by omega, rfl⟩ dX7_mayBeSilent_19

set_option maxHeartbeats 4000000 in
set_option maxRecDepth 100000 in
theorem s_X7_pass_31 (l : Launch) (D : va_G) (K : Nat → ClassId) (ad : Nat → Nat) (mm : Option Nat) (N : Nat) (hNN : 132 ≤ N) (v ar : sI) (al : sL) (hI : XI v) : Met l yX7_pass (wM yX7_pass cX7_pass 1 none) (rmD 1) (va_Pc [.ref (ad 31)] (wPre D K ad (xG ad K mm) N v ar al)) (va_Qv (fun u : sT => XI u.1 ∧ (∀ i j : Nat, (i, j) ∉ ([(31, 2)] : List (Nat × Nat)) → u.1 i j = v i j)) (wB D ad (xG ad K mm) N) (inW ad N)) 0 0 (inW ad N) := by
  refine s_metV (by decide) (Nat.le_of_ble_eq_true rfl) ?_
  intro p e s m below meth c ls args Q hE hB hl kr
  have hE : CallFix p m c cX7_pass 1 s args tbG "TaleCourt$Telling" := hE
  obtain ⟨hP, hK, hN⟩ := hB
  have hS : va_S (inW ad N) s.heap s.heap [] := va_S.rf
  have hl : lv_has ls 1 [(0, .ref (ad 31))] := hl
  refine lv_aload_n hE.1 hE.2.1 dX7_pass_0 rfl (lv_at hl 0 rfl) ?_
  obtain ⟨z1, hz1, ez1⟩ := XI_get hI 31 2 0 18 (by decide)
  refine x_vp (nn := 0) (As := []) (rest := []) hE (s_X7_hasRoom_31 l D K ad mm N hNN v ar al hI (z1) (by omega) ez1 ) wPre_blind (wPre_now hK hN hP) (x_recv hK hP 31 (Nat.lt_of_lt_of_le (by decide) hNN) (xG_7 rfl) rfl) rfl mw_766 mw_768 mw_18 mw_117 mw_769 (by decide +kernel) ⟨by decide, by decide⟩ hl.1 rfl (Nat.le_of_ble_eq_true rfl) ⟨Nat.zero_le _, Nat.zero_le _⟩ dX7_pass_1 (fun r2 hr2 => ?_)
  obtain ⟨z2, hz2, rfl⟩ := hr2
  refine s_if_ne (a := z2) (tgt := 8) hE.1 hE.2.1 (by omega) dX7_pass_4 (by decide) (fun c3 => ?_) (fun c3 => ?_)
  · skip
    refine lv_aload_n hE.1 hE.2.1 dX7_pass_8 rfl (lv_at hl 0 rfl) ?_
    refine lv_bipush (v := iI (9)) hE.1 hE.2.1 dX7_pass_9 (by decide) ?_
    refine x_vv (nn := 1) (As := [.int (iI (9))]) (rest := []) hE hK hN hP hS (s_X7_remember_31 l D K ad mm N hNN v ar al hI (z1) (by omega) ez1 (9) (by omega)) (x_recv hK hP 31 (Nat.lt_of_lt_of_le (by decide) hNN) (xG_7 rfl) rfl) rfl mw_771 mw_773 mw_19 mw_117 mw_774 (by decide +kernel) ⟨by decide, by decide⟩ hl.1 rfl (Nat.le_of_ble_eq_true rfl) ⟨Nat.zero_le _, Nat.zero_le _⟩ dX7_pass_11 (fun v4 ar4 al4 H locs hq4 hP hS => ?_)
    obtain ⟨hI, hq4⟩ := hq4
    have hI : XI v4 := hI
    refine lv_aload_n hE.1 hE.2.1 dX7_pass_14 rfl (lv_at hl 0 rfl) ?_
    refine x_get (x := .ref (ad 34)) hE hK hP 31 (Nat.lt_of_lt_of_le (by decide) hNN) (xG_7 rfl) rfl hin7 7 (by decide) mw_316 rfl dX7_pass_15 ?_
    refine lv_aload_n hE.1 hE.2.1 dX7_pass_18 rfl (lv_at hl 0 rfl) ?_
    refine x_vp (nn := 0) (As := []) (rest := [.ref (ad 34)]) hE (s_X7_teller_31 l D K ad mm N hNN v4 ar4 al4 hI  ) wPre_blind (wPre_now hK hN hP) (x_recv hK hP 31 (Nat.lt_of_lt_of_le (by decide) hNN) (xG_7 rfl) rfl) rfl mw_758 mw_759 mw_760 mw_117 mw_761 (by decide +kernel) ⟨by decide, by decide⟩ hl.1 rfl (Nat.le_of_ble_eq_true rfl) ⟨Nat.zero_le _, Nat.zero_le _⟩ dX7_pass_19 (fun r5 hr5 => ?_)
    obtain ⟨z5, hz5, rfl⟩ := hr5
    refine lv_dup2_11 hE.1 hE.2.1 dX7_pass_22 rfl rfl ?_
    refine x_iald (j := iI (z5)) hE hK hP 34 (Nat.lt_of_lt_of_le (by decide) hNN) (xG_10 rfl) (iI_in (n := 3) (by omega)) dX7_pass_23 ?_
    obtain ⟨z7, hz7, ez7⟩ := iI_of (ar4 34 (iI (z5)).toNatClampNeg)
    refine x_top ez7 ?_
    refine lv_iconst (v := iI (1)) hE.1 hE.2.1 dX7_pass_24 (by decide) ?_
    refine lv_iadd hE.1 hE.2.1 dX7_pass_25 ?_
    obtain ⟨z8, hz8, ez8⟩ := iI_of (iI (z7) + iI (1))
    refine x_top ez8 ?_
    refine x_iast (j := iI (z5)) hE hK hN hP hS 34 (Nat.lt_of_lt_of_le (by decide) hNN) (fun _ => xG_10 rfl) (iI_in (n := 3) (by omega)) dX7_pass_26 (fun ar9 H locs ha9 hP hS => ?_)
    refine lv_aload_n hE.1 hE.2.1 dX7_pass_27 rfl (lv_at hl 0 rfl) ?_
    refine lv_dup hE.1 hE.2.1 dX7_pass_28 rfl ?_
    refine x_get (x := .int (v4 31 2)) hE hK hP 31 (Nat.lt_of_lt_of_le (by decide) hNN) (xG_7 rfl) rfl hin7 2 (by decide) mw_301 rfl dX7_pass_29 ?_
    refine x_top (y := iI (z1)) ((hq4 31 2 (by decide)).trans ez1) ?_
    refine lv_iconst (v := iI (1)) hE.1 hE.2.1 dX7_pass_32 (by decide) ?_
    refine lv_iadd hE.1 hE.2.1 dX7_pass_33 ?_
    refine x_top (y := iI (z1 + 1)) ((iI_add (z1) (1)).trans (congrArg iI (by omega))) ?_
    refine x_put (x := iI (z1 + 1)) hE hK hN hP hS 31 (Nat.lt_of_lt_of_le (by decide) hNN) (xG_7 rfl) rfl hin7 tyX7 tyX7_ok nmX7 2 (by decide) mw_301 rfl rfl rfl (Nat.le_of_ble_eq_true rfl) (xG_7 rfl) dX7_pass_34 (fun v10 H locs hv10 hP hS => ?_)
    have hI := XI_putB (z := z1 + 1) hI hv10 0 18 (by omega) (by decide) (by omega)
    exact kr _ _ _ _ _ _ _ ⟨hI, fun i j h => ((up_oth hv10 (fun q => h (by rcases q with ⟨rfl, rfl⟩; decide))).trans (hq4 i j (fun q => h (mem_sub (by decide) q))))⟩ hP hS dX7_pass_37
  · skip
    exact kr _ _ _ _ _ _ _ ⟨hI, fun i j h => rfl⟩ hP hS dX7_pass_7

theorem dX8_retellTurn_0 : decode cX8_retellTurn 0 = .ok (.lload_n 1, 1) := by decide +kernel
theorem dX8_retellTurn_1 : decode cX8_retellTurn 1 = .ok (.ldc2_w 279, 3) := by decide +kernel
theorem dX8_retellTurn_4 : decode cX8_retellTurn 4 = .ok (.lcmp, 1) := by decide +kernel
theorem dX8_retellTurn_5 : decode cX8_retellTurn 5 = .ok (.ifCond .ne 25, 3) := by decide +kernel
theorem dX8_retellTurn_8 : decode cX8_retellTurn 8 = .ok (.aload_n 0, 1) := by decide +kernel
theorem dX8_retellTurn_9 : decode cX8_retellTurn 9 = .ok (.getfield 35, 3) := by decide +kernel
theorem dX8_retellTurn_12 : decode cX8_retellTurn 12 = .ok (.invokevirtual 161, 3) := by decide +kernel
theorem dX8_retellTurn_15 : decode cX8_retellTurn 15 = .ok (.ifCond .ne 6, 3) := by decide +kernel
theorem dX8_retellTurn_18 : decode cX8_retellTurn 18 = .ok (.bipush 9, 2) := by decide +kernel
theorem dX8_retellTurn_20 : decode cX8_retellTurn 20 = .ok (.ireturn, 1) := by decide +kernel
theorem dX8_retellTurn_21 : decode cX8_retellTurn 21 = .ok (.aload_n 0, 1) := by decide +kernel
theorem dX8_retellTurn_22 : decode cX8_retellTurn 22 = .ok (.getfield 35, 3) := by decide +kernel
theorem dX8_retellTurn_25 : decode cX8_retellTurn 25 = .ok (.invokevirtual 164, 3) := by decide +kernel
theorem dX8_retellTurn_28 : decode cX8_retellTurn 28 = .ok (.iconst 0, 1) := by decide +kernel
theorem dX8_retellTurn_29 : decode cX8_retellTurn 29 = .ok (.ireturn, 1) := by decide +kernel
theorem dX8_retellTurn_30 : decode cX8_retellTurn 30 = .ok (.aload_n 0, 1) := by decide +kernel
theorem dX8_retellTurn_31 : decode cX8_retellTurn 31 = .ok (.getfield 19, 3) := by decide +kernel
theorem dX8_retellTurn_34 : decode cX8_retellTurn 34 = .ok (.lload_n 1, 1) := by decide +kernel
theorem dX8_retellTurn_35 : decode cX8_retellTurn 35 = .ok (.invokevirtual 281, 3) := by decide +kernel
theorem dX8_retellTurn_38 : decode cX8_retellTurn 38 = .ok (.ifCond .ne 6, 3) := by decide +kernel
theorem dX8_retellTurn_41 : decode cX8_retellTurn 41 = .ok (.bipush 9, 2) := by decide +kernel
theorem dX8_retellTurn_43 : decode cX8_retellTurn 43 = .ok (.ireturn, 1) := by decide +kernel
theorem dX8_retellTurn_44 : decode cX8_retellTurn 44 = .ok (.lload_n 1, 1) := by decide +kernel
theorem dX8_retellTurn_45 : decode cX8_retellTurn 45 = .ok (.l2i, 1) := by decide +kernel
theorem dX8_retellTurn_46 : decode cX8_retellTurn 46 = .ok (.istore_n 3, 1) := by decide +kernel
theorem dX8_retellTurn_47 : decode cX8_retellTurn 47 = .ok (.aload_n 0, 1) := by decide +kernel
theorem dX8_retellTurn_48 : decode cX8_retellTurn 48 = .ok (.getfield 35, 3) := by decide +kernel
theorem dX8_retellTurn_51 : decode cX8_retellTurn 51 = .ok (.iload_n 3, 1) := by decide +kernel
theorem dX8_retellTurn_52 : decode cX8_retellTurn 52 = .ok (.invokevirtual 148, 3) := by decide +kernel
theorem dX8_retellTurn_55 : decode cX8_retellTurn 55 = .ok (.istore 4, 2) := by decide +kernel
theorem dX8_retellTurn_57 : decode cX8_retellTurn 57 = .ok (.iload 4, 2) := by decide +kernel
theorem dX8_retellTurn_59 : decode cX8_retellTurn 59 = .ok (.ifCond .ne 11, 3) := by decide +kernel
theorem dX8_retellTurn_62 : decode cX8_retellTurn 62 = .ok (.aload_n 0, 1) := by decide +kernel
theorem dX8_retellTurn_63 : decode cX8_retellTurn 63 = .ok (.getfield 35, 3) := by decide +kernel
theorem dX8_retellTurn_66 : decode cX8_retellTurn 66 = .ok (.iload_n 3, 1) := by decide +kernel
theorem dX8_retellTurn_67 : decode cX8_retellTurn 67 = .ok (.invokevirtual 151, 3) := by decide +kernel
theorem dX8_retellTurn_70 : decode cX8_retellTurn 70 = .ok (.iload 4, 2) := by decide +kernel
theorem dX8_retellTurn_72 : decode cX8_retellTurn 72 = .ok (.ireturn, 1) := by decide +kernel
set_option maxHeartbeats 4000000 in
set_option maxRecDepth 100000 in
theorem s_X8_retellTurn_0 (l : Launch) (D : va_G) (K : Nat → ClassId) (ad : Nat → Nat) (mm : Option Nat) (N : Nat) (hNN : 132 ≤ N) (v ar : sI) (al : sL) (hI : XI v) (z_1 : Int) (hz_1 : -9223372036854775808 ≤ z_1 ∧ z_1 ≤ 9223372036854775807) : Met l yX8_retellTurn (wM yX8_retellTurn cX8_retellTurn 5 (some .int)) (rmD 3) (va_Pc [.ref (ad 0), .long (lI (z_1))] (wPre D K ad (xG ad K mm) N v ar al)) (va_Qi (fun (r : Int32) (u : sT) => (∃ z : Int, (-2147483648 ≤ z ∧ z ≤ 2147483647) ∧ r = iI z) ∧ XI u.1 ∧ (∀ i j : Nat, (i, j) ∉ ([(31, 2), (31, 3), (31, 4), (31, 5), (31, 8), (31, 9)] : List (Nat × Nat)) → u.1 i j = v i j)) (wB D ad (xG ad K mm) N) (inW ad N)) 0 0 (inW ad N) := by
  refine s_metI (by decide) (Nat.le_of_ble_eq_true rfl) ?_
  intro p e s m below meth c ls args Q hE hB hl kr
  have hE : CallFix p m c cX8_retellTurn 5 s args tbG "TaleCourt" := hE
  obtain ⟨hP, hK, hN⟩ := hB
  have hS : va_S (inW ad N) s.heap s.heap [] := va_S.rf
  have hl : lv_has ls 5 [(0, .ref (ad 0)), (1, .long (lI (z_1)))] := hl
  refine lv_lload_n hE.1 hE.2.1 dX8_retellTurn_0 rfl (lv_at hl 1 rfl) ?_
  refine lv_ldc2 (v := 9) hE.1 hE.2.1 hE.2.2.2.1 (hE.2.2.2.2 _ mw_1145) dX8_retellTurn_1 ?_
  refine x_topl (y := lI (9)) (by decide) ?_
  refine W.lcmp hE.1 hE.2.1 dX8_retellTurn_4 ?_
  obtain ⟨z1, hz1, ez1⟩ := lcmp_of (a := z_1) (b := 9) (by omega) (by omega)
  refine x_top ez1 ?_
  refine s_if_ne (a := z1) (tgt := 30) hE.1 hE.2.1 (by omega) dX8_retellTurn_5 (by decide) (fun c2 => ?_) (fun c2 => ?_)
  · skip
    refine lv_aload_n hE.1 hE.2.1 dX8_retellTurn_30 rfl (lv_at hl 0 rfl) ?_
    refine x_get (x := .ref (ad 3)) hE hK hP 0 (Nat.lt_of_lt_of_le (by decide) hNN) (xG_8 rfl) rfl hin8 1 (by decide) mw_481 rfl dX8_retellTurn_31 ?_
    refine lv_lload_n hE.1 hE.2.1 dX8_retellTurn_34 rfl (lv_at hl 1 rfl) ?_
    refine x_vp (nn := 1) (As := [.long (lI (z_1))]) (rest := []) hE (s_X1_hasNumber_3 l D K ad mm N hNN v ar al hI  (z_1) (by omega)) wPre_blind (wPre_now hK hN hP) (x_recv hK hP 3 (Nat.lt_of_lt_of_le (by decide) hNN) (xG_1 rfl) rfl) rfl mw_1146 mw_1147 mw_1148 mw_116 mw_1149 (by decide +kernel) ⟨by decide, by decide⟩ hl.1 rfl (Nat.le_of_ble_eq_true rfl) ⟨Nat.zero_le _, Nat.zero_le _⟩ dX8_retellTurn_35 (fun r3 hr3 => ?_)
    obtain ⟨z3, hz3, rfl⟩ := hr3
    refine s_if_ne (a := z3) (tgt := 44) hE.1 hE.2.1 (by omega) dX8_retellTurn_38 (by decide) (fun c4 => ?_) (fun c4 => ?_)
    · skip
      refine lv_lload_n hE.1 hE.2.1 dX8_retellTurn_44 rfl (lv_at hl 1 rfl) ?_
      refine lv_l2i (v := iI (z_1)) hE.1 hE.2.1 dX8_retellTurn_45 (lI_l2i _) ?_
      refine lv_istore_n (lv' := [(3, .int (iI (z_1))), (0, .ref (ad 0)), (1, .long (lI (z_1)))]) hE.1 hE.2.1 dX8_retellTurn_46 rfl hl (by decide) rfl (fun ls hl => ?_)
      refine lv_aload_n hE.1 hE.2.1 dX8_retellTurn_47 rfl (lv_at hl 1 rfl) ?_
      refine x_get (x := .ref (ad 31)) hE hK hP 0 (Nat.lt_of_lt_of_le (by decide) hNN) (xG_8 rfl) rfl hin8 4 (by decide) mw_484 rfl dX8_retellTurn_48 ?_
      refine lv_iload_n hE.1 hE.2.1 dX8_retellTurn_51 rfl (lv_at hl 0 rfl) ?_
      refine x_vp (nn := 1) (As := [.int (iI (z_1))]) (rest := []) hE (s_X7_reason_31 l D K ad mm N hNN v ar al hI  (z_1) (by omega)) wPre_blind (wPre_now hK hN hP) (x_recv hK hP 31 (Nat.lt_of_lt_of_le (by decide) hNN) (xG_7 rfl) rfl) rfl mw_742 mw_743 mw_744 mw_117 mw_745 (by decide +kernel) ⟨by decide, by decide⟩ hl.1 rfl (Nat.le_of_ble_eq_true rfl) ⟨Nat.zero_le _, Nat.zero_le _⟩ dX8_retellTurn_52 (fun r5 hr5 => ?_)
      obtain ⟨z5, hz5, rfl⟩ := hr5
      refine lv_istore (lv' := [(4, .int (iI (z5))), (3, .int (iI (z_1))), (0, .ref (ad 0)), (1, .long (lI (z_1)))]) hE.1 hE.2.1 dX8_retellTurn_55 hl (by decide) rfl (fun ls hl => ?_)
      refine lv_iload hE.1 hE.2.1 dX8_retellTurn_57 (lv_at hl 0 rfl) ?_
      refine s_if_ne (a := z5) (tgt := 70) hE.1 hE.2.1 (by omega) dX8_retellTurn_59 (by decide) (fun c6 => ?_) (fun c6 => ?_)
      · skip
        refine lv_iload hE.1 hE.2.1 dX8_retellTurn_70 (lv_at hl 0 rfl) ?_
        exact kr _ _ _ _ _ _ _ _ rfl ⟨⟨z5, by omega, rfl⟩, hI, fun i j h => rfl⟩ hP hS dX8_retellTurn_72
      · skip
        refine lv_aload_n hE.1 hE.2.1 dX8_retellTurn_62 rfl (lv_at hl 2 rfl) ?_
        refine x_get (x := .ref (ad 31)) hE hK hP 0 (Nat.lt_of_lt_of_le (by decide) hNN) (xG_8 rfl) rfl hin8 4 (by decide) mw_484 rfl dX8_retellTurn_63 ?_
        refine lv_iload_n hE.1 hE.2.1 dX8_retellTurn_66 rfl (lv_at hl 1 rfl) ?_
        refine x_vv (nn := 1) (As := [.int (iI (z_1))]) (rest := []) hE hK hN hP hS (s_X7_tell_31 l D K ad mm N hNN v ar al hI  (z_1) (by omega)) (x_recv hK hP 31 (Nat.lt_of_lt_of_le (by decide) hNN) (xG_7 rfl) rfl) rfl mw_762 mw_763 mw_764 mw_117 mw_765 (by decide +kernel) ⟨by decide, by decide⟩ hl.1 rfl (Nat.le_of_ble_eq_true rfl) ⟨Nat.zero_le _, Nat.zero_le _⟩ dX8_retellTurn_67 (fun v7 ar7 al7 H locs hq7 hP hS => ?_)
        obtain ⟨hI, hq7⟩ := hq7
        have hI : XI v7 := hI
        refine lv_iload hE.1 hE.2.1 dX8_retellTurn_70 (lv_at hl 0 rfl) ?_
        exact kr _ _ _ _ _ _ _ _ rfl ⟨⟨z5, by omega, rfl⟩, hI, fun i j h => (hq7 i j (fun q => h (mem_sub (by decide) q)))⟩ hP hS dX8_retellTurn_72
    · skip
      refine lv_bipush (v := iI (9)) hE.1 hE.2.1 dX8_retellTurn_41 (by decide) ?_
      exact kr _ _ _ _ _ _ _ _ rfl ⟨⟨9, by omega, rfl⟩, hI, fun i j h => rfl⟩ hP hS dX8_retellTurn_43
  · skip
    refine lv_aload_n hE.1 hE.2.1 dX8_retellTurn_8 rfl (lv_at hl 0 rfl) ?_
    refine x_get (x := .ref (ad 31)) hE hK hP 0 (Nat.lt_of_lt_of_le (by decide) hNN) (xG_8 rfl) rfl hin8 4 (by decide) mw_484 rfl dX8_retellTurn_9 ?_
    refine x_vp (nn := 0) (As := []) (rest := []) hE (s_X7_mayBeSilent_31 l D K ad mm N hNN v ar al hI  ) wPre_blind (wPre_now hK hN hP) (x_recv hK hP 31 (Nat.lt_of_lt_of_le (by decide) hNN) (xG_7 rfl) rfl) rfl mw_792 mw_793 mw_794 mw_117 mw_795 (by decide +kernel) ⟨by decide, by decide⟩ hl.1 rfl (Nat.le_of_ble_eq_true rfl) ⟨Nat.zero_le _, Nat.zero_le _⟩ dX8_retellTurn_12 (fun r8 hr8 => ?_)
    obtain ⟨z8, hz8, rfl⟩ := hr8
    refine s_if_ne (a := z8) (tgt := 21) hE.1 hE.2.1 (by omega) dX8_retellTurn_15 (by decide) (fun c9 => ?_) (fun c9 => ?_)
    · skip
      refine lv_aload_n hE.1 hE.2.1 dX8_retellTurn_21 rfl (lv_at hl 0 rfl) ?_
      refine x_get (x := .ref (ad 31)) hE hK hP 0 (Nat.lt_of_lt_of_le (by decide) hNN) (xG_8 rfl) rfl hin8 4 (by decide) mw_484 rfl dX8_retellTurn_22 ?_
      refine x_vv (nn := 0) (As := []) (rest := []) hE hK hN hP hS (s_X7_pass_31 l D K ad mm N hNN v ar al hI  ) (x_recv hK hP 31 (Nat.lt_of_lt_of_le (by decide) hNN) (xG_7 rfl) rfl) rfl mw_804 mw_805 mw_806 mw_117 mw_807 (by decide +kernel) ⟨by decide, by decide⟩ hl.1 rfl (Nat.le_of_ble_eq_true rfl) ⟨Nat.zero_le _, Nat.zero_le _⟩ dX8_retellTurn_25 (fun v10 ar10 al10 H locs hq10 hP hS => ?_)
      obtain ⟨hI, hq10⟩ := hq10
      have hI : XI v10 := hI
      refine lv_iconst (v := iI (0)) hE.1 hE.2.1 dX8_retellTurn_28 (by decide) ?_
      exact kr _ _ _ _ _ _ _ _ rfl ⟨⟨0, by omega, rfl⟩, hI, fun i j h => (hq10 i j (fun q => h (mem_sub (by decide) q)))⟩ hP hS dX8_retellTurn_29
    · skip
      refine lv_bipush (v := iI (9)) hE.1 hE.2.1 dX8_retellTurn_18 (by decide) ?_
      exact kr _ _ _ _ _ _ _ _ rfl ⟨⟨9, by omega, rfl⟩, hI, fun i j h => rfl⟩ hP hS dX8_retellTurn_20

theorem dX8_retell_0 : decode cX8_retell 0 = .ok (.aload_n 0, 1) := by decide +kernel
theorem dX8_retell_1 : decode cX8_retell 1 = .ok (.getfield 35, 3) := by decide +kernel
theorem dX8_retell_4 : decode cX8_retell 4 = .ok (.invokevirtual 90, 3) := by decide +kernel
theorem dX8_retell_7 : decode cX8_retell 7 = .ok (.iconst 0, 1) := by decide +kernel
theorem dX8_retell_8 : decode cX8_retell 8 = .ok (.istore_n 2, 1) := by decide +kernel
theorem dX8_retell_9 : decode cX8_retell 9 = .ok (.iload_n 2, 1) := by decide +kernel
theorem dX8_retell_10 : decode cX8_retell 10 = .ok (.aload_n 1, 1) := by decide +kernel
theorem dX8_retell_11 : decode cX8_retell 11 = .ok (.getfield 263, 3) := by decide +kernel
theorem dX8_retell_14 : decode cX8_retell 14 = .ok (.if_icmp .ge 32, 3) := by decide +kernel
theorem dX8_retell_17 : decode cX8_retell 17 = .ok (.iload_n 2, 1) := by decide +kernel
theorem dX8_retell_18 : decode cX8_retell 18 = .ok (.bipush 60, 2) := by decide +kernel
theorem dX8_retell_20 : decode cX8_retell 20 = .ok (.if_icmp .ge 26, 3) := by decide +kernel
theorem dX8_retell_23 : decode cX8_retell 23 = .ok (.aload_n 0, 1) := by decide +kernel
theorem dX8_retell_24 : decode cX8_retell 24 = .ok (.aload_n 1, 1) := by decide +kernel
theorem dX8_retell_25 : decode cX8_retell 25 = .ok (.getfield 271, 3) := by decide +kernel
theorem dX8_retell_28 : decode cX8_retell 28 = .ok (.iload_n 2, 1) := by decide +kernel
theorem dX8_retell_29 : decode cX8_retell 29 = .ok (.laload, 1) := by decide +kernel
theorem dX8_retell_30 : decode cX8_retell 30 = .ok (.invokevirtual 275, 3) := by decide +kernel
theorem dX8_retell_33 : decode cX8_retell 33 = .ok (.istore_n 3, 1) := by decide +kernel
theorem dX8_retell_34 : decode cX8_retell 34 = .ok (.iload_n 3, 1) := by decide +kernel
theorem dX8_retell_35 : decode cX8_retell 35 = .ok (.ifCond .eq 5, 3) := by decide +kernel
theorem dX8_retell_38 : decode cX8_retell 38 = .ok (.iload_n 3, 1) := by decide +kernel
theorem dX8_retell_39 : decode cX8_retell 39 = .ok (.ireturn, 1) := by decide +kernel
theorem dX8_retell_40 : decode cX8_retell 40 = .ok (.iinc 2 1, 3) := by decide +kernel
theorem dX8_retell_43 : decode cX8_retell 43 = .ok (.goto (-34), 3) := by decide +kernel
theorem dX8_retell_46 : decode cX8_retell 46 = .ok (.iconst 0, 1) := by decide +kernel
theorem dX8_retell_47 : decode cX8_retell 47 = .ok (.ireturn, 1) := by decide +kernel
set_option maxHeartbeats 4000000 in
set_option maxRecDepth 100000 in
theorem s_X8_retell_0_67 (l : Launch) (D : va_G) (K : Nat → ClassId) (ad : Nat → Nat) (mm : Option Nat) (N : Nat) (hNN : 132 ≤ N) (v ar : sI) (al : sL) (hI : XI v) : Met l yX8_retell (wM yX8_retell cX8_retell 4 (some .int)) (rmD 4) (va_Pc [.ref (ad 0), .ref (ad 67)] (wPre D K ad (xG ad K mm) N v ar al)) (va_Qi (fun (r : Int32) (u : sT) => (∃ z : Int, (-2147483648 ≤ z ∧ z ≤ 2147483647) ∧ r = iI z) ∧ XI u.1 ∧ (∀ i j : Nat, (i, j) ∉ ([(31, 2), (31, 3), (31, 4), (31, 5), (31, 8), (31, 9)] : List (Nat × Nat)) → u.1 i j = v i j)) (wB D ad (xG ad K mm) N) (inW ad N)) 0 0 (inW ad N) := by
  refine s_metI (by decide) (Nat.le_of_ble_eq_true rfl) ?_
  intro p e s m below meth c ls args Q hE hB hl kr
  have hE : CallFix p m c cX8_retell 4 s args tbG "TaleCourt" := hE
  obtain ⟨hP, hK, hN⟩ := hB
  have hS : va_S (inW ad N) s.heap s.heap [] := va_S.rf
  have hl : lv_has ls 4 [(0, .ref (ad 0)), (1, .ref (ad 67))] := hl
  refine lv_aload_n hE.1 hE.2.1 dX8_retell_0 rfl (lv_at hl 0 rfl) ?_
  refine x_get (x := .ref (ad 31)) hE hK hP 0 (Nat.lt_of_lt_of_le (by decide) hNN) (xG_8 rfl) rfl hin8 4 (by decide) mw_484 rfl dX8_retell_1 ?_
  refine x_vv (nn := 0) (As := []) (rest := []) hE hK hN hP hS (s_X7_clear_31 l D K ad mm N hNN v ar al hI  ) (x_recv hK hP 31 (Nat.lt_of_lt_of_le (by decide) hNN) (xG_7 rfl) rfl) rfl mw_681 mw_682 mw_683 mw_117 mw_684 (by decide +kernel) ⟨by decide, by decide⟩ hl.1 rfl (Nat.le_of_ble_eq_true rfl) ⟨Nat.zero_le _, Nat.zero_le _⟩ dX8_retell_4 (fun v1 ar1 al1 H locs hq1 hP hS => ?_)
  obtain ⟨hI, hq1⟩ := hq1
  have hI : XI v1 := hI
  refine lv_iconst (v := iI (0)) hE.1 hE.2.1 dX8_retell_7 (by decide) ?_
  refine lv_istore_n (lv' := [(2, .int (iI (0))), (0, .ref (ad 0)), (1, .ref (ad 67))]) hE.1 hE.2.1 dX8_retell_8 rfl hl (by decide) rfl (fun ls hl => ?_)
  have loop2 : ∀ (k2 : Nat) (y2_2 : Int) (vl2 arl2 : sI) (all2 : sL) (H : Heap) (locs : List Loc) (ls : Array Slot), (60 - y2_2).toNat = k2 → (0 ≤ y2_2 ∧ y2_2 ≤ 60) → XI vl2 → (∀ i j : Nat, (i, j) ∉ ([(31, 2), (31, 3), (31, 4), (31, 5), (31, 8), (31, 9)] : List (Nat × Nat)) → vl2 i j = v1 i j) → va_P D xcl (wW ad (xG ad K mm) N vl2 arl2 all2) H → va_S (inW ad N) s.heap H locs → lv_has ls 4 [(2, .int (iI (y2_2))), (0, .ref (ad 0)), (1, .ref (ad 67))] → W p l e (rmD 4) s m args below meth c H locs 0 0 Q (F0 m 9 ls []) := by
    intro k2
    induction k2 using Nat.strongRecOn with
    | _ k2 ih2 =>
      intro y2_2 vl2 arl2 all2 H locs ls hk2 hb_y2_2 hI hfr2 hP hS hl
      refine lv_iload_n hE.1 hE.2.1 dX8_retell_9 rfl (lv_at hl 0 rfl) ?_
      refine lv_aload_n hE.1 hE.2.1 dX8_retell_10 rfl (lv_at hl 2 rfl) ?_
      obtain ⟨z3, hz3, ez3⟩ := XI_get hI 67 2 (-1) 60 (by decide)
      refine x_get (x := .int (vl2 67 2)) hE hK hP 67 (Nat.lt_of_lt_of_le (by decide) hNN) (xG_5 rfl) rfl hin5 2 (by decide) mw_451 rfl dX8_retell_11 ?_
      refine x_top (y := iI (z3)) ez3 ?_
      refine s_icmp_ge (a := y2_2) (b := z3) (tgt := 46) hE.1 hE.2.1 (by omega) (by omega) dX8_retell_14 (by decide) (fun c4 => ?_) (fun c4 => ?_)
      · skip
        refine lv_iconst (v := iI (0)) hE.1 hE.2.1 dX8_retell_46 (by decide) ?_
        exact kr _ _ _ _ _ _ _ _ rfl ⟨⟨0, by omega, rfl⟩, hI, fun i j h => ((hfr2 i j (fun q => h (mem_sub (by decide) q))).trans (hq1 i j (fun q => h (mem_sub (by decide) q))))⟩ hP hS dX8_retell_47
      · skip
        refine lv_iload_n hE.1 hE.2.1 dX8_retell_17 rfl (lv_at hl 0 rfl) ?_
        refine lv_bipush (v := iI (60)) hE.1 hE.2.1 dX8_retell_18 (by decide) ?_
        refine s_icmp_ge (a := y2_2) (b := 60) (tgt := 46) hE.1 hE.2.1 (by omega) (by omega) dX8_retell_20 (by decide) (fun c5 => False.elim (by omega)) (fun _ => ?_)
        refine lv_aload_n hE.1 hE.2.1 dX8_retell_23 rfl (lv_at hl 1 rfl) ?_
        refine lv_aload_n hE.1 hE.2.1 dX8_retell_24 rfl (lv_at hl 2 rfl) ?_
        refine x_get (x := .ref (ad 68)) hE hK hP 67 (Nat.lt_of_lt_of_le (by decide) hNN) (xG_5 rfl) rfl hin5 0 (by decide) mw_446 rfl dX8_retell_25 ?_
        refine lv_iload_n hE.1 hE.2.1 dX8_retell_28 rfl (lv_at hl 0 rfl) ?_
        refine x_lald (j := iI (y2_2)) hE hK hP 68 (Nat.lt_of_lt_of_le (by decide) hNN) (xG_11 rfl) (iI_in (n := 60) (by omega)) dX8_retell_29 ?_
        obtain ⟨z7, hz7, ez7⟩ := lI_of (all2 68 (iI (y2_2)).toNatClampNeg)
        refine x_topl ez7 ?_
        refine x_vi (nn := 1) (As := [.long (lI (z7))]) (rest := []) hE hK hN hP hS (s_X8_retellTurn_0 l D K ad mm N hNN vl2 arl2 all2 hI  (z7) (by omega)) (x_recv hK hP 0 (Nat.lt_of_lt_of_le (by decide) hNN) (xG_8 rfl) rfl) rfl mw_1141 mw_1143 mw_38 mw_114 mw_1144 (by decide +kernel) ⟨by decide, by decide⟩ hl.1 rfl (Nat.le_of_ble_eq_true rfl) ⟨Nat.zero_le _, Nat.zero_le _⟩ dX8_retell_30 (fun r8 v8 ar8 al8 H locs hq8 hP hS => ?_)
        obtain ⟨⟨z8, hz8, rfl⟩, hI, hq8⟩ := hq8
        have hI : XI v8 := hI
        refine lv_istore_n (lv' := [(3, .int (iI (z8))), (2, .int (iI (y2_2))), (0, .ref (ad 0)), (1, .ref (ad 67))]) hE.1 hE.2.1 dX8_retell_33 rfl hl (by decide) rfl (fun ls hl => ?_)
        refine lv_iload_n hE.1 hE.2.1 dX8_retell_34 rfl (lv_at hl 0 rfl) ?_
        refine s_if_eq (a := z8) (tgt := 40) hE.1 hE.2.1 (by omega) dX8_retell_35 (by decide) (fun c9 => ?_) (fun c9 => ?_)
        · skip
          refine lv_iinc (v := iI (y2_2 + 1)) (lv' := [(2, .int (iI (y2_2 + 1))), (3, .int (iI (z8))), (0, .ref (ad 0)), (1, .ref (ad 67))]) hE.1 hE.2.1 dX8_retell_40 hl (k := 1) rfl ((iI_add (y2_2) (1)).trans (congrArg iI (by omega))) (by decide) rfl (fun ls hl => ?_)
          refine lv_goto (tgt := 9) hE.1 hE.2.1 dX8_retell_43 (by decide) ?_
          exact ih2 _ (by omega) (y2_2 + 1) v8 ar8 al8 _ _ _ rfl (by omega) hI (fun i j h => ((hq8 i j (fun q => h (mem_sub (by decide) q))).trans (hfr2 i j h))) hP hS (lv_sub hl [0, 2, 3] rfl)
        · skip
          refine lv_iload_n hE.1 hE.2.1 dX8_retell_38 rfl (lv_at hl 0 rfl) ?_
          exact kr _ _ _ _ _ _ _ _ rfl ⟨⟨z8, by omega, rfl⟩, hI, fun i j h => ((hq8 i j (fun q => h (mem_sub (by decide) q))).trans ((hfr2 i j (fun q => h (mem_sub (by decide) q))).trans (hq1 i j (fun q => h (mem_sub (by decide) q)))))⟩ hP hS dX8_retell_39
  exact loop2 _ (0) v1 ar1 al1 _ _ _ rfl (by omega) hI (fun _ _ _ => rfl) hP hS hl

set_option maxHeartbeats 4000000 in
set_option maxRecDepth 100000 in
theorem s_X8_retell_0_69 (l : Launch) (D : va_G) (K : Nat → ClassId) (ad : Nat → Nat) (mm : Option Nat) (N : Nat) (hNN : 132 ≤ N) (v ar : sI) (al : sL) (hI : XI v) : Met l yX8_retell (wM yX8_retell cX8_retell 4 (some .int)) (rmD 4) (va_Pc [.ref (ad 0), .ref (ad 69)] (wPre D K ad (xG ad K mm) N v ar al)) (va_Qi (fun (r : Int32) (u : sT) => (∃ z : Int, (-2147483648 ≤ z ∧ z ≤ 2147483647) ∧ r = iI z) ∧ XI u.1 ∧ (∀ i j : Nat, (i, j) ∉ ([(31, 2), (31, 3), (31, 4), (31, 5), (31, 8), (31, 9)] : List (Nat × Nat)) → u.1 i j = v i j)) (wB D ad (xG ad K mm) N) (inW ad N)) 0 0 (inW ad N) := by
  refine s_metI (by decide) (Nat.le_of_ble_eq_true rfl) ?_
  intro p e s m below meth c ls args Q hE hB hl kr
  have hE : CallFix p m c cX8_retell 4 s args tbG "TaleCourt" := hE
  obtain ⟨hP, hK, hN⟩ := hB
  have hS : va_S (inW ad N) s.heap s.heap [] := va_S.rf
  have hl : lv_has ls 4 [(0, .ref (ad 0)), (1, .ref (ad 69))] := hl
  refine lv_aload_n hE.1 hE.2.1 dX8_retell_0 rfl (lv_at hl 0 rfl) ?_
  refine x_get (x := .ref (ad 31)) hE hK hP 0 (Nat.lt_of_lt_of_le (by decide) hNN) (xG_8 rfl) rfl hin8 4 (by decide) mw_484 rfl dX8_retell_1 ?_
  refine x_vv (nn := 0) (As := []) (rest := []) hE hK hN hP hS (s_X7_clear_31 l D K ad mm N hNN v ar al hI  ) (x_recv hK hP 31 (Nat.lt_of_lt_of_le (by decide) hNN) (xG_7 rfl) rfl) rfl mw_681 mw_682 mw_683 mw_117 mw_684 (by decide +kernel) ⟨by decide, by decide⟩ hl.1 rfl (Nat.le_of_ble_eq_true rfl) ⟨Nat.zero_le _, Nat.zero_le _⟩ dX8_retell_4 (fun v1 ar1 al1 H locs hq1 hP hS => ?_)
  obtain ⟨hI, hq1⟩ := hq1
  have hI : XI v1 := hI
  refine lv_iconst (v := iI (0)) hE.1 hE.2.1 dX8_retell_7 (by decide) ?_
  refine lv_istore_n (lv' := [(2, .int (iI (0))), (0, .ref (ad 0)), (1, .ref (ad 69))]) hE.1 hE.2.1 dX8_retell_8 rfl hl (by decide) rfl (fun ls hl => ?_)
  have loop2 : ∀ (k2 : Nat) (y2_2 : Int) (vl2 arl2 : sI) (all2 : sL) (H : Heap) (locs : List Loc) (ls : Array Slot), (60 - y2_2).toNat = k2 → (0 ≤ y2_2 ∧ y2_2 ≤ 60) → XI vl2 → (∀ i j : Nat, (i, j) ∉ ([(31, 2), (31, 3), (31, 4), (31, 5), (31, 8), (31, 9)] : List (Nat × Nat)) → vl2 i j = v1 i j) → va_P D xcl (wW ad (xG ad K mm) N vl2 arl2 all2) H → va_S (inW ad N) s.heap H locs → lv_has ls 4 [(2, .int (iI (y2_2))), (0, .ref (ad 0)), (1, .ref (ad 69))] → W p l e (rmD 4) s m args below meth c H locs 0 0 Q (F0 m 9 ls []) := by
    intro k2
    induction k2 using Nat.strongRecOn with
    | _ k2 ih2 =>
      intro y2_2 vl2 arl2 all2 H locs ls hk2 hb_y2_2 hI hfr2 hP hS hl
      refine lv_iload_n hE.1 hE.2.1 dX8_retell_9 rfl (lv_at hl 0 rfl) ?_
      refine lv_aload_n hE.1 hE.2.1 dX8_retell_10 rfl (lv_at hl 2 rfl) ?_
      obtain ⟨z3, hz3, ez3⟩ := XI_get hI 69 2 (-1) 60 (by decide)
      refine x_get (x := .int (vl2 69 2)) hE hK hP 69 (Nat.lt_of_lt_of_le (by decide) hNN) (xG_5 rfl) rfl hin5 2 (by decide) mw_451 rfl dX8_retell_11 ?_
      refine x_top (y := iI (z3)) ez3 ?_
      refine s_icmp_ge (a := y2_2) (b := z3) (tgt := 46) hE.1 hE.2.1 (by omega) (by omega) dX8_retell_14 (by decide) (fun c4 => ?_) (fun c4 => ?_)
      · skip
        refine lv_iconst (v := iI (0)) hE.1 hE.2.1 dX8_retell_46 (by decide) ?_
        exact kr _ _ _ _ _ _ _ _ rfl ⟨⟨0, by omega, rfl⟩, hI, fun i j h => ((hfr2 i j (fun q => h (mem_sub (by decide) q))).trans (hq1 i j (fun q => h (mem_sub (by decide) q))))⟩ hP hS dX8_retell_47
      · skip
        refine lv_iload_n hE.1 hE.2.1 dX8_retell_17 rfl (lv_at hl 0 rfl) ?_
        refine lv_bipush (v := iI (60)) hE.1 hE.2.1 dX8_retell_18 (by decide) ?_
        refine s_icmp_ge (a := y2_2) (b := 60) (tgt := 46) hE.1 hE.2.1 (by omega) (by omega) dX8_retell_20 (by decide) (fun c5 => False.elim (by omega)) (fun _ => ?_)
        refine lv_aload_n hE.1 hE.2.1 dX8_retell_23 rfl (lv_at hl 1 rfl) ?_
        refine lv_aload_n hE.1 hE.2.1 dX8_retell_24 rfl (lv_at hl 2 rfl) ?_
        refine x_get (x := .ref (ad 70)) hE hK hP 69 (Nat.lt_of_lt_of_le (by decide) hNN) (xG_5 rfl) rfl hin5 0 (by decide) mw_446 rfl dX8_retell_25 ?_
        refine lv_iload_n hE.1 hE.2.1 dX8_retell_28 rfl (lv_at hl 0 rfl) ?_
        refine x_lald (j := iI (y2_2)) hE hK hP 70 (Nat.lt_of_lt_of_le (by decide) hNN) (xG_11 rfl) (iI_in (n := 60) (by omega)) dX8_retell_29 ?_
        obtain ⟨z7, hz7, ez7⟩ := lI_of (all2 70 (iI (y2_2)).toNatClampNeg)
        refine x_topl ez7 ?_
        refine x_vi (nn := 1) (As := [.long (lI (z7))]) (rest := []) hE hK hN hP hS (s_X8_retellTurn_0 l D K ad mm N hNN vl2 arl2 all2 hI  (z7) (by omega)) (x_recv hK hP 0 (Nat.lt_of_lt_of_le (by decide) hNN) (xG_8 rfl) rfl) rfl mw_1141 mw_1143 mw_38 mw_114 mw_1144 (by decide +kernel) ⟨by decide, by decide⟩ hl.1 rfl (Nat.le_of_ble_eq_true rfl) ⟨Nat.zero_le _, Nat.zero_le _⟩ dX8_retell_30 (fun r8 v8 ar8 al8 H locs hq8 hP hS => ?_)
        obtain ⟨⟨z8, hz8, rfl⟩, hI, hq8⟩ := hq8
        have hI : XI v8 := hI
        refine lv_istore_n (lv' := [(3, .int (iI (z8))), (2, .int (iI (y2_2))), (0, .ref (ad 0)), (1, .ref (ad 69))]) hE.1 hE.2.1 dX8_retell_33 rfl hl (by decide) rfl (fun ls hl => ?_)
        refine lv_iload_n hE.1 hE.2.1 dX8_retell_34 rfl (lv_at hl 0 rfl) ?_
        refine s_if_eq (a := z8) (tgt := 40) hE.1 hE.2.1 (by omega) dX8_retell_35 (by decide) (fun c9 => ?_) (fun c9 => ?_)
        · skip
          refine lv_iinc (v := iI (y2_2 + 1)) (lv' := [(2, .int (iI (y2_2 + 1))), (3, .int (iI (z8))), (0, .ref (ad 0)), (1, .ref (ad 69))]) hE.1 hE.2.1 dX8_retell_40 hl (k := 1) rfl ((iI_add (y2_2) (1)).trans (congrArg iI (by omega))) (by decide) rfl (fun ls hl => ?_)
          refine lv_goto (tgt := 9) hE.1 hE.2.1 dX8_retell_43 (by decide) ?_
          exact ih2 _ (by omega) (y2_2 + 1) v8 ar8 al8 _ _ _ rfl (by omega) hI (fun i j h => ((hq8 i j (fun q => h (mem_sub (by decide) q))).trans (hfr2 i j h))) hP hS (lv_sub hl [0, 2, 3] rfl)
        · skip
          refine lv_iload_n hE.1 hE.2.1 dX8_retell_38 rfl (lv_at hl 0 rfl) ?_
          exact kr _ _ _ _ _ _ _ _ rfl ⟨⟨z8, by omega, rfl⟩, hI, fun i j h => ((hq8 i j (fun q => h (mem_sub (by decide) q))).trans ((hfr2 i j (fun q => h (mem_sub (by decide) q))).trans (hq1 i j (fun q => h (mem_sub (by decide) q)))))⟩ hP hS dX8_retell_39
  exact loop2 _ (0) v1 ar1 al1 _ _ _ rfl (by omega) hI (fun _ _ _ => rfl) hP hS hl

set_option maxHeartbeats 4000000 in
set_option maxRecDepth 100000 in
theorem s_X8_retell_0_71 (l : Launch) (D : va_G) (K : Nat → ClassId) (ad : Nat → Nat) (mm : Option Nat) (N : Nat) (hNN : 132 ≤ N) (v ar : sI) (al : sL) (hI : XI v) : Met l yX8_retell (wM yX8_retell cX8_retell 4 (some .int)) (rmD 4) (va_Pc [.ref (ad 0), .ref (ad 71)] (wPre D K ad (xG ad K mm) N v ar al)) (va_Qi (fun (r : Int32) (u : sT) => (∃ z : Int, (-2147483648 ≤ z ∧ z ≤ 2147483647) ∧ r = iI z) ∧ XI u.1 ∧ (∀ i j : Nat, (i, j) ∉ ([(31, 2), (31, 3), (31, 4), (31, 5), (31, 8), (31, 9)] : List (Nat × Nat)) → u.1 i j = v i j)) (wB D ad (xG ad K mm) N) (inW ad N)) 0 0 (inW ad N) := by
  refine s_metI (by decide) (Nat.le_of_ble_eq_true rfl) ?_
  intro p e s m below meth c ls args Q hE hB hl kr
  have hE : CallFix p m c cX8_retell 4 s args tbG "TaleCourt" := hE
  obtain ⟨hP, hK, hN⟩ := hB
  have hS : va_S (inW ad N) s.heap s.heap [] := va_S.rf
  have hl : lv_has ls 4 [(0, .ref (ad 0)), (1, .ref (ad 71))] := hl
  refine lv_aload_n hE.1 hE.2.1 dX8_retell_0 rfl (lv_at hl 0 rfl) ?_
  refine x_get (x := .ref (ad 31)) hE hK hP 0 (Nat.lt_of_lt_of_le (by decide) hNN) (xG_8 rfl) rfl hin8 4 (by decide) mw_484 rfl dX8_retell_1 ?_
  refine x_vv (nn := 0) (As := []) (rest := []) hE hK hN hP hS (s_X7_clear_31 l D K ad mm N hNN v ar al hI  ) (x_recv hK hP 31 (Nat.lt_of_lt_of_le (by decide) hNN) (xG_7 rfl) rfl) rfl mw_681 mw_682 mw_683 mw_117 mw_684 (by decide +kernel) ⟨by decide, by decide⟩ hl.1 rfl (Nat.le_of_ble_eq_true rfl) ⟨Nat.zero_le _, Nat.zero_le _⟩ dX8_retell_4 (fun v1 ar1 al1 H locs hq1 hP hS => ?_)
  obtain ⟨hI, hq1⟩ := hq1
  have hI : XI v1 := hI
  refine lv_iconst (v := iI (0)) hE.1 hE.2.1 dX8_retell_7 (by decide) ?_
  refine lv_istore_n (lv' := [(2, .int (iI (0))), (0, .ref (ad 0)), (1, .ref (ad 71))]) hE.1 hE.2.1 dX8_retell_8 rfl hl (by decide) rfl (fun ls hl => ?_)
  have loop2 : ∀ (k2 : Nat) (y2_2 : Int) (vl2 arl2 : sI) (all2 : sL) (H : Heap) (locs : List Loc) (ls : Array Slot), (60 - y2_2).toNat = k2 → (0 ≤ y2_2 ∧ y2_2 ≤ 60) → XI vl2 → (∀ i j : Nat, (i, j) ∉ ([(31, 2), (31, 3), (31, 4), (31, 5), (31, 8), (31, 9)] : List (Nat × Nat)) → vl2 i j = v1 i j) → va_P D xcl (wW ad (xG ad K mm) N vl2 arl2 all2) H → va_S (inW ad N) s.heap H locs → lv_has ls 4 [(2, .int (iI (y2_2))), (0, .ref (ad 0)), (1, .ref (ad 71))] → W p l e (rmD 4) s m args below meth c H locs 0 0 Q (F0 m 9 ls []) := by
    intro k2
    induction k2 using Nat.strongRecOn with
    | _ k2 ih2 =>
      intro y2_2 vl2 arl2 all2 H locs ls hk2 hb_y2_2 hI hfr2 hP hS hl
      refine lv_iload_n hE.1 hE.2.1 dX8_retell_9 rfl (lv_at hl 0 rfl) ?_
      refine lv_aload_n hE.1 hE.2.1 dX8_retell_10 rfl (lv_at hl 2 rfl) ?_
      obtain ⟨z3, hz3, ez3⟩ := XI_get hI 71 2 (-1) 60 (by decide)
      refine x_get (x := .int (vl2 71 2)) hE hK hP 71 (Nat.lt_of_lt_of_le (by decide) hNN) (xG_5 rfl) rfl hin5 2 (by decide) mw_451 rfl dX8_retell_11 ?_
      refine x_top (y := iI (z3)) ez3 ?_
      refine s_icmp_ge (a := y2_2) (b := z3) (tgt := 46) hE.1 hE.2.1 (by omega) (by omega) dX8_retell_14 (by decide) (fun c4 => ?_) (fun c4 => ?_)
      · skip
        refine lv_iconst (v := iI (0)) hE.1 hE.2.1 dX8_retell_46 (by decide) ?_
        exact kr _ _ _ _ _ _ _ _ rfl ⟨⟨0, by omega, rfl⟩, hI, fun i j h => ((hfr2 i j (fun q => h (mem_sub (by decide) q))).trans (hq1 i j (fun q => h (mem_sub (by decide) q))))⟩ hP hS dX8_retell_47
      · skip
        refine lv_iload_n hE.1 hE.2.1 dX8_retell_17 rfl (lv_at hl 0 rfl) ?_
        refine lv_bipush (v := iI (60)) hE.1 hE.2.1 dX8_retell_18 (by decide) ?_
        refine s_icmp_ge (a := y2_2) (b := 60) (tgt := 46) hE.1 hE.2.1 (by omega) (by omega) dX8_retell_20 (by decide) (fun c5 => False.elim (by omega)) (fun _ => ?_)
        refine lv_aload_n hE.1 hE.2.1 dX8_retell_23 rfl (lv_at hl 1 rfl) ?_
        refine lv_aload_n hE.1 hE.2.1 dX8_retell_24 rfl (lv_at hl 2 rfl) ?_
        refine x_get (x := .ref (ad 72)) hE hK hP 71 (Nat.lt_of_lt_of_le (by decide) hNN) (xG_5 rfl) rfl hin5 0 (by decide) mw_446 rfl dX8_retell_25 ?_
        refine lv_iload_n hE.1 hE.2.1 dX8_retell_28 rfl (lv_at hl 0 rfl) ?_
        refine x_lald (j := iI (y2_2)) hE hK hP 72 (Nat.lt_of_lt_of_le (by decide) hNN) (xG_11 rfl) (iI_in (n := 60) (by omega)) dX8_retell_29 ?_
        obtain ⟨z7, hz7, ez7⟩ := lI_of (all2 72 (iI (y2_2)).toNatClampNeg)
        refine x_topl ez7 ?_
        refine x_vi (nn := 1) (As := [.long (lI (z7))]) (rest := []) hE hK hN hP hS (s_X8_retellTurn_0 l D K ad mm N hNN vl2 arl2 all2 hI  (z7) (by omega)) (x_recv hK hP 0 (Nat.lt_of_lt_of_le (by decide) hNN) (xG_8 rfl) rfl) rfl mw_1141 mw_1143 mw_38 mw_114 mw_1144 (by decide +kernel) ⟨by decide, by decide⟩ hl.1 rfl (Nat.le_of_ble_eq_true rfl) ⟨Nat.zero_le _, Nat.zero_le _⟩ dX8_retell_30 (fun r8 v8 ar8 al8 H locs hq8 hP hS => ?_)
        obtain ⟨⟨z8, hz8, rfl⟩, hI, hq8⟩ := hq8
        have hI : XI v8 := hI
        refine lv_istore_n (lv' := [(3, .int (iI (z8))), (2, .int (iI (y2_2))), (0, .ref (ad 0)), (1, .ref (ad 71))]) hE.1 hE.2.1 dX8_retell_33 rfl hl (by decide) rfl (fun ls hl => ?_)
        refine lv_iload_n hE.1 hE.2.1 dX8_retell_34 rfl (lv_at hl 0 rfl) ?_
        refine s_if_eq (a := z8) (tgt := 40) hE.1 hE.2.1 (by omega) dX8_retell_35 (by decide) (fun c9 => ?_) (fun c9 => ?_)
        · skip
          refine lv_iinc (v := iI (y2_2 + 1)) (lv' := [(2, .int (iI (y2_2 + 1))), (3, .int (iI (z8))), (0, .ref (ad 0)), (1, .ref (ad 71))]) hE.1 hE.2.1 dX8_retell_40 hl (k := 1) rfl ((iI_add (y2_2) (1)).trans (congrArg iI (by omega))) (by decide) rfl (fun ls hl => ?_)
          refine lv_goto (tgt := 9) hE.1 hE.2.1 dX8_retell_43 (by decide) ?_
          exact ih2 _ (by omega) (y2_2 + 1) v8 ar8 al8 _ _ _ rfl (by omega) hI (fun i j h => ((hq8 i j (fun q => h (mem_sub (by decide) q))).trans (hfr2 i j h))) hP hS (lv_sub hl [0, 2, 3] rfl)
        · skip
          refine lv_iload_n hE.1 hE.2.1 dX8_retell_38 rfl (lv_at hl 0 rfl) ?_
          exact kr _ _ _ _ _ _ _ _ rfl ⟨⟨z8, by omega, rfl⟩, hI, fun i j h => ((hq8 i j (fun q => h (mem_sub (by decide) q))).trans ((hfr2 i j (fun q => h (mem_sub (by decide) q))).trans (hq1 i j (fun q => h (mem_sub (by decide) q)))))⟩ hP hS dX8_retell_39
  exact loop2 _ (0) v1 ar1 al1 _ _ _ rfl (by omega) hI (fun _ _ _ => rfl) hP hS hl

set_option maxHeartbeats 4000000 in
set_option maxRecDepth 100000 in
theorem s_X8_retell_0_73 (l : Launch) (D : va_G) (K : Nat → ClassId) (ad : Nat → Nat) (mm : Option Nat) (N : Nat) (hNN : 132 ≤ N) (v ar : sI) (al : sL) (hI : XI v) : Met l yX8_retell (wM yX8_retell cX8_retell 4 (some .int)) (rmD 4) (va_Pc [.ref (ad 0), .ref (ad 73)] (wPre D K ad (xG ad K mm) N v ar al)) (va_Qi (fun (r : Int32) (u : sT) => (∃ z : Int, (-2147483648 ≤ z ∧ z ≤ 2147483647) ∧ r = iI z) ∧ XI u.1 ∧ (∀ i j : Nat, (i, j) ∉ ([(31, 2), (31, 3), (31, 4), (31, 5), (31, 8), (31, 9)] : List (Nat × Nat)) → u.1 i j = v i j)) (wB D ad (xG ad K mm) N) (inW ad N)) 0 0 (inW ad N) := by
  refine s_metI (by decide) (Nat.le_of_ble_eq_true rfl) ?_
  intro p e s m below meth c ls args Q hE hB hl kr
  have hE : CallFix p m c cX8_retell 4 s args tbG "TaleCourt" := hE
  obtain ⟨hP, hK, hN⟩ := hB
  have hS : va_S (inW ad N) s.heap s.heap [] := va_S.rf
  have hl : lv_has ls 4 [(0, .ref (ad 0)), (1, .ref (ad 73))] := hl
  refine lv_aload_n hE.1 hE.2.1 dX8_retell_0 rfl (lv_at hl 0 rfl) ?_
  refine x_get (x := .ref (ad 31)) hE hK hP 0 (Nat.lt_of_lt_of_le (by decide) hNN) (xG_8 rfl) rfl hin8 4 (by decide) mw_484 rfl dX8_retell_1 ?_
  refine x_vv (nn := 0) (As := []) (rest := []) hE hK hN hP hS (s_X7_clear_31 l D K ad mm N hNN v ar al hI  ) (x_recv hK hP 31 (Nat.lt_of_lt_of_le (by decide) hNN) (xG_7 rfl) rfl) rfl mw_681 mw_682 mw_683 mw_117 mw_684 (by decide +kernel) ⟨by decide, by decide⟩ hl.1 rfl (Nat.le_of_ble_eq_true rfl) ⟨Nat.zero_le _, Nat.zero_le _⟩ dX8_retell_4 (fun v1 ar1 al1 H locs hq1 hP hS => ?_)
  obtain ⟨hI, hq1⟩ := hq1
  have hI : XI v1 := hI
  refine lv_iconst (v := iI (0)) hE.1 hE.2.1 dX8_retell_7 (by decide) ?_
  refine lv_istore_n (lv' := [(2, .int (iI (0))), (0, .ref (ad 0)), (1, .ref (ad 73))]) hE.1 hE.2.1 dX8_retell_8 rfl hl (by decide) rfl (fun ls hl => ?_)
  have loop2 : ∀ (k2 : Nat) (y2_2 : Int) (vl2 arl2 : sI) (all2 : sL) (H : Heap) (locs : List Loc) (ls : Array Slot), (60 - y2_2).toNat = k2 → (0 ≤ y2_2 ∧ y2_2 ≤ 60) → XI vl2 → (∀ i j : Nat, (i, j) ∉ ([(31, 2), (31, 3), (31, 4), (31, 5), (31, 8), (31, 9)] : List (Nat × Nat)) → vl2 i j = v1 i j) → va_P D xcl (wW ad (xG ad K mm) N vl2 arl2 all2) H → va_S (inW ad N) s.heap H locs → lv_has ls 4 [(2, .int (iI (y2_2))), (0, .ref (ad 0)), (1, .ref (ad 73))] → W p l e (rmD 4) s m args below meth c H locs 0 0 Q (F0 m 9 ls []) := by
    intro k2
    induction k2 using Nat.strongRecOn with
    | _ k2 ih2 =>
      intro y2_2 vl2 arl2 all2 H locs ls hk2 hb_y2_2 hI hfr2 hP hS hl
      refine lv_iload_n hE.1 hE.2.1 dX8_retell_9 rfl (lv_at hl 0 rfl) ?_
      refine lv_aload_n hE.1 hE.2.1 dX8_retell_10 rfl (lv_at hl 2 rfl) ?_
      obtain ⟨z3, hz3, ez3⟩ := XI_get hI 73 2 (-1) 60 (by decide)
      refine x_get (x := .int (vl2 73 2)) hE hK hP 73 (Nat.lt_of_lt_of_le (by decide) hNN) (xG_5 rfl) rfl hin5 2 (by decide) mw_451 rfl dX8_retell_11 ?_
      refine x_top (y := iI (z3)) ez3 ?_
      refine s_icmp_ge (a := y2_2) (b := z3) (tgt := 46) hE.1 hE.2.1 (by omega) (by omega) dX8_retell_14 (by decide) (fun c4 => ?_) (fun c4 => ?_)
      · skip
        refine lv_iconst (v := iI (0)) hE.1 hE.2.1 dX8_retell_46 (by decide) ?_
        exact kr _ _ _ _ _ _ _ _ rfl ⟨⟨0, by omega, rfl⟩, hI, fun i j h => ((hfr2 i j (fun q => h (mem_sub (by decide) q))).trans (hq1 i j (fun q => h (mem_sub (by decide) q))))⟩ hP hS dX8_retell_47
      · skip
        refine lv_iload_n hE.1 hE.2.1 dX8_retell_17 rfl (lv_at hl 0 rfl) ?_
        refine lv_bipush (v := iI (60)) hE.1 hE.2.1 dX8_retell_18 (by decide) ?_
        refine s_icmp_ge (a := y2_2) (b := 60) (tgt := 46) hE.1 hE.2.1 (by omega) (by omega) dX8_retell_20 (by decide) (fun c5 => False.elim (by omega)) (fun _ => ?_)
        refine lv_aload_n hE.1 hE.2.1 dX8_retell_23 rfl (lv_at hl 1 rfl) ?_
        refine lv_aload_n hE.1 hE.2.1 dX8_retell_24 rfl (lv_at hl 2 rfl) ?_
        refine x_get (x := .ref (ad 74)) hE hK hP 73 (Nat.lt_of_lt_of_le (by decide) hNN) (xG_5 rfl) rfl hin5 0 (by decide) mw_446 rfl dX8_retell_25 ?_
        refine lv_iload_n hE.1 hE.2.1 dX8_retell_28 rfl (lv_at hl 0 rfl) ?_
        refine x_lald (j := iI (y2_2)) hE hK hP 74 (Nat.lt_of_lt_of_le (by decide) hNN) (xG_11 rfl) (iI_in (n := 60) (by omega)) dX8_retell_29 ?_
        obtain ⟨z7, hz7, ez7⟩ := lI_of (all2 74 (iI (y2_2)).toNatClampNeg)
        refine x_topl ez7 ?_
        refine x_vi (nn := 1) (As := [.long (lI (z7))]) (rest := []) hE hK hN hP hS (s_X8_retellTurn_0 l D K ad mm N hNN vl2 arl2 all2 hI  (z7) (by omega)) (x_recv hK hP 0 (Nat.lt_of_lt_of_le (by decide) hNN) (xG_8 rfl) rfl) rfl mw_1141 mw_1143 mw_38 mw_114 mw_1144 (by decide +kernel) ⟨by decide, by decide⟩ hl.1 rfl (Nat.le_of_ble_eq_true rfl) ⟨Nat.zero_le _, Nat.zero_le _⟩ dX8_retell_30 (fun r8 v8 ar8 al8 H locs hq8 hP hS => ?_)
        obtain ⟨⟨z8, hz8, rfl⟩, hI, hq8⟩ := hq8
        have hI : XI v8 := hI
        refine lv_istore_n (lv' := [(3, .int (iI (z8))), (2, .int (iI (y2_2))), (0, .ref (ad 0)), (1, .ref (ad 73))]) hE.1 hE.2.1 dX8_retell_33 rfl hl (by decide) rfl (fun ls hl => ?_)
        refine lv_iload_n hE.1 hE.2.1 dX8_retell_34 rfl (lv_at hl 0 rfl) ?_
        refine s_if_eq (a := z8) (tgt := 40) hE.1 hE.2.1 (by omega) dX8_retell_35 (by decide) (fun c9 => ?_) (fun c9 => ?_)
        · skip
          refine lv_iinc (v := iI (y2_2 + 1)) (lv' := [(2, .int (iI (y2_2 + 1))), (3, .int (iI (z8))), (0, .ref (ad 0)), (1, .ref (ad 73))]) hE.1 hE.2.1 dX8_retell_40 hl (k := 1) rfl ((iI_add (y2_2) (1)).trans (congrArg iI (by omega))) (by decide) rfl (fun ls hl => ?_)
          refine lv_goto (tgt := 9) hE.1 hE.2.1 dX8_retell_43 (by decide) ?_
          exact ih2 _ (by omega) (y2_2 + 1) v8 ar8 al8 _ _ _ rfl (by omega) hI (fun i j h => ((hq8 i j (fun q => h (mem_sub (by decide) q))).trans (hfr2 i j h))) hP hS (lv_sub hl [0, 2, 3] rfl)
        · skip
          refine lv_iload_n hE.1 hE.2.1 dX8_retell_38 rfl (lv_at hl 0 rfl) ?_
          exact kr _ _ _ _ _ _ _ _ rfl ⟨⟨z8, by omega, rfl⟩, hI, fun i j h => ((hq8 i j (fun q => h (mem_sub (by decide) q))).trans ((hfr2 i j (fun q => h (mem_sub (by decide) q))).trans (hq1 i j (fun q => h (mem_sub (by decide) q)))))⟩ hP hS dX8_retell_39
  exact loop2 _ (0) v1 ar1 al1 _ _ _ rfl (by omega) hI (fun _ _ _ => rfl) hP hS hl

theorem dX8_judge_0 : decode cX8_judge 0 = .ok (.aload_n 0, 1) := by decide +kernel
theorem dX8_judge_1 : decode cX8_judge 1 = .ok (.iload_n 1, 1) := by decide +kernel
theorem dX8_judge_2 : decode cX8_judge 2 = .ok (.invokevirtual 264, 3) := by decide +kernel
theorem dX8_judge_5 : decode cX8_judge 5 = .ok (.istore_n 2, 1) := by decide +kernel
theorem dX8_judge_6 : decode cX8_judge 6 = .ok (.iload_n 2, 1) := by decide +kernel
theorem dX8_judge_7 : decode cX8_judge 7 = .ok (.ifCond .eq 5, 3) := by decide +kernel
theorem dX8_judge_10 : decode cX8_judge 10 = .ok (.iload_n 2, 1) := by decide +kernel
theorem dX8_judge_11 : decode cX8_judge 11 = .ok (.ireturn, 1) := by decide +kernel
theorem dX8_judge_12 : decode cX8_judge 12 = .ok (.aload_n 0, 1) := by decide +kernel
theorem dX8_judge_13 : decode cX8_judge 13 = .ok (.aload_n 0, 1) := by decide +kernel
theorem dX8_judge_14 : decode cX8_judge 14 = .ok (.getfield 63, 3) := by decide +kernel
theorem dX8_judge_17 : decode cX8_judge 17 = .ok (.iload_n 1, 1) := by decide +kernel
theorem dX8_judge_18 : decode cX8_judge 18 = .ok (.aaload, 1) := by decide +kernel
theorem dX8_judge_19 : decode cX8_judge 19 = .ok (.invokevirtual 267, 3) := by decide +kernel
theorem dX8_judge_22 : decode cX8_judge 22 = .ok (.pop, 1) := by decide +kernel
theorem dX8_judge_23 : decode cX8_judge 23 = .ok (.aload_n 0, 1) := by decide +kernel
theorem dX8_judge_24 : decode cX8_judge 24 = .ok (.getfield 35, 3) := by decide +kernel
theorem dX8_judge_27 : decode cX8_judge 27 = .ok (.getfield 167, 3) := by decide +kernel
theorem dX8_judge_30 : decode cX8_judge 30 = .ok (.ireturn, 1) := by decide +kernel
set_option maxHeartbeats 4000000 in
set_option maxRecDepth 100000 in
theorem s_X8_judge_0 (l : Launch) (D : va_G) (K : Nat → ClassId) (ad : Nat → Nat) (mm : Option Nat) (N : Nat) (hNN : 132 ≤ N) (v ar : sI) (al : sL) (hI : XI v) (z_1 : Int) (hz_1 : -2147483648 ≤ z_1 ∧ z_1 ≤ 2147483647) : Met l yX8_judge (wM yX8_judge cX8_judge 3 (some .int)) (rmD 5) (va_Pc [.ref (ad 0), .int (iI (z_1))] (wPre D K ad (xG ad K mm) N v ar al)) (va_Qi (fun (r : Int32) (u : sT) => (∃ z : Int, (-2147483648 ≤ z ∧ z ≤ 2147483647) ∧ r = iI z) ∧ XI u.1 ∧ (∀ i j : Nat, (i, j) ∉ ([(31, 2), (31, 3), (31, 4), (31, 5), (31, 8), (31, 9)] : List (Nat × Nat)) → u.1 i j = v i j)) (wB D ad (xG ad K mm) N) (inW ad N)) 0 0 (inW ad N) := by
  refine s_metI (by decide) (Nat.le_of_ble_eq_true rfl) ?_
  intro p e s m below meth c ls args Q hE hB hl kr
  have hE : CallFix p m c cX8_judge 3 s args tbG "TaleCourt" := hE
  obtain ⟨hP, hK, hN⟩ := hB
  have hS : va_S (inW ad N) s.heap s.heap [] := va_S.rf
  have hl : lv_has ls 3 [(0, .ref (ad 0)), (1, .int (iI (z_1)))] := hl
  refine lv_aload_n hE.1 hE.2.1 dX8_judge_0 rfl (lv_at hl 0 rfl) ?_
  refine lv_iload_n hE.1 hE.2.1 dX8_judge_1 rfl (lv_at hl 1 rfl) ?_
  refine x_vp (nn := 1) (As := [.int (iI (z_1))]) (rest := []) hE (s_X8_slotBar_0 l D K ad mm N hNN v ar al hI  (z_1) (by omega)) wPre_blind (wPre_now hK hN hP) (x_recv hK hP 0 (Nat.lt_of_lt_of_le (by decide) hNN) (xG_8 rfl) rfl) rfl mw_1130 mw_1132 mw_36 mw_114 mw_1133 (by decide +kernel) ⟨by decide, by decide⟩ hl.1 rfl (Nat.le_of_ble_eq_true rfl) ⟨Nat.zero_le _, Nat.zero_le _⟩ dX8_judge_2 (fun r1 hr1 => ?_)
  obtain ⟨z1, hz1, rfl⟩ := hr1
  refine lv_istore_n (lv' := [(2, .int (iI (z1))), (0, .ref (ad 0)), (1, .int (iI (z_1)))]) hE.1 hE.2.1 dX8_judge_5 rfl hl (by decide) rfl (fun ls hl => ?_)
  refine lv_iload_n hE.1 hE.2.1 dX8_judge_6 rfl (lv_at hl 0 rfl) ?_
  refine s_if_eq (a := z1) (tgt := 12) hE.1 hE.2.1 (by omega) dX8_judge_7 (by decide) (fun c2 => ?_) (fun c2 => ?_)
  · skip
    refine lv_aload_n hE.1 hE.2.1 dX8_judge_12 rfl (lv_at hl 1 rfl) ?_
    refine lv_aload_n hE.1 hE.2.1 dX8_judge_13 rfl (lv_at hl 1 rfl) ?_
    refine x_get (x := .ref (ad 65)) hE hK hP 0 (Nat.lt_of_lt_of_le (by decide) hNN) (xG_8 rfl) rfl hin8 8 (by decide) mw_488 rfl dX8_judge_14 ?_
    refine lv_iload_n hE.1 hE.2.1 dX8_judge_17 rfl (lv_at hl 2 rfl) ?_
    rcases (show z_1 = 0 ∨ z_1 = 1 ∨ z_1 = 2 ∨ z_1 = 3 by omega) with rfl | rfl | rfl | rfl
    · skip
      refine x_aald (r := .ref (ad 67)) hE hK hP 65 4 (Nat.lt_of_lt_of_le (by decide) hNN) (xG_13 rfl) rfl (by unfold vp_in; decide) rfl dX8_judge_18 ?_
      refine x_vi (nn := 1) (As := [.ref (ad 67)]) (rest := []) hE hK hN hP hS (s_X8_retell_0_67 l D K ad mm N hNN v ar al hI  ) (x_recv hK hP 0 (Nat.lt_of_lt_of_le (by decide) hNN) (xG_8 rfl) rfl) rfl mw_1137 mw_1139 mw_37 mw_114 mw_1140 (by decide +kernel) ⟨by decide, by decide⟩ hl.1 rfl (Nat.le_of_ble_eq_true rfl) ⟨Nat.zero_le _, Nat.zero_le _⟩ dX8_judge_19 (fun r3 v3 ar3 al3 H locs hq3 hP hS => ?_)
      obtain ⟨⟨z3, hz3, rfl⟩, hI, hq3⟩ := hq3
      have hI : XI v3 := hI
      refine lv_pop hE.1 hE.2.1 dX8_judge_22 rfl ?_
      refine lv_aload_n hE.1 hE.2.1 dX8_judge_23 rfl (lv_at hl 1 rfl) ?_
      refine x_get (x := .ref (ad 31)) hE hK hP 0 (Nat.lt_of_lt_of_le (by decide) hNN) (xG_8 rfl) rfl hin8 4 (by decide) mw_484 rfl dX8_judge_24 ?_
      obtain ⟨z4, hz4, ez4⟩ := XI_get hI 31 2 0 18 (by decide)
      refine x_get (x := .int (v3 31 2)) hE hK hP 31 (Nat.lt_of_lt_of_le (by decide) hNN) (xG_7 rfl) rfl hin7 2 (by decide) mw_304 rfl dX8_judge_27 ?_
      refine x_top (y := iI (z4)) ez4 ?_
      exact kr _ _ _ _ _ _ _ _ rfl ⟨⟨z4, by omega, rfl⟩, hI, fun i j h => (hq3 i j (fun q => h (mem_sub (by decide) q)))⟩ hP hS dX8_judge_30
    · skip
      refine x_aald (r := .ref (ad 69)) hE hK hP 65 4 (Nat.lt_of_lt_of_le (by decide) hNN) (xG_13 rfl) rfl (by unfold vp_in; decide) rfl dX8_judge_18 ?_
      refine x_vi (nn := 1) (As := [.ref (ad 69)]) (rest := []) hE hK hN hP hS (s_X8_retell_0_69 l D K ad mm N hNN v ar al hI  ) (x_recv hK hP 0 (Nat.lt_of_lt_of_le (by decide) hNN) (xG_8 rfl) rfl) rfl mw_1137 mw_1139 mw_37 mw_114 mw_1140 (by decide +kernel) ⟨by decide, by decide⟩ hl.1 rfl (Nat.le_of_ble_eq_true rfl) ⟨Nat.zero_le _, Nat.zero_le _⟩ dX8_judge_19 (fun r5 v5 ar5 al5 H locs hq5 hP hS => ?_)
      obtain ⟨⟨z5, hz5, rfl⟩, hI, hq5⟩ := hq5
      have hI : XI v5 := hI
      refine lv_pop hE.1 hE.2.1 dX8_judge_22 rfl ?_
      refine lv_aload_n hE.1 hE.2.1 dX8_judge_23 rfl (lv_at hl 1 rfl) ?_
      refine x_get (x := .ref (ad 31)) hE hK hP 0 (Nat.lt_of_lt_of_le (by decide) hNN) (xG_8 rfl) rfl hin8 4 (by decide) mw_484 rfl dX8_judge_24 ?_
      obtain ⟨z6, hz6, ez6⟩ := XI_get hI 31 2 0 18 (by decide)
      refine x_get (x := .int (v5 31 2)) hE hK hP 31 (Nat.lt_of_lt_of_le (by decide) hNN) (xG_7 rfl) rfl hin7 2 (by decide) mw_304 rfl dX8_judge_27 ?_
      refine x_top (y := iI (z6)) ez6 ?_
      exact kr _ _ _ _ _ _ _ _ rfl ⟨⟨z6, by omega, rfl⟩, hI, fun i j h => (hq5 i j (fun q => h (mem_sub (by decide) q)))⟩ hP hS dX8_judge_30
    · skip
      refine x_aald (r := .ref (ad 71)) hE hK hP 65 4 (Nat.lt_of_lt_of_le (by decide) hNN) (xG_13 rfl) rfl (by unfold vp_in; decide) rfl dX8_judge_18 ?_
      refine x_vi (nn := 1) (As := [.ref (ad 71)]) (rest := []) hE hK hN hP hS (s_X8_retell_0_71 l D K ad mm N hNN v ar al hI  ) (x_recv hK hP 0 (Nat.lt_of_lt_of_le (by decide) hNN) (xG_8 rfl) rfl) rfl mw_1137 mw_1139 mw_37 mw_114 mw_1140 (by decide +kernel) ⟨by decide, by decide⟩ hl.1 rfl (Nat.le_of_ble_eq_true rfl) ⟨Nat.zero_le _, Nat.zero_le _⟩ dX8_judge_19 (fun r7 v7 ar7 al7 H locs hq7 hP hS => ?_)
      obtain ⟨⟨z7, hz7, rfl⟩, hI, hq7⟩ := hq7
      have hI : XI v7 := hI
      refine lv_pop hE.1 hE.2.1 dX8_judge_22 rfl ?_
      refine lv_aload_n hE.1 hE.2.1 dX8_judge_23 rfl (lv_at hl 1 rfl) ?_
      refine x_get (x := .ref (ad 31)) hE hK hP 0 (Nat.lt_of_lt_of_le (by decide) hNN) (xG_8 rfl) rfl hin8 4 (by decide) mw_484 rfl dX8_judge_24 ?_
      obtain ⟨z8, hz8, ez8⟩ := XI_get hI 31 2 0 18 (by decide)
      refine x_get (x := .int (v7 31 2)) hE hK hP 31 (Nat.lt_of_lt_of_le (by decide) hNN) (xG_7 rfl) rfl hin7 2 (by decide) mw_304 rfl dX8_judge_27 ?_
      refine x_top (y := iI (z8)) ez8 ?_
      exact kr _ _ _ _ _ _ _ _ rfl ⟨⟨z8, by omega, rfl⟩, hI, fun i j h => (hq7 i j (fun q => h (mem_sub (by decide) q)))⟩ hP hS dX8_judge_30
    · skip
      refine x_aald (r := .ref (ad 73)) hE hK hP 65 4 (Nat.lt_of_lt_of_le (by decide) hNN) (xG_13 rfl) rfl (by unfold vp_in; decide) rfl dX8_judge_18 ?_
      refine x_vi (nn := 1) (As := [.ref (ad 73)]) (rest := []) hE hK hN hP hS (s_X8_retell_0_73 l D K ad mm N hNN v ar al hI  ) (x_recv hK hP 0 (Nat.lt_of_lt_of_le (by decide) hNN) (xG_8 rfl) rfl) rfl mw_1137 mw_1139 mw_37 mw_114 mw_1140 (by decide +kernel) ⟨by decide, by decide⟩ hl.1 rfl (Nat.le_of_ble_eq_true rfl) ⟨Nat.zero_le _, Nat.zero_le _⟩ dX8_judge_19 (fun r9 v9 ar9 al9 H locs hq9 hP hS => ?_)
      obtain ⟨⟨z9, hz9, rfl⟩, hI, hq9⟩ := hq9
      have hI : XI v9 := hI
      refine lv_pop hE.1 hE.2.1 dX8_judge_22 rfl ?_
      refine lv_aload_n hE.1 hE.2.1 dX8_judge_23 rfl (lv_at hl 1 rfl) ?_
      refine x_get (x := .ref (ad 31)) hE hK hP 0 (Nat.lt_of_lt_of_le (by decide) hNN) (xG_8 rfl) rfl hin8 4 (by decide) mw_484 rfl dX8_judge_24 ?_
      obtain ⟨z10, hz10, ez10⟩ := XI_get hI 31 2 0 18 (by decide)
      refine x_get (x := .int (v9 31 2)) hE hK hP 31 (Nat.lt_of_lt_of_le (by decide) hNN) (xG_7 rfl) rfl hin7 2 (by decide) mw_304 rfl dX8_judge_27 ?_
      refine x_top (y := iI (z10)) ez10 ?_
      exact kr _ _ _ _ _ _ _ _ rfl ⟨⟨z10, by omega, rfl⟩, hI, fun i j h => (hq9 i j (fun q => h (mem_sub (by decide) q)))⟩ hP hS dX8_judge_30
  · skip
    refine lv_iload_n hE.1 hE.2.1 dX8_judge_10 rfl (lv_at hl 0 rfl) ?_
    exact kr _ _ _ _ _ _ _ _ rfl ⟨⟨z1, by omega, rfl⟩, hI, fun i j h => rfl⟩ hP hS dX8_judge_11

theorem dX8_verdict_0 : decode cX8_verdict 0 = .ok (.aload_n 0, 1) := by decide +kernel
theorem dX8_verdict_1 : decode cX8_verdict 1 = .ok (.iload_n 1, 1) := by decide +kernel
theorem dX8_verdict_2 : decode cX8_verdict 2 = .ok (.invokevirtual 264, 3) := by decide +kernel
theorem dX8_verdict_5 : decode cX8_verdict 5 = .ok (.istore_n 2, 1) := by decide +kernel
theorem dX8_verdict_6 : decode cX8_verdict 6 = .ok (.iload_n 2, 1) := by decide +kernel
theorem dX8_verdict_7 : decode cX8_verdict 7 = .ok (.ifCond .eq 7, 3) := by decide +kernel
theorem dX8_verdict_10 : decode cX8_verdict 10 = .ok (.iload_n 2, 1) := by decide +kernel
theorem dX8_verdict_11 : decode cX8_verdict 11 = .ok (.goto 13, 3) := by decide +kernel
theorem dX8_verdict_14 : decode cX8_verdict 14 = .ok (.aload_n 0, 1) := by decide +kernel
theorem dX8_verdict_15 : decode cX8_verdict 15 = .ok (.aload_n 0, 1) := by decide +kernel
theorem dX8_verdict_16 : decode cX8_verdict 16 = .ok (.getfield 63, 3) := by decide +kernel
theorem dX8_verdict_19 : decode cX8_verdict 19 = .ok (.iload_n 1, 1) := by decide +kernel
theorem dX8_verdict_20 : decode cX8_verdict 20 = .ok (.aaload, 1) := by decide +kernel
theorem dX8_verdict_21 : decode cX8_verdict 21 = .ok (.invokevirtual 267, 3) := by decide +kernel
theorem dX8_verdict_24 : decode cX8_verdict 24 = .ok (.ireturn, 1) := by decide +kernel
set_option maxHeartbeats 4000000 in
set_option maxRecDepth 100000 in
theorem s_X8_verdict_0 (l : Launch) (D : va_G) (K : Nat → ClassId) (ad : Nat → Nat) (mm : Option Nat) (N : Nat) (hNN : 132 ≤ N) (v ar : sI) (al : sL) (hI : XI v) (z_1 : Int) (hz_1 : -2147483648 ≤ z_1 ∧ z_1 ≤ 2147483647) : Met l yX8_verdict (wM yX8_verdict cX8_verdict 3 (some .int)) (rmD 5) (va_Pc [.ref (ad 0), .int (iI (z_1))] (wPre D K ad (xG ad K mm) N v ar al)) (va_Qi (fun (r : Int32) (u : sT) => (∃ z : Int, (-2147483648 ≤ z ∧ z ≤ 2147483647) ∧ r = iI z) ∧ XI u.1 ∧ (∀ i j : Nat, (i, j) ∉ ([(31, 2), (31, 3), (31, 4), (31, 5), (31, 8), (31, 9)] : List (Nat × Nat)) → u.1 i j = v i j)) (wB D ad (xG ad K mm) N) (inW ad N)) 0 0 (inW ad N) := by
  refine s_metI (by decide) (Nat.le_of_ble_eq_true rfl) ?_
  intro p e s m below meth c ls args Q hE hB hl kr
  have hE : CallFix p m c cX8_verdict 3 s args tbG "TaleCourt" := hE
  obtain ⟨hP, hK, hN⟩ := hB
  have hS : va_S (inW ad N) s.heap s.heap [] := va_S.rf
  have hl : lv_has ls 3 [(0, .ref (ad 0)), (1, .int (iI (z_1)))] := hl
  refine lv_aload_n hE.1 hE.2.1 dX8_verdict_0 rfl (lv_at hl 0 rfl) ?_
  refine lv_iload_n hE.1 hE.2.1 dX8_verdict_1 rfl (lv_at hl 1 rfl) ?_
  refine x_vp (nn := 1) (As := [.int (iI (z_1))]) (rest := []) hE (s_X8_slotBar_0 l D K ad mm N hNN v ar al hI  (z_1) (by omega)) wPre_blind (wPre_now hK hN hP) (x_recv hK hP 0 (Nat.lt_of_lt_of_le (by decide) hNN) (xG_8 rfl) rfl) rfl mw_1130 mw_1132 mw_36 mw_114 mw_1133 (by decide +kernel) ⟨by decide, by decide⟩ hl.1 rfl (Nat.le_of_ble_eq_true rfl) ⟨Nat.zero_le _, Nat.zero_le _⟩ dX8_verdict_2 (fun r1 hr1 => ?_)
  obtain ⟨z1, hz1, rfl⟩ := hr1
  refine lv_istore_n (lv' := [(2, .int (iI (z1))), (0, .ref (ad 0)), (1, .int (iI (z_1)))]) hE.1 hE.2.1 dX8_verdict_5 rfl hl (by decide) rfl (fun ls hl => ?_)
  refine lv_iload_n hE.1 hE.2.1 dX8_verdict_6 rfl (lv_at hl 0 rfl) ?_
  refine s_if_eq (a := z1) (tgt := 14) hE.1 hE.2.1 (by omega) dX8_verdict_7 (by decide) (fun c2 => ?_) (fun c2 => ?_)
  · skip
    refine lv_aload_n hE.1 hE.2.1 dX8_verdict_14 rfl (lv_at hl 1 rfl) ?_
    refine lv_aload_n hE.1 hE.2.1 dX8_verdict_15 rfl (lv_at hl 1 rfl) ?_
    refine x_get (x := .ref (ad 65)) hE hK hP 0 (Nat.lt_of_lt_of_le (by decide) hNN) (xG_8 rfl) rfl hin8 8 (by decide) mw_488 rfl dX8_verdict_16 ?_
    refine lv_iload_n hE.1 hE.2.1 dX8_verdict_19 rfl (lv_at hl 2 rfl) ?_
    rcases (show z_1 = 0 ∨ z_1 = 1 ∨ z_1 = 2 ∨ z_1 = 3 by omega) with rfl | rfl | rfl | rfl
    · skip
      refine x_aald (r := .ref (ad 67)) hE hK hP 65 4 (Nat.lt_of_lt_of_le (by decide) hNN) (xG_13 rfl) rfl (by unfold vp_in; decide) rfl dX8_verdict_20 ?_
      refine x_vi (nn := 1) (As := [.ref (ad 67)]) (rest := []) hE hK hN hP hS (s_X8_retell_0_67 l D K ad mm N hNN v ar al hI  ) (x_recv hK hP 0 (Nat.lt_of_lt_of_le (by decide) hNN) (xG_8 rfl) rfl) rfl mw_1137 mw_1139 mw_37 mw_114 mw_1140 (by decide +kernel) ⟨by decide, by decide⟩ hl.1 rfl (Nat.le_of_ble_eq_true rfl) ⟨Nat.zero_le _, Nat.zero_le _⟩ dX8_verdict_21 (fun r3 v3 ar3 al3 H locs hq3 hP hS => ?_)
      obtain ⟨⟨z3, hz3, rfl⟩, hI, hq3⟩ := hq3
      have hI : XI v3 := hI
      exact kr _ _ _ _ _ _ _ _ rfl ⟨⟨z3, by omega, rfl⟩, hI, fun i j h => (hq3 i j (fun q => h (mem_sub (by decide) q)))⟩ hP hS dX8_verdict_24
    · skip
      refine x_aald (r := .ref (ad 69)) hE hK hP 65 4 (Nat.lt_of_lt_of_le (by decide) hNN) (xG_13 rfl) rfl (by unfold vp_in; decide) rfl dX8_verdict_20 ?_
      refine x_vi (nn := 1) (As := [.ref (ad 69)]) (rest := []) hE hK hN hP hS (s_X8_retell_0_69 l D K ad mm N hNN v ar al hI  ) (x_recv hK hP 0 (Nat.lt_of_lt_of_le (by decide) hNN) (xG_8 rfl) rfl) rfl mw_1137 mw_1139 mw_37 mw_114 mw_1140 (by decide +kernel) ⟨by decide, by decide⟩ hl.1 rfl (Nat.le_of_ble_eq_true rfl) ⟨Nat.zero_le _, Nat.zero_le _⟩ dX8_verdict_21 (fun r4 v4 ar4 al4 H locs hq4 hP hS => ?_)
      obtain ⟨⟨z4, hz4, rfl⟩, hI, hq4⟩ := hq4
      have hI : XI v4 := hI
      exact kr _ _ _ _ _ _ _ _ rfl ⟨⟨z4, by omega, rfl⟩, hI, fun i j h => (hq4 i j (fun q => h (mem_sub (by decide) q)))⟩ hP hS dX8_verdict_24
    · skip
      refine x_aald (r := .ref (ad 71)) hE hK hP 65 4 (Nat.lt_of_lt_of_le (by decide) hNN) (xG_13 rfl) rfl (by unfold vp_in; decide) rfl dX8_verdict_20 ?_
      refine x_vi (nn := 1) (As := [.ref (ad 71)]) (rest := []) hE hK hN hP hS (s_X8_retell_0_71 l D K ad mm N hNN v ar al hI  ) (x_recv hK hP 0 (Nat.lt_of_lt_of_le (by decide) hNN) (xG_8 rfl) rfl) rfl mw_1137 mw_1139 mw_37 mw_114 mw_1140 (by decide +kernel) ⟨by decide, by decide⟩ hl.1 rfl (Nat.le_of_ble_eq_true rfl) ⟨Nat.zero_le _, Nat.zero_le _⟩ dX8_verdict_21 (fun r5 v5 ar5 al5 H locs hq5 hP hS => ?_)
      obtain ⟨⟨z5, hz5, rfl⟩, hI, hq5⟩ := hq5
      have hI : XI v5 := hI
      exact kr _ _ _ _ _ _ _ _ rfl ⟨⟨z5, by omega, rfl⟩, hI, fun i j h => (hq5 i j (fun q => h (mem_sub (by decide) q)))⟩ hP hS dX8_verdict_24
    · skip
      refine x_aald (r := .ref (ad 73)) hE hK hP 65 4 (Nat.lt_of_lt_of_le (by decide) hNN) (xG_13 rfl) rfl (by unfold vp_in; decide) rfl dX8_verdict_20 ?_
      refine x_vi (nn := 1) (As := [.ref (ad 73)]) (rest := []) hE hK hN hP hS (s_X8_retell_0_73 l D K ad mm N hNN v ar al hI  ) (x_recv hK hP 0 (Nat.lt_of_lt_of_le (by decide) hNN) (xG_8 rfl) rfl) rfl mw_1137 mw_1139 mw_37 mw_114 mw_1140 (by decide +kernel) ⟨by decide, by decide⟩ hl.1 rfl (Nat.le_of_ble_eq_true rfl) ⟨Nat.zero_le _, Nat.zero_le _⟩ dX8_verdict_21 (fun r6 v6 ar6 al6 H locs hq6 hP hS => ?_)
      obtain ⟨⟨z6, hz6, rfl⟩, hI, hq6⟩ := hq6
      have hI : XI v6 := hI
      exact kr _ _ _ _ _ _ _ _ rfl ⟨⟨z6, by omega, rfl⟩, hI, fun i j h => (hq6 i j (fun q => h (mem_sub (by decide) q)))⟩ hP hS dX8_verdict_24
  · skip
    refine lv_iload_n hE.1 hE.2.1 dX8_verdict_10 rfl (lv_at hl 0 rfl) ?_
    refine lv_goto (tgt := 24) hE.1 hE.2.1 dX8_verdict_11 (by decide) ?_
    exact kr _ _ _ _ _ _ _ _ rfl ⟨⟨z1, by omega, rfl⟩, hI, fun i j h => rfl⟩ hP hS dX8_verdict_24

theorem dX5_numberAt_0 : decode cX5_numberAt 0 = .ok (.iload_n 1, 1) := by decide +kernel
theorem dX5_numberAt_1 : decode cX5_numberAt 1 = .ok (.ifCond .lt 26, 3) := by decide +kernel
theorem dX5_numberAt_4 : decode cX5_numberAt 4 = .ok (.iload_n 1, 1) := by decide +kernel
theorem dX5_numberAt_5 : decode cX5_numberAt 5 = .ok (.aload_n 0, 1) := by decide +kernel
theorem dX5_numberAt_6 : decode cX5_numberAt 6 = .ok (.getfield 15, 3) := by decide +kernel
theorem dX5_numberAt_9 : decode cX5_numberAt 9 = .ok (.if_icmp .ge 18, 3) := by decide +kernel
theorem dX5_numberAt_12 : decode cX5_numberAt 12 = .ok (.iload_n 1, 1) := by decide +kernel
theorem dX5_numberAt_13 : decode cX5_numberAt 13 = .ok (.bipush 60, 2) := by decide +kernel
theorem dX5_numberAt_15 : decode cX5_numberAt 15 = .ok (.if_icmp .ge 12, 3) := by decide +kernel
theorem dX5_numberAt_18 : decode cX5_numberAt 18 = .ok (.aload_n 0, 1) := by decide +kernel
theorem dX5_numberAt_19 : decode cX5_numberAt 19 = .ok (.getfield 9, 3) := by decide +kernel
theorem dX5_numberAt_22 : decode cX5_numberAt 22 = .ok (.iload_n 1, 1) := by decide +kernel
theorem dX5_numberAt_23 : decode cX5_numberAt 23 = .ok (.laload, 1) := by decide +kernel
theorem dX5_numberAt_24 : decode cX5_numberAt 24 = .ok (.goto 6, 3) := by decide +kernel
theorem dX5_numberAt_27 : decode cX5_numberAt 27 = .ok (.ldc2_w 28, 3) := by decide +kernel
theorem dX5_numberAt_30 : decode cX5_numberAt 30 = .ok (.lreturn, 1) := by decide +kernel
set_option maxHeartbeats 4000000 in
set_option maxRecDepth 100000 in
theorem s_X5_numberAt_67 (l : Launch) (D : va_G) (K : Nat → ClassId) (ad : Nat → Nat) (mm : Option Nat) (N : Nat) (hNN : 132 ≤ N) (v ar : sI) (al : sL) (hI : XI v) (z_1 : Int) (hz_1 : -2147483648 ≤ z_1 ∧ z_1 ≤ 2147483647) : Met l yX5_numberAt (wM yX5_numberAt cX5_numberAt 2 (some .long)) (rmD 0) (va_Pc [.ref (ad 67), .int (iI (z_1))] (wPre D K ad (xG ad K mm) N v ar al)) (vp_Sl (fun r => ∃ z : Int, (-9223372036854775808 ≤ z ∧ z ≤ 9223372036854775807) ∧ r = lI z)) 0 0 (fun _ => False) := by
  refine s_metL (by decide) (Nat.le_of_ble_eq_true rfl) ?_
  intro p e s m below meth c ls args Q hE hB hl kr
  have hE : CallFix p m c cX5_numberAt 2 s args tbG "TaleCourt$Row" := hE
  obtain ⟨hP, hK, hN⟩ := hB
  have hl : lv_has ls 2 [(0, .ref (ad 67)), (1, .int (iI (z_1)))] := hl
  refine lv_iload_n hE.1 hE.2.1 dX5_numberAt_0 rfl (lv_at hl 1 rfl) ?_
  refine s_if_lt (a := z_1) (tgt := 27) hE.1 hE.2.1 (by omega) dX5_numberAt_1 (by decide) (fun c1 => ?_) (fun c1 => ?_)
  · skip
    refine lv_ldc2 (v := (-1)) hE.1 hE.2.1 hE.2.2.2.1 (hE.2.2.2.2 _ mw_1172) dX5_numberAt_27 ?_
    refine x_topl (y := lI (-1)) (by decide) ?_
    exact kr _ _ _ ⟨-1, by omega, rfl⟩ dX5_numberAt_30
  · skip
    refine lv_iload_n hE.1 hE.2.1 dX5_numberAt_4 rfl (lv_at hl 1 rfl) ?_
    refine lv_aload_n hE.1 hE.2.1 dX5_numberAt_5 rfl (lv_at hl 0 rfl) ?_
    obtain ⟨z2, hz2, ez2⟩ := XI_get hI 67 2 (-1) 60 (by decide)
    refine x_get (x := .int (v 67 2)) hE hK hP 67 (Nat.lt_of_lt_of_le (by decide) hNN) (xG_5 rfl) rfl hin5 2 (by decide) mw_449 rfl dX5_numberAt_6 ?_
    refine x_top (y := iI (z2)) ez2 ?_
    refine s_icmp_ge (a := z_1) (b := z2) (tgt := 27) hE.1 hE.2.1 (by omega) (by omega) dX5_numberAt_9 (by decide) (fun c3 => ?_) (fun c3 => ?_)
    · skip
      refine lv_ldc2 (v := (-1)) hE.1 hE.2.1 hE.2.2.2.1 (hE.2.2.2.2 _ mw_1172) dX5_numberAt_27 ?_
      refine x_topl (y := lI (-1)) (by decide) ?_
      exact kr _ _ _ ⟨-1, by omega, rfl⟩ dX5_numberAt_30
    · skip
      refine lv_iload_n hE.1 hE.2.1 dX5_numberAt_12 rfl (lv_at hl 1 rfl) ?_
      refine lv_bipush (v := iI (60)) hE.1 hE.2.1 dX5_numberAt_13 (by decide) ?_
      refine s_icmp_ge (a := z_1) (b := 60) (tgt := 27) hE.1 hE.2.1 (by omega) (by omega) dX5_numberAt_15 (by decide) (fun c4 => False.elim (by omega)) (fun _ => ?_)
      refine lv_aload_n hE.1 hE.2.1 dX5_numberAt_18 rfl (lv_at hl 0 rfl) ?_
      refine x_get (x := .ref (ad 68)) hE hK hP 67 (Nat.lt_of_lt_of_le (by decide) hNN) (xG_5 rfl) rfl hin5 0 (by decide) mw_445 rfl dX5_numberAt_19 ?_
      refine lv_iload_n hE.1 hE.2.1 dX5_numberAt_22 rfl (lv_at hl 1 rfl) ?_
      refine x_lald (j := iI (z_1)) hE hK hP 68 (Nat.lt_of_lt_of_le (by decide) hNN) (xG_11 rfl) (iI_in (n := 60) (by omega)) dX5_numberAt_23 ?_
      obtain ⟨z6, hz6, ez6⟩ := lI_of (al 68 (iI (z_1)).toNatClampNeg)
      refine x_topl ez6 ?_
      refine lv_goto (tgt := 30) hE.1 hE.2.1 dX5_numberAt_24 (by decide) ?_
      exact kr _ _ _ ⟨z6, by omega, rfl⟩ dX5_numberAt_30

theorem dX0_note_0 : decode cX0_note 0 = .ok (.iload_n 1, 1) := by decide +kernel
theorem dX0_note_1 : decode cX0_note 1 = .ok (.bipush 8, 2) := by decide +kernel
theorem dX0_note_3 : decode cX0_note 3 = .ok (.if_icmp .lt 4, 3) := by decide +kernel
theorem dX0_note_6 : decode cX0_note 6 = .ok (.return_, 1) := by decide +kernel
theorem dX0_note_7 : decode cX0_note 7 = .ok (.aload_n 0, 1) := by decide +kernel
theorem dX0_note_8 : decode cX0_note 8 = .ok (.dup, 1) := by decide +kernel
theorem dX0_note_9 : decode cX0_note 9 = .ok (.getfield 27, 3) := by decide +kernel
theorem dX0_note_12 : decode cX0_note 12 = .ok (.iconst 1, 1) := by decide +kernel
theorem dX0_note_13 : decode cX0_note 13 = .ok (.iload_n 2, 1) := by decide +kernel
theorem dX0_note_14 : decode cX0_note 14 = .ok (.ishl, 1) := by decide +kernel
theorem dX0_note_15 : decode cX0_note 15 = .ok (.iconst 1, 1) := by decide +kernel
theorem dX0_note_16 : decode cX0_note 16 = .ok (.iload_n 3, 1) := by decide +kernel
theorem dX0_note_17 : decode cX0_note 17 = .ok (.ishl, 1) := by decide +kernel
theorem dX0_note_18 : decode cX0_note 18 = .ok (.ior, 1) := by decide +kernel
theorem dX0_note_19 : decode cX0_note 19 = .ok (.ior, 1) := by decide +kernel
theorem dX0_note_20 : decode cX0_note 20 = .ok (.putfield 27, 3) := by decide +kernel
theorem dX0_note_23 : decode cX0_note 23 = .ok (.aload_n 0, 1) := by decide +kernel
theorem dX0_note_24 : decode cX0_note 24 = .ok (.getfield 9, 3) := by decide +kernel
theorem dX0_note_27 : decode cX0_note 27 = .ok (.iload_n 2, 1) := by decide +kernel
theorem dX0_note_28 : decode cX0_note 28 = .ok (.bipush 9, 2) := by decide +kernel
theorem dX0_note_30 : decode cX0_note 30 = .ok (.imul, 1) := by decide +kernel
theorem dX0_note_31 : decode cX0_note 31 = .ok (.iload_n 3, 1) := by decide +kernel
theorem dX0_note_32 : decode cX0_note 32 = .ok (.iadd, 1) := by decide +kernel
theorem dX0_note_33 : decode cX0_note 33 = .ok (.dup2, 1) := by decide +kernel
theorem dX0_note_34 : decode cX0_note 34 = .ok (.iaload, 1) := by decide +kernel
theorem dX0_note_35 : decode cX0_note 35 = .ok (.iconst 1, 1) := by decide +kernel
theorem dX0_note_36 : decode cX0_note 36 = .ok (.iadd, 1) := by decide +kernel
theorem dX0_note_37 : decode cX0_note 37 = .ok (.iastore, 1) := by decide +kernel
theorem dX0_note_38 : decode cX0_note 38 = .ok (.aload_n 0, 1) := by decide +kernel
theorem dX0_note_39 : decode cX0_note 39 = .ok (.getfield 15, 3) := by decide +kernel
theorem dX0_note_42 : decode cX0_note 42 = .ok (.iload_n 3, 1) := by decide +kernel
theorem dX0_note_43 : decode cX0_note 43 = .ok (.dup2, 1) := by decide +kernel
theorem dX0_note_44 : decode cX0_note 44 = .ok (.iaload, 1) := by decide +kernel
theorem dX0_note_45 : decode cX0_note 45 = .ok (.iconst 1, 1) := by decide +kernel
theorem dX0_note_46 : decode cX0_note 46 = .ok (.iload_n 2, 1) := by decide +kernel
theorem dX0_note_47 : decode cX0_note 47 = .ok (.ishl, 1) := by decide +kernel
theorem dX0_note_48 : decode cX0_note 48 = .ok (.ior, 1) := by decide +kernel
theorem dX0_note_49 : decode cX0_note 49 = .ok (.iastore, 1) := by decide +kernel
theorem dX0_note_50 : decode cX0_note 50 = .ok (.aload_n 0, 1) := by decide +kernel
theorem dX0_note_51 : decode cX0_note 51 = .ok (.getfield 18, 3) := by decide +kernel
theorem dX0_note_54 : decode cX0_note 54 = .ok (.iload_n 1, 1) := by decide +kernel
theorem dX0_note_55 : decode cX0_note 55 = .ok (.bipush 9, 2) := by decide +kernel
theorem dX0_note_57 : decode cX0_note 57 = .ok (.imul, 1) := by decide +kernel
theorem dX0_note_58 : decode cX0_note 58 = .ok (.iload_n 3, 1) := by decide +kernel
theorem dX0_note_59 : decode cX0_note 59 = .ok (.iadd, 1) := by decide +kernel
theorem dX0_note_60 : decode cX0_note 60 = .ok (.dup2, 1) := by decide +kernel
theorem dX0_note_61 : decode cX0_note 61 = .ok (.iaload, 1) := by decide +kernel
theorem dX0_note_62 : decode cX0_note 62 = .ok (.iconst 1, 1) := by decide +kernel
theorem dX0_note_63 : decode cX0_note 63 = .ok (.iload_n 2, 1) := by decide +kernel
theorem dX0_note_64 : decode cX0_note 64 = .ok (.ishl, 1) := by decide +kernel
theorem dX0_note_65 : decode cX0_note 65 = .ok (.ior, 1) := by decide +kernel
theorem dX0_note_66 : decode cX0_note 66 = .ok (.iastore, 1) := by decide +kernel
theorem dX0_note_67 : decode cX0_note 67 = .ok (.return_, 1) := by decide +kernel
set_option maxHeartbeats 4000000 in
set_option maxRecDepth 100000 in
theorem s_X0_note_39 (l : Launch) (D : va_G) (K : Nat → ClassId) (ad : Nat → Nat) (mm : Option Nat) (N : Nat) (hNN : 132 ≤ N) (v ar : sI) (al : sL) (hI : XI v) (z_1 : Int) (hz_1 : 0 ≤ z_1 ∧ z_1 ≤ 2147483647) (z_2 : Int) (hz_2 : 0 ≤ z_2 ∧ z_2 ≤ 8) (z_3 : Int) (hz_3 : 0 ≤ z_3 ∧ z_3 ≤ 8) : Met l yX0_note (wM yX0_note cX0_note 4 none) (rmD 0) (va_Pc [.ref (ad 39), .int (iI (z_1)), .int (iI (z_2)), .int (iI (z_3))] (wPre D K ad (xG ad K mm) N v ar al)) (va_Qv (fun u : sT => XI u.1 ∧ (∀ i j : Nat, (i, j) ∉ ([(39, 0)] : List (Nat × Nat)) → u.1 i j = v i j)) (wB D ad (xG ad K mm) N) (inW ad N)) 0 0 (inW ad N) := by
  refine s_metV (by decide) (Nat.le_of_ble_eq_true rfl) ?_
  intro p e s m below meth c ls args Q hE hB hl kr
  have hE : CallFix p m c cX0_note 4 s args tbG "TaleCourt$Claims" := hE
  obtain ⟨hP, hK, hN⟩ := hB
  have hS : va_S (inW ad N) s.heap s.heap [] := va_S.rf
  have hl : lv_has ls 4 [(0, .ref (ad 39)), (1, .int (iI (z_1))), (2, .int (iI (z_2))), (3, .int (iI (z_3)))] := hl
  refine lv_iload_n hE.1 hE.2.1 dX0_note_0 rfl (lv_at hl 1 rfl) ?_
  refine lv_bipush (v := iI (8)) hE.1 hE.2.1 dX0_note_1 (by decide) ?_
  refine s_icmp_lt (a := z_1) (b := 8) (tgt := 7) hE.1 hE.2.1 (by omega) (by omega) dX0_note_3 (by decide) (fun c1 => ?_) (fun c1 => ?_)
  · skip
    refine lv_aload_n hE.1 hE.2.1 dX0_note_7 rfl (lv_at hl 0 rfl) ?_
    refine lv_dup hE.1 hE.2.1 dX0_note_8 rfl ?_
    obtain ⟨z2, hz2, ez2⟩ := iI_of (v 39 0)
    refine x_get (x := .int (v 39 0)) hE hK hP 39 (Nat.lt_of_lt_of_le (by decide) hNN) (xG_0 rfl) rfl hin0 0 (by decide) mw_358 rfl dX0_note_9 ?_
    refine x_top (y := iI (z2)) ez2 ?_
    refine lv_iconst (v := iI (1)) hE.1 hE.2.1 dX0_note_12 (by decide) ?_
    refine lv_iload_n hE.1 hE.2.1 dX0_note_13 rfl (lv_at hl 2 rfl) ?_
    refine lv_ishl hE.1 hE.2.1 dX0_note_14 ?_
    obtain ⟨z3, hz3, ez3⟩ := iI_shl1 (a := z_2) (by omega)
    refine x_top ez3 ?_
    refine lv_iconst (v := iI (1)) hE.1 hE.2.1 dX0_note_15 (by decide) ?_
    refine lv_iload_n hE.1 hE.2.1 dX0_note_16 rfl (lv_at hl 3 rfl) ?_
    refine lv_ishl hE.1 hE.2.1 dX0_note_17 ?_
    obtain ⟨z4, hz4, ez4⟩ := iI_shl1 (a := z_3) (by omega)
    refine x_top ez4 ?_
    refine lv_ior hE.1 hE.2.1 dX0_note_18 ?_
    obtain ⟨z5, hz5, ez5⟩ := iI_or (a := z3) (b := z4) (by omega) (by omega)
    refine x_top ez5 ?_
    refine lv_ior hE.1 hE.2.1 dX0_note_19 ?_
    obtain ⟨z6, hz6, ez6⟩ := iI_of (iI (z2) ||| iI (z5))
    refine x_top ez6 ?_
    refine x_put (x := iI (z6)) hE hK hN hP hS 39 (Nat.lt_of_lt_of_le (by decide) hNN) (xG_0 rfl) rfl hin0 tyX0 tyX0_ok nmX0 0 (by decide) mw_358 rfl rfl rfl (Nat.le_of_ble_eq_true rfl) (xG_0 rfl) dX0_note_20 (fun v7 H locs hv7 hP hS => ?_)
    have hI := XI_putN hI hv7 (by decide)
    refine lv_aload_n hE.1 hE.2.1 dX0_note_23 rfl (lv_at hl 0 rfl) ?_
    refine x_get (x := .ref (ad 40)) hE hK hP 39 (Nat.lt_of_lt_of_le (by decide) hNN) (xG_0 rfl) rfl hin0 1 (by decide) mw_360 rfl dX0_note_24 ?_
    refine lv_iload_n hE.1 hE.2.1 dX0_note_27 rfl (lv_at hl 2 rfl) ?_
    refine lv_bipush (v := iI (9)) hE.1 hE.2.1 dX0_note_28 (by decide) ?_
    refine lv_imul hE.1 hE.2.1 dX0_note_30 ?_
    refine x_top (y := iI (9 * z_2)) ((iI_mul (z_2) (9)).trans (congrArg iI (by omega))) ?_
    refine lv_iload_n hE.1 hE.2.1 dX0_note_31 rfl (lv_at hl 3 rfl) ?_
    refine lv_iadd hE.1 hE.2.1 dX0_note_32 ?_
    refine x_top (y := iI (9 * z_2 + z_3)) ((iI_add (9 * z_2) (z_3)).trans (congrArg iI (by omega))) ?_
    refine lv_dup2_11 hE.1 hE.2.1 dX0_note_33 rfl rfl ?_
    refine x_iald (j := iI (9 * z_2 + z_3)) hE hK hP 40 (Nat.lt_of_lt_of_le (by decide) hNN) (xG_10 rfl) (iI_in (n := 81) (by omega)) dX0_note_34 ?_
    obtain ⟨z9, hz9, ez9⟩ := iI_of (ar 40 (iI (9 * z_2 + z_3)).toNatClampNeg)
    refine x_top ez9 ?_
    refine lv_iconst (v := iI (1)) hE.1 hE.2.1 dX0_note_35 (by decide) ?_
    refine lv_iadd hE.1 hE.2.1 dX0_note_36 ?_
    obtain ⟨z10, hz10, ez10⟩ := iI_of (iI (z9) + iI (1))
    refine x_top ez10 ?_
    refine x_iast (j := iI (9 * z_2 + z_3)) hE hK hN hP hS 40 (Nat.lt_of_lt_of_le (by decide) hNN) (fun _ => xG_10 rfl) (iI_in (n := 81) (by omega)) dX0_note_37 (fun ar11 H locs ha11 hP hS => ?_)
    refine lv_aload_n hE.1 hE.2.1 dX0_note_38 rfl (lv_at hl 0 rfl) ?_
    refine x_get (x := .ref (ad 41)) hE hK hP 39 (Nat.lt_of_lt_of_le (by decide) hNN) (xG_0 rfl) rfl hin0 2 (by decide) mw_361 rfl dX0_note_39 ?_
    refine lv_iload_n hE.1 hE.2.1 dX0_note_42 rfl (lv_at hl 3 rfl) ?_
    refine lv_dup2_11 hE.1 hE.2.1 dX0_note_43 rfl rfl ?_
    refine x_iald (j := iI (z_3)) hE hK hP 41 (Nat.lt_of_lt_of_le (by decide) hNN) (xG_10 rfl) (iI_in (n := 9) (by omega)) dX0_note_44 ?_
    obtain ⟨z13, hz13, ez13⟩ := iI_of (ar11 41 (iI (z_3)).toNatClampNeg)
    refine x_top ez13 ?_
    refine lv_iconst (v := iI (1)) hE.1 hE.2.1 dX0_note_45 (by decide) ?_
    refine lv_iload_n hE.1 hE.2.1 dX0_note_46 rfl (lv_at hl 2 rfl) ?_
    refine lv_ishl hE.1 hE.2.1 dX0_note_47 ?_
    obtain ⟨z14, hz14, ez14⟩ := iI_shl1 (a := z_2) (by omega)
    refine x_top ez14 ?_
    refine lv_ior hE.1 hE.2.1 dX0_note_48 ?_
    obtain ⟨z15, hz15, ez15⟩ := iI_of (iI (z13) ||| iI (z14))
    refine x_top ez15 ?_
    refine x_iast (j := iI (z_3)) hE hK hN hP hS 41 (Nat.lt_of_lt_of_le (by decide) hNN) (fun _ => xG_10 rfl) (iI_in (n := 9) (by omega)) dX0_note_49 (fun ar16 H locs ha16 hP hS => ?_)
    refine lv_aload_n hE.1 hE.2.1 dX0_note_50 rfl (lv_at hl 0 rfl) ?_
    refine x_get (x := .ref (ad 42)) hE hK hP 39 (Nat.lt_of_lt_of_le (by decide) hNN) (xG_0 rfl) rfl hin0 3 (by decide) mw_362 rfl dX0_note_51 ?_
    refine lv_iload_n hE.1 hE.2.1 dX0_note_54 rfl (lv_at hl 1 rfl) ?_
    refine lv_bipush (v := iI (9)) hE.1 hE.2.1 dX0_note_55 (by decide) ?_
    refine lv_imul hE.1 hE.2.1 dX0_note_57 ?_
    refine x_top (y := iI (9 * z_1)) ((iI_mul (z_1) (9)).trans (congrArg iI (by omega))) ?_
    refine lv_iload_n hE.1 hE.2.1 dX0_note_58 rfl (lv_at hl 3 rfl) ?_
    refine lv_iadd hE.1 hE.2.1 dX0_note_59 ?_
    refine x_top (y := iI (9 * z_1 + z_3)) ((iI_add (9 * z_1) (z_3)).trans (congrArg iI (by omega))) ?_
    refine lv_dup2_11 hE.1 hE.2.1 dX0_note_60 rfl rfl ?_
    refine x_iald (j := iI (9 * z_1 + z_3)) hE hK hP 42 (Nat.lt_of_lt_of_le (by decide) hNN) (xG_10 rfl) (iI_in (n := 72) (by omega)) dX0_note_61 ?_
    obtain ⟨z18, hz18, ez18⟩ := iI_of (ar16 42 (iI (9 * z_1 + z_3)).toNatClampNeg)
    refine x_top ez18 ?_
    refine lv_iconst (v := iI (1)) hE.1 hE.2.1 dX0_note_62 (by decide) ?_
    refine lv_iload_n hE.1 hE.2.1 dX0_note_63 rfl (lv_at hl 2 rfl) ?_
    refine lv_ishl hE.1 hE.2.1 dX0_note_64 ?_
    obtain ⟨z19, hz19, ez19⟩ := iI_shl1 (a := z_2) (by omega)
    refine x_top ez19 ?_
    refine lv_ior hE.1 hE.2.1 dX0_note_65 ?_
    obtain ⟨z20, hz20, ez20⟩ := iI_of (iI (z18) ||| iI (z19))
    refine x_top ez20 ?_
    refine x_iast (j := iI (9 * z_1 + z_3)) hE hK hN hP hS 42 (Nat.lt_of_lt_of_le (by decide) hNN) (fun _ => xG_10 rfl) (iI_in (n := 72) (by omega)) dX0_note_66 (fun ar21 H locs ha21 hP hS => ?_)
    exact kr _ _ _ _ _ _ _ ⟨hI, fun i j h => (up_oth hv7 (fun q => h (by rcases q with ⟨rfl, rfl⟩; decide)))⟩ hP hS dX0_note_67
  · skip
    exact kr _ _ _ _ _ _ _ ⟨hI, fun i j h => rfl⟩ hP hS dX0_note_6

theorem dX0_take_0 : decode cX0_take 0 = .ok (.aload_n 0, 1) := by decide +kernel
theorem dX0_take_1 : decode cX0_take 1 = .ok (.iconst 0, 1) := by decide +kernel
theorem dX0_take_2 : decode cX0_take 2 = .ok (.putfield 27, 3) := by decide +kernel
theorem dX0_take_5 : decode cX0_take 5 = .ok (.aload_n 0, 1) := by decide +kernel
theorem dX0_take_6 : decode cX0_take 6 = .ok (.getfield 9, 3) := by decide +kernel
theorem dX0_take_9 : decode cX0_take 9 = .ok (.iconst 0, 1) := by decide +kernel
theorem dX0_take_10 : decode cX0_take 10 = .ok (.invokestatic 31, 3) := by decide +kernel
theorem dX0_take_13 : decode cX0_take 13 = .ok (.aload_n 0, 1) := by decide +kernel
theorem dX0_take_14 : decode cX0_take 14 = .ok (.getfield 15, 3) := by decide +kernel
theorem dX0_take_17 : decode cX0_take 17 = .ok (.iconst 0, 1) := by decide +kernel
theorem dX0_take_18 : decode cX0_take 18 = .ok (.invokestatic 31, 3) := by decide +kernel
theorem dX0_take_21 : decode cX0_take 21 = .ok (.aload_n 0, 1) := by decide +kernel
theorem dX0_take_22 : decode cX0_take 22 = .ok (.getfield 18, 3) := by decide +kernel
theorem dX0_take_25 : decode cX0_take 25 = .ok (.iconst 0, 1) := by decide +kernel
theorem dX0_take_26 : decode cX0_take 26 = .ok (.invokestatic 31, 3) := by decide +kernel
theorem dX0_take_29 : decode cX0_take 29 = .ok (.iload_n 2, 1) := by decide +kernel
theorem dX0_take_30 : decode cX0_take 30 = .ok (.iconst 1, 1) := by decide +kernel
theorem dX0_take_31 : decode cX0_take 31 = .ok (.if_icmp .lt 12, 3) := by decide +kernel
theorem dX0_take_34 : decode cX0_take 34 = .ok (.aload_n 1, 1) := by decide +kernel
theorem dX0_take_35 : decode cX0_take 35 = .ok (.getfield 37, 3) := by decide +kernel
theorem dX0_take_38 : decode cX0_take 38 = .ok (.iload_n 2, 1) := by decide +kernel
theorem dX0_take_39 : decode cX0_take 39 = .ok (.irem, 1) := by decide +kernel
theorem dX0_take_40 : decode cX0_take 40 = .ok (.ifCond .eq 5, 3) := by decide +kernel
theorem dX0_take_43 : decode cX0_take 43 = .ok (.iconst 0, 1) := by decide +kernel
theorem dX0_take_44 : decode cX0_take 44 = .ok (.ireturn, 1) := by decide +kernel
theorem dX0_take_45 : decode cX0_take 45 = .ok (.iconst 0, 1) := by decide +kernel
theorem dX0_take_46 : decode cX0_take 46 = .ok (.istore 4, 2) := by decide +kernel
theorem dX0_take_48 : decode cX0_take 48 = .ok (.iload 4, 2) := by decide +kernel
theorem dX0_take_50 : decode cX0_take 50 = .ok (.aload_n 1, 1) := by decide +kernel
theorem dX0_take_51 : decode cX0_take 51 = .ok (.getfield 37, 3) := by decide +kernel
theorem dX0_take_54 : decode cX0_take 54 = .ok (.if_icmp .ge 129, 3) := by decide +kernel
theorem dX0_take_57 : decode cX0_take 57 = .ok (.iload_n 2, 1) := by decide +kernel
theorem dX0_take_58 : decode cX0_take 58 = .ok (.iconst 3, 1) := by decide +kernel
theorem dX0_take_59 : decode cX0_take 59 = .ok (.if_icmp .ne 12, 3) := by decide +kernel
theorem dX0_take_62 : decode cX0_take 62 = .ok (.aload_n 1, 1) := by decide +kernel
theorem dX0_take_63 : decode cX0_take 63 = .ok (.iload 4, 2) := by decide +kernel
theorem dX0_take_65 : decode cX0_take 65 = .ok (.invokevirtual 42, 3) := by decide +kernel
theorem dX0_take_68 : decode cX0_take 68 = .ok (.goto 4, 3) := by decide +kernel
theorem dX0_take_71 : decode cX0_take 71 = .ok (.lconst 0, 1) := by decide +kernel
theorem dX0_take_72 : decode cX0_take 72 = .ok (.lstore 5, 2) := by decide +kernel
theorem dX0_take_74 : decode cX0_take 74 = .ok (.aload_n 1, 1) := by decide +kernel
theorem dX0_take_75 : decode cX0_take 75 = .ok (.iload 4, 2) := by decide +kernel
theorem dX0_take_77 : decode cX0_take 77 = .ok (.iload_n 2, 1) := by decide +kernel
theorem dX0_take_78 : decode cX0_take 78 = .ok (.iadd, 1) := by decide +kernel
theorem dX0_take_79 : decode cX0_take 79 = .ok (.iconst 2, 1) := by decide +kernel
theorem dX0_take_80 : decode cX0_take 80 = .ok (.isub, 1) := by decide +kernel
theorem dX0_take_81 : decode cX0_take 81 = .ok (.invokevirtual 42, 3) := by decide +kernel
theorem dX0_take_84 : decode cX0_take 84 = .ok (.lstore 7, 2) := by decide +kernel
theorem dX0_take_86 : decode cX0_take 86 = .ok (.aload_n 1, 1) := by decide +kernel
theorem dX0_take_87 : decode cX0_take 87 = .ok (.iload 4, 2) := by decide +kernel
theorem dX0_take_89 : decode cX0_take 89 = .ok (.iload_n 2, 1) := by decide +kernel
theorem dX0_take_90 : decode cX0_take 90 = .ok (.iadd, 1) := by decide +kernel
theorem dX0_take_91 : decode cX0_take 91 = .ok (.iconst 1, 1) := by decide +kernel
theorem dX0_take_92 : decode cX0_take 92 = .ok (.isub, 1) := by decide +kernel
theorem dX0_take_93 : decode cX0_take 93 = .ok (.invokevirtual 42, 3) := by decide +kernel
theorem dX0_take_96 : decode cX0_take 96 = .ok (.lstore 9, 2) := by decide +kernel
theorem dX0_take_98 : decode cX0_take 98 = .ok (.iload_n 2, 1) := by decide +kernel
theorem dX0_take_99 : decode cX0_take 99 = .ok (.iconst 3, 1) := by decide +kernel
theorem dX0_take_100 : decode cX0_take 100 = .ok (.if_icmp .ne 21, 3) := by decide +kernel
theorem dX0_take_103 : decode cX0_take 103 = .ok (.lload 5, 2) := by decide +kernel
theorem dX0_take_105 : decode cX0_take 105 = .ok (.lconst 0, 1) := by decide +kernel
theorem dX0_take_106 : decode cX0_take 106 = .ok (.lcmp, 1) := by decide +kernel
theorem dX0_take_107 : decode cX0_take 107 = .ok (.ifCond .lt 18, 3) := by decide +kernel
theorem dX0_take_110 : decode cX0_take 110 = .ok (.lload 5, 2) := by decide +kernel
theorem dX0_take_112 : decode cX0_take 112 = .ok (.aload_n 3, 1) := by decide +kernel
theorem dX0_take_113 : decode cX0_take 113 = .ok (.getfield 46, 3) := by decide +kernel
theorem dX0_take_116 : decode cX0_take 116 = .ok (.i2l, 1) := by decide +kernel
theorem dX0_take_117 : decode cX0_take 117 = .ok (.lcmp, 1) := by decide +kernel
theorem dX0_take_118 : decode cX0_take 118 = .ok (.ifCond .ge 7, 3) := by decide +kernel
theorem dX0_take_121 : decode cX0_take 121 = .ok (.iconst 1, 1) := by decide +kernel
theorem dX0_take_122 : decode cX0_take 122 = .ok (.goto 4, 3) := by decide +kernel
theorem dX0_take_125 : decode cX0_take 125 = .ok (.iconst 0, 1) := by decide +kernel
theorem dX0_take_126 : decode cX0_take 126 = .ok (.istore 11, 2) := by decide +kernel
theorem dX0_take_128 : decode cX0_take 128 = .ok (.iload 11, 2) := by decide +kernel
theorem dX0_take_130 : decode cX0_take 130 = .ok (.ifCond .eq 29, 3) := by decide +kernel
theorem dX0_take_133 : decode cX0_take 133 = .ok (.aload_n 3, 1) := by decide +kernel
theorem dX0_take_134 : decode cX0_take 134 = .ok (.lload 7, 2) := by decide +kernel
theorem dX0_take_136 : decode cX0_take 136 = .ok (.invokevirtual 51, 3) := by decide +kernel
theorem dX0_take_139 : decode cX0_take 139 = .ok (.ifCond .eq 20, 3) := by decide +kernel
theorem dX0_take_142 : decode cX0_take 142 = .ok (.aload_n 3, 1) := by decide +kernel
theorem dX0_take_143 : decode cX0_take 143 = .ok (.lload 9, 2) := by decide +kernel
theorem dX0_take_145 : decode cX0_take 145 = .ok (.invokevirtual 51, 3) := by decide +kernel
theorem dX0_take_148 : decode cX0_take 148 = .ok (.ifCond .eq 11, 3) := by decide +kernel
theorem dX0_take_151 : decode cX0_take 151 = .ok (.lload 7, 2) := by decide +kernel
theorem dX0_take_153 : decode cX0_take 153 = .ok (.lload 9, 2) := by decide +kernel
theorem dX0_take_155 : decode cX0_take 155 = .ok (.lcmp, 1) := by decide +kernel
theorem dX0_take_156 : decode cX0_take 156 = .ok (.ifCond .ne 5, 3) := by decide +kernel
theorem dX0_take_159 : decode cX0_take 159 = .ok (.iconst 0, 1) := by decide +kernel
theorem dX0_take_160 : decode cX0_take 160 = .ok (.ireturn, 1) := by decide +kernel
theorem dX0_take_161 : decode cX0_take 161 = .ok (.aload_n 0, 1) := by decide +kernel
theorem dX0_take_162 : decode cX0_take 162 = .ok (.lload 5, 2) := by decide +kernel
theorem dX0_take_164 : decode cX0_take 164 = .ok (.l2i, 1) := by decide +kernel
theorem dX0_take_165 : decode cX0_take 165 = .ok (.lload 7, 2) := by decide +kernel
theorem dX0_take_167 : decode cX0_take 167 = .ok (.l2i, 1) := by decide +kernel
theorem dX0_take_168 : decode cX0_take 168 = .ok (.lload 9, 2) := by decide +kernel
theorem dX0_take_170 : decode cX0_take 170 = .ok (.l2i, 1) := by decide +kernel
theorem dX0_take_171 : decode cX0_take 171 = .ok (.invokevirtual 55, 3) := by decide +kernel
theorem dX0_take_174 : decode cX0_take 174 = .ok (.iload 4, 2) := by decide +kernel
theorem dX0_take_176 : decode cX0_take 176 = .ok (.iload_n 2, 1) := by decide +kernel
theorem dX0_take_177 : decode cX0_take 177 = .ok (.iadd, 1) := by decide +kernel
theorem dX0_take_178 : decode cX0_take 178 = .ok (.istore 4, 2) := by decide +kernel
theorem dX0_take_180 : decode cX0_take 180 = .ok (.goto (-132), 3) := by decide +kernel
theorem dX0_take_183 : decode cX0_take 183 = .ok (.iconst 1, 1) := by decide +kernel
theorem dX0_take_184 : decode cX0_take 184 = .ok (.ireturn, 1) := by decide +kernel
set_option maxHeartbeats 4000000 in
set_option maxRecDepth 100000 in
theorem s_X0_take_39_67_3 (l : Launch) (D : va_G) (K : Nat → ClassId) (ad : Nat → Nat) (mm : Option Nat) (N : Nat) (hNN : 132 ≤ N) (v ar : sI) (al : sL) (hI : XI v) (z_1 : Int) (hz_1 : 2 ≤ z_1 ∧ z_1 ≤ 3) : Met l yX0_take (wM yX0_take cX0_take 12 (some .boolean)) (rmD 1) (va_Pc [.ref (ad 39), .ref (ad 67), .int (iI (z_1)), .ref (ad 3)] (wPre D K ad (xG ad K mm) N v ar al)) (va_Qi (fun (r : Int32) (u : sT) => (∃ z : Int, (0 ≤ z ∧ z ≤ 1) ∧ r = iI z) ∧ XI u.1 ∧ (∀ i j : Nat, (i, j) ∉ ([(39, 0)] : List (Nat × Nat)) → u.1 i j = v i j)) (wB D ad (xG ad K mm) N) (inW ad N)) 0 0 (inW ad N) := by
  refine s_metI (by decide) (Nat.le_of_ble_eq_true rfl) ?_
  intro p e s m below meth c ls args Q hE hB hl kr
  have hE : CallFix p m c cX0_take 12 s args tbG "TaleCourt$Claims" := hE
  obtain ⟨hP, hK, hN⟩ := hB
  have hS : va_S (inW ad N) s.heap s.heap [] := va_S.rf
  have hl : lv_has ls 12 [(0, .ref (ad 39)), (1, .ref (ad 67)), (2, .int (iI (z_1))), (3, .ref (ad 3))] := hl
  refine lv_aload_n hE.1 hE.2.1 dX0_take_0 rfl (lv_at hl 0 rfl) ?_
  refine lv_iconst (v := iI (0)) hE.1 hE.2.1 dX0_take_1 (by decide) ?_
  refine x_put (x := iI (0)) hE hK hN hP hS 39 (Nat.lt_of_lt_of_le (by decide) hNN) (xG_0 rfl) rfl hin0 tyX0 tyX0_ok nmX0 0 (by decide) mw_358 rfl rfl rfl (Nat.le_of_ble_eq_true rfl) (xG_0 rfl) dX0_take_2 (fun v1 H locs hv1 hP hS => ?_)
  have hI := XI_putN hI hv1 (by decide)
  refine lv_aload_n hE.1 hE.2.1 dX0_take_5 rfl (lv_at hl 0 rfl) ?_
  refine x_get (x := .ref (ad 40)) hE hK hP 39 (Nat.lt_of_lt_of_le (by decide) hNN) (xG_0 rfl) rfl hin0 1 (by decide) mw_360 rfl dX0_take_6 ?_
  refine lv_iconst (v := iI (0)) hE.1 hE.2.1 dX0_take_9 (by decide) ?_
  refine x_sv (nn := 2) (As := [.ref (ad 40), .int (iI (0))]) (rest := []) hE hK hN hP hS (k_fillI l D K ad v1 ar al 40 81 (Nat.lt_of_lt_of_le (by decide) hNN) (fun _ => xG_10 rfl) (Nat.le_of_ble_eq_true rfl) (iI (0))) rfl mw_1167 mw_536 mw_124 mw_537 (by decide +kernel) ⟨by decide, by decide⟩ hl.1 rfl (Nat.le_of_ble_eq_true rfl) ⟨Nat.zero_le _, Nat.zero_le _⟩ dX0_take_10 (fun v2 ar2 al2 H locs hq2 hP hS => ?_)
  rw [show v2 = v1 from hq2.1] at hP
  refine lv_aload_n hE.1 hE.2.1 dX0_take_13 rfl (lv_at hl 0 rfl) ?_
  refine x_get (x := .ref (ad 41)) hE hK hP 39 (Nat.lt_of_lt_of_le (by decide) hNN) (xG_0 rfl) rfl hin0 2 (by decide) mw_361 rfl dX0_take_14 ?_
  refine lv_iconst (v := iI (0)) hE.1 hE.2.1 dX0_take_17 (by decide) ?_
  refine x_sv (nn := 2) (As := [.ref (ad 41), .int (iI (0))]) (rest := []) hE hK hN hP hS (k_fillI l D K ad v1 ar2 al2 41 9 (Nat.lt_of_lt_of_le (by decide) hNN) (fun _ => xG_10 rfl) (Nat.le_of_ble_eq_true rfl) (iI (0))) rfl mw_1167 mw_536 mw_124 mw_537 (by decide +kernel) ⟨by decide, by decide⟩ hl.1 rfl (Nat.le_of_ble_eq_true rfl) ⟨Nat.zero_le _, Nat.zero_le _⟩ dX0_take_18 (fun v3 ar3 al3 H locs hq3 hP hS => ?_)
  rw [show v3 = v1 from hq3.1] at hP
  refine lv_aload_n hE.1 hE.2.1 dX0_take_21 rfl (lv_at hl 0 rfl) ?_
  refine x_get (x := .ref (ad 42)) hE hK hP 39 (Nat.lt_of_lt_of_le (by decide) hNN) (xG_0 rfl) rfl hin0 3 (by decide) mw_362 rfl dX0_take_22 ?_
  refine lv_iconst (v := iI (0)) hE.1 hE.2.1 dX0_take_25 (by decide) ?_
  refine x_sv (nn := 2) (As := [.ref (ad 42), .int (iI (0))]) (rest := []) hE hK hN hP hS (k_fillI l D K ad v1 ar3 al3 42 72 (Nat.lt_of_lt_of_le (by decide) hNN) (fun _ => xG_10 rfl) (Nat.le_of_ble_eq_true rfl) (iI (0))) rfl mw_1167 mw_536 mw_124 mw_537 (by decide +kernel) ⟨by decide, by decide⟩ hl.1 rfl (Nat.le_of_ble_eq_true rfl) ⟨Nat.zero_le _, Nat.zero_le _⟩ dX0_take_26 (fun v4 ar4 al4 H locs hq4 hP hS => ?_)
  rw [show v4 = v1 from hq4.1] at hP
  refine lv_iload_n hE.1 hE.2.1 dX0_take_29 rfl (lv_at hl 2 rfl) ?_
  refine lv_iconst (v := iI (1)) hE.1 hE.2.1 dX0_take_30 (by decide) ?_
  refine s_icmp_lt (a := z_1) (b := 1) (tgt := 43) hE.1 hE.2.1 (by omega) (by omega) dX0_take_31 (by decide) (fun c5 => False.elim (by omega)) (fun _ => ?_)
  refine lv_aload_n hE.1 hE.2.1 dX0_take_34 rfl (lv_at hl 1 rfl) ?_
  obtain ⟨z6, hz6, ez6⟩ := XI_get hI 67 2 (-1) 60 (by decide)
  refine x_get (x := .int (v1 67 2)) hE hK hP 67 (Nat.lt_of_lt_of_le (by decide) hNN) (xG_5 rfl) rfl hin5 2 (by decide) mw_450 rfl dX0_take_35 ?_
  refine x_top (y := iI (z6)) ez6 ?_
  refine lv_iload_n hE.1 hE.2.1 dX0_take_38 rfl (lv_at hl 2 rfl) ?_
  refine lv_irem hE.1 hE.2.1 dX0_take_39 (iI_ne0 (by omega) (by omega)) ?_
  obtain ⟨z7, hz7, ez7⟩ := iI_of (iI (z6) - iI (z6) / iI (z_1) * iI (z_1))
  refine x_top ez7 ?_
  refine s_if_eq (a := z7) (tgt := 45) hE.1 hE.2.1 (by omega) dX0_take_40 (by decide) (fun c8 => ?_) (fun c8 => ?_)
  · skip
    refine lv_iconst (v := iI (0)) hE.1 hE.2.1 dX0_take_45 (by decide) ?_
    refine lv_istore (lv' := [(4, .int (iI (0))), (0, .ref (ad 39)), (1, .ref (ad 67)), (2, .int (iI (z_1))), (3, .ref (ad 3))]) hE.1 hE.2.1 dX0_take_46 hl (by decide) rfl (fun ls hl => ?_)
    have loop9 : ∀ (k9 : Nat) (y9_4 : Int) (vl9 arl9 : sI) (all9 : sL) (H : Heap) (locs : List Loc) (ls : Array Slot), (60 - y9_4).toNat = k9 → (0 ≤ y9_4 ∧ y9_4 ≤ 63) → XI vl9 → (∀ i j : Nat, (i, j) ∉ ([(39, 0)] : List (Nat × Nat)) → vl9 i j = v1 i j) → va_P D xcl (wW ad (xG ad K mm) N vl9 arl9 all9) H → va_S (inW ad N) s.heap H locs → lv_has ls 12 [(4, .int (iI (y9_4))), (0, .ref (ad 39)), (1, .ref (ad 67)), (2, .int (iI (z_1))), (3, .ref (ad 3))] → W p l e (rmD 1) s m args below meth c H locs 0 0 Q (F0 m 48 ls []) := by
      intro k9
      induction k9 using Nat.strongRecOn with
      | _ k9 ih9 =>
        intro y9_4 vl9 arl9 all9 H locs ls hk9 hb_y9_4 hI hfr9 hP hS hl
        refine lv_iload hE.1 hE.2.1 dX0_take_48 (lv_at hl 0 rfl) ?_
        refine lv_aload_n hE.1 hE.2.1 dX0_take_50 rfl (lv_at hl 2 rfl) ?_
        refine x_get (x := .int (vl9 67 2)) hE hK hP 67 (Nat.lt_of_lt_of_le (by decide) hNN) (xG_5 rfl) rfl hin5 2 (by decide) mw_450 rfl dX0_take_51 ?_
        refine x_top (y := iI (z6)) ((hfr9 67 2 (by decide)).trans ez6) ?_
        refine s_icmp_ge (a := y9_4) (b := z6) (tgt := 183) hE.1 hE.2.1 (by omega) (by omega) dX0_take_54 (by decide) (fun c10 => ?_) (fun c10 => ?_)
        · skip
          refine lv_iconst (v := iI (1)) hE.1 hE.2.1 dX0_take_183 (by decide) ?_
          exact kr _ _ _ _ _ _ _ _ (nar01 (by omega)) ⟨⟨1, by omega, rfl⟩, hI, fun i j h => ((hfr9 i j (fun q => h (mem_sub (by decide) q))).trans (up_oth hv1 (fun q => h (by rcases q with ⟨rfl, rfl⟩; decide))))⟩ hP hS dX0_take_184
        · skip
          refine lv_iload_n hE.1 hE.2.1 dX0_take_57 rfl (lv_at hl 3 rfl) ?_
          refine lv_iconst (v := iI (3)) hE.1 hE.2.1 dX0_take_58 (by decide) ?_
          refine s_icmp_ne (a := z_1) (b := 3) (tgt := 71) hE.1 hE.2.1 (by omega) (by omega) dX0_take_59 (by decide) (fun c11 => ?_) (fun c11 => ?_)
          · skip
            refine lv_lconst (v := lI (0)) hE.1 hE.2.1 dX0_take_71 (by decide) ?_
            refine lv_lstore (lv' := [(5, .long (lI (0))), (4, .int (iI (y9_4))), (0, .ref (ad 39)), (1, .ref (ad 67)), (2, .int (iI (z_1))), (3, .ref (ad 3))]) hE.1 hE.2.1 dX0_take_72 hl (by decide) rfl (fun ls hl => ?_)
            refine lv_aload_n hE.1 hE.2.1 dX0_take_74 rfl (lv_at hl 3 rfl) ?_
            refine lv_iload hE.1 hE.2.1 dX0_take_75 (lv_at hl 1 rfl) ?_
            refine lv_iload_n hE.1 hE.2.1 dX0_take_77 rfl (lv_at hl 4 rfl) ?_
            refine lv_iadd hE.1 hE.2.1 dX0_take_78 ?_
            refine x_top (y := iI (y9_4 + z_1)) ((iI_add (y9_4) (z_1)).trans (congrArg iI (by omega))) ?_
            refine lv_iconst (v := iI (2)) hE.1 hE.2.1 dX0_take_79 (by decide) ?_
            refine lv_isub hE.1 hE.2.1 dX0_take_80 ?_
            refine x_top (y := iI (y9_4 + z_1 - 2)) ((iI_sub (y9_4 + z_1) (2)).trans (congrArg iI (by omega))) ?_
            refine x_vpl (nn := 1) (As := [.int (iI (y9_4 + z_1 - 2))]) (rest := []) hE (s_X5_numberAt_67 l D K ad mm N hNN vl9 arl9 all9 hI  (y9_4 + z_1 - 2) (by omega)) wPre_blind (wPre_now hK hN hP) (x_recv hK hP 67 (Nat.lt_of_lt_of_le (by decide) hNN) (xG_5 rfl) rfl) rfl mw_1168 mw_1169 mw_1170 mw_121 mw_1171 (by decide +kernel) ⟨by decide, by decide⟩ hl.1 rfl (Nat.le_of_ble_eq_true rfl) ⟨Nat.zero_le _, Nat.zero_le _⟩ dX0_take_81 (fun r12 hr12 => ?_)
            obtain ⟨z12, hz12, rfl⟩ := hr12
            refine lv_lstore (lv' := [(7, .long (lI (z12))), (5, .long (lI (0))), (4, .int (iI (y9_4))), (0, .ref (ad 39)), (1, .ref (ad 67)), (2, .int (iI (z_1))), (3, .ref (ad 3))]) hE.1 hE.2.1 dX0_take_84 hl (by decide) rfl (fun ls hl => ?_)
            refine lv_aload_n hE.1 hE.2.1 dX0_take_86 rfl (lv_at hl 4 rfl) ?_
            refine lv_iload hE.1 hE.2.1 dX0_take_87 (lv_at hl 2 rfl) ?_
            refine lv_iload_n hE.1 hE.2.1 dX0_take_89 rfl (lv_at hl 5 rfl) ?_
            refine lv_iadd hE.1 hE.2.1 dX0_take_90 ?_
            refine x_top (y := iI (y9_4 + z_1)) ((iI_add (y9_4) (z_1)).trans (congrArg iI (by omega))) ?_
            refine lv_iconst (v := iI (1)) hE.1 hE.2.1 dX0_take_91 (by decide) ?_
            refine lv_isub hE.1 hE.2.1 dX0_take_92 ?_
            refine x_top (y := iI (y9_4 + z_1 - 1)) ((iI_sub (y9_4 + z_1) (1)).trans (congrArg iI (by omega))) ?_
            refine x_vpl (nn := 1) (As := [.int (iI (y9_4 + z_1 - 1))]) (rest := []) hE (s_X5_numberAt_67 l D K ad mm N hNN vl9 arl9 all9 hI  (y9_4 + z_1 - 1) (by omega)) wPre_blind (wPre_now hK hN hP) (x_recv hK hP 67 (Nat.lt_of_lt_of_le (by decide) hNN) (xG_5 rfl) rfl) rfl mw_1168 mw_1169 mw_1170 mw_121 mw_1171 (by decide +kernel) ⟨by decide, by decide⟩ hl.1 rfl (Nat.le_of_ble_eq_true rfl) ⟨Nat.zero_le _, Nat.zero_le _⟩ dX0_take_93 (fun r13 hr13 => ?_)
            obtain ⟨z13, hz13, rfl⟩ := hr13
            refine lv_lstore (lv' := [(9, .long (lI (z13))), (7, .long (lI (z12))), (5, .long (lI (0))), (4, .int (iI (y9_4))), (0, .ref (ad 39)), (1, .ref (ad 67)), (2, .int (iI (z_1))), (3, .ref (ad 3))]) hE.1 hE.2.1 dX0_take_96 hl (by decide) rfl (fun ls hl => ?_)
            refine lv_iload_n hE.1 hE.2.1 dX0_take_98 rfl (lv_at hl 6 rfl) ?_
            refine lv_iconst (v := iI (3)) hE.1 hE.2.1 dX0_take_99 (by decide) ?_
            refine s_icmp_ne (a := z_1) (b := 3) (tgt := 121) hE.1 hE.2.1 (by omega) (by omega) dX0_take_100 (by decide) (fun _ => ?_) (fun c14 => False.elim (by omega))
            refine lv_iconst (v := iI (1)) hE.1 hE.2.1 dX0_take_121 (by decide) ?_
            refine lv_goto (tgt := 126) hE.1 hE.2.1 dX0_take_122 (by decide) ?_
            refine lv_istore (lv' := [(11, .int (iI (1))), (9, .long (lI (z13))), (7, .long (lI (z12))), (5, .long (lI (0))), (4, .int (iI (y9_4))), (0, .ref (ad 39)), (1, .ref (ad 67)), (2, .int (iI (z_1))), (3, .ref (ad 3))]) hE.1 hE.2.1 dX0_take_126 hl (by decide) rfl (fun ls hl => ?_)
            refine lv_iload hE.1 hE.2.1 dX0_take_128 (lv_at hl 0 rfl) ?_
            refine s_if_eq (a := 1) (tgt := 159) hE.1 hE.2.1 (by omega) dX0_take_130 (by decide) (fun c15 => False.elim (by omega)) (fun _ => ?_)
            refine lv_aload_n hE.1 hE.2.1 dX0_take_133 rfl (lv_at hl 8 rfl) ?_
            refine lv_lload hE.1 hE.2.1 dX0_take_134 (lv_at hl 2 rfl) ?_
            refine x_vp (nn := 1) (As := [.long (lI (z12))]) (rest := []) hE (s_X1_hasNumber_3 l D K ad mm N hNN vl9 arl9 all9 hI  (z12) (by omega)) wPre_blind (wPre_now hK hN hP) (x_recv hK hP 3 (Nat.lt_of_lt_of_le (by decide) hNN) (xG_1 rfl) rfl) rfl mw_1173 mw_1147 mw_1148 mw_116 mw_1149 (by decide +kernel) ⟨by decide, by decide⟩ hl.1 rfl (Nat.le_of_ble_eq_true rfl) ⟨Nat.zero_le _, Nat.zero_le _⟩ dX0_take_136 (fun r16 hr16 => ?_)
            obtain ⟨z16, hz16, rfl⟩ := hr16
            refine s_if_eq (a := z16) (tgt := 159) hE.1 hE.2.1 (by omega) dX0_take_139 (by decide) (fun c17 => ?_) (fun c17 => ?_)
            · skip
              refine lv_iconst (v := iI (0)) hE.1 hE.2.1 dX0_take_159 (by decide) ?_
              exact kr _ _ _ _ _ _ _ _ (nar01 (by omega)) ⟨⟨0, by omega, rfl⟩, hI, fun i j h => ((hfr9 i j (fun q => h (mem_sub (by decide) q))).trans (up_oth hv1 (fun q => h (by rcases q with ⟨rfl, rfl⟩; decide))))⟩ hP hS dX0_take_160
            · skip
              refine lv_aload_n hE.1 hE.2.1 dX0_take_142 rfl (lv_at hl 8 rfl) ?_
              refine lv_lload hE.1 hE.2.1 dX0_take_143 (lv_at hl 1 rfl) ?_
              refine x_vp (nn := 1) (As := [.long (lI (z13))]) (rest := []) hE (s_X1_hasNumber_3 l D K ad mm N hNN vl9 arl9 all9 hI  (z13) (by omega)) wPre_blind (wPre_now hK hN hP) (x_recv hK hP 3 (Nat.lt_of_lt_of_le (by decide) hNN) (xG_1 rfl) rfl) rfl mw_1173 mw_1147 mw_1148 mw_116 mw_1149 (by decide +kernel) ⟨by decide, by decide⟩ hl.1 rfl (Nat.le_of_ble_eq_true rfl) ⟨Nat.zero_le _, Nat.zero_le _⟩ dX0_take_145 (fun r18 hr18 => ?_)
              obtain ⟨z18, hz18, rfl⟩ := hr18
              refine s_if_eq (a := z18) (tgt := 159) hE.1 hE.2.1 (by omega) dX0_take_148 (by decide) (fun c19 => ?_) (fun c19 => ?_)
              · skip
                refine lv_iconst (v := iI (0)) hE.1 hE.2.1 dX0_take_159 (by decide) ?_
                exact kr _ _ _ _ _ _ _ _ (nar01 (by omega)) ⟨⟨0, by omega, rfl⟩, hI, fun i j h => ((hfr9 i j (fun q => h (mem_sub (by decide) q))).trans (up_oth hv1 (fun q => h (by rcases q with ⟨rfl, rfl⟩; decide))))⟩ hP hS dX0_take_160
              · skip
                refine lv_lload hE.1 hE.2.1 dX0_take_151 (lv_at hl 2 rfl) ?_
                refine lv_lload hE.1 hE.2.1 dX0_take_153 (lv_at hl 1 rfl) ?_
                refine W.lcmp hE.1 hE.2.1 dX0_take_155 ?_
                obtain ⟨z20, hz20, ez20⟩ := lcmp_of (a := z12) (b := z13) (by omega) (by omega)
                refine x_top ez20 ?_
                refine s_if_ne (a := z20) (tgt := 161) hE.1 hE.2.1 (by omega) dX0_take_156 (by decide) (fun c21 => ?_) (fun c21 => ?_)
                · skip
                  refine lv_aload_n hE.1 hE.2.1 dX0_take_161 rfl (lv_at hl 5 rfl) ?_
                  refine lv_lload hE.1 hE.2.1 dX0_take_162 (lv_at hl 3 rfl) ?_
                  refine lv_l2i (v := iI (0)) hE.1 hE.2.1 dX0_take_164 (lI_l2i _) ?_
                  refine lv_lload hE.1 hE.2.1 dX0_take_165 (lv_at hl 2 rfl) ?_
                  refine lv_l2i (v := iI (z12)) hE.1 hE.2.1 dX0_take_167 (lI_l2i _) ?_
                  refine lv_lload hE.1 hE.2.1 dX0_take_168 (lv_at hl 1 rfl) ?_
                  refine lv_l2i (v := iI (z13)) hE.1 hE.2.1 dX0_take_170 (lI_l2i _) ?_
                  refine x_vv (nn := 3) (As := [.int (iI (0)), .int (iI (z12)), .int (iI (z13))]) (rest := []) hE hK hN hP hS (s_X0_note_39 l D K ad mm N hNN vl9 arl9 all9 hI  (0) (by omega) (z12) (by omega) (z13) (by omega)) (x_recv hK hP 39 (Nat.lt_of_lt_of_le (by decide) hNN) (xG_0 rfl) rfl) rfl mw_1174 mw_1176 mw_40 mw_118 mw_1177 (by decide +kernel) ⟨by decide, by decide⟩ hl.1 rfl (Nat.le_of_ble_eq_true rfl) ⟨Nat.zero_le _, Nat.zero_le _⟩ dX0_take_171 (fun v22 ar22 al22 H locs hq22 hP hS => ?_)
                  obtain ⟨hI, hq22⟩ := hq22
                  have hI : XI v22 := hI
                  refine lv_iload hE.1 hE.2.1 dX0_take_174 (lv_at hl 4 rfl) ?_
                  refine lv_iload_n hE.1 hE.2.1 dX0_take_176 rfl (lv_at hl 7 rfl) ?_
                  refine lv_iadd hE.1 hE.2.1 dX0_take_177 ?_
                  refine x_top (y := iI (y9_4 + z_1)) ((iI_add (y9_4) (z_1)).trans (congrArg iI (by omega))) ?_
                  refine lv_istore (lv' := [(4, .int (iI (y9_4 + z_1))), (11, .int (iI (1))), (9, .long (lI (z13))), (7, .long (lI (z12))), (5, .long (lI (0))), (0, .ref (ad 39)), (1, .ref (ad 67)), (2, .int (iI (z_1))), (3, .ref (ad 3))]) hE.1 hE.2.1 dX0_take_178 hl (by decide) rfl (fun ls hl => ?_)
                  refine lv_goto (tgt := 48) hE.1 hE.2.1 dX0_take_180 (by decide) ?_
                  exact ih9 _ (by omega) (y9_4 + z_1) v22 ar22 al22 _ _ _ rfl (by omega) hI (fun i j h => ((hq22 i j (fun q => h (mem_sub (by decide) q))).trans (hfr9 i j h))) hP hS (lv_sub hl [0, 5, 6, 7, 8] rfl)
                · skip
                  refine lv_iconst (v := iI (0)) hE.1 hE.2.1 dX0_take_159 (by decide) ?_
                  exact kr _ _ _ _ _ _ _ _ (nar01 (by omega)) ⟨⟨0, by omega, rfl⟩, hI, fun i j h => ((hfr9 i j (fun q => h (mem_sub (by decide) q))).trans (up_oth hv1 (fun q => h (by rcases q with ⟨rfl, rfl⟩; decide))))⟩ hP hS dX0_take_160
          · skip
            refine lv_aload_n hE.1 hE.2.1 dX0_take_62 rfl (lv_at hl 2 rfl) ?_
            refine lv_iload hE.1 hE.2.1 dX0_take_63 (lv_at hl 0 rfl) ?_
            refine x_vpl (nn := 1) (As := [.int (iI (y9_4))]) (rest := []) hE (s_X5_numberAt_67 l D K ad mm N hNN vl9 arl9 all9 hI  (y9_4) (by omega)) wPre_blind (wPre_now hK hN hP) (x_recv hK hP 67 (Nat.lt_of_lt_of_le (by decide) hNN) (xG_5 rfl) rfl) rfl mw_1168 mw_1169 mw_1170 mw_121 mw_1171 (by decide +kernel) ⟨by decide, by decide⟩ hl.1 rfl (Nat.le_of_ble_eq_true rfl) ⟨Nat.zero_le _, Nat.zero_le _⟩ dX0_take_65 (fun r23 hr23 => ?_)
            obtain ⟨z23, hz23, rfl⟩ := hr23
            refine lv_goto (tgt := 72) hE.1 hE.2.1 dX0_take_68 (by decide) ?_
            refine lv_lstore (lv' := [(5, .long (lI (z23))), (4, .int (iI (y9_4))), (0, .ref (ad 39)), (1, .ref (ad 67)), (2, .int (iI (z_1))), (3, .ref (ad 3))]) hE.1 hE.2.1 dX0_take_72 hl (by decide) rfl (fun ls hl => ?_)
            refine lv_aload_n hE.1 hE.2.1 dX0_take_74 rfl (lv_at hl 3 rfl) ?_
            refine lv_iload hE.1 hE.2.1 dX0_take_75 (lv_at hl 1 rfl) ?_
            refine lv_iload_n hE.1 hE.2.1 dX0_take_77 rfl (lv_at hl 4 rfl) ?_
            refine lv_iadd hE.1 hE.2.1 dX0_take_78 ?_
            refine x_top (y := iI (y9_4 + z_1)) ((iI_add (y9_4) (z_1)).trans (congrArg iI (by omega))) ?_
            refine lv_iconst (v := iI (2)) hE.1 hE.2.1 dX0_take_79 (by decide) ?_
            refine lv_isub hE.1 hE.2.1 dX0_take_80 ?_
            refine x_top (y := iI (y9_4 + z_1 - 2)) ((iI_sub (y9_4 + z_1) (2)).trans (congrArg iI (by omega))) ?_
            refine x_vpl (nn := 1) (As := [.int (iI (y9_4 + z_1 - 2))]) (rest := []) hE (s_X5_numberAt_67 l D K ad mm N hNN vl9 arl9 all9 hI  (y9_4 + z_1 - 2) (by omega)) wPre_blind (wPre_now hK hN hP) (x_recv hK hP 67 (Nat.lt_of_lt_of_le (by decide) hNN) (xG_5 rfl) rfl) rfl mw_1168 mw_1169 mw_1170 mw_121 mw_1171 (by decide +kernel) ⟨by decide, by decide⟩ hl.1 rfl (Nat.le_of_ble_eq_true rfl) ⟨Nat.zero_le _, Nat.zero_le _⟩ dX0_take_81 (fun r24 hr24 => ?_)
            obtain ⟨z24, hz24, rfl⟩ := hr24
            refine lv_lstore (lv' := [(7, .long (lI (z24))), (5, .long (lI (z23))), (4, .int (iI (y9_4))), (0, .ref (ad 39)), (1, .ref (ad 67)), (2, .int (iI (z_1))), (3, .ref (ad 3))]) hE.1 hE.2.1 dX0_take_84 hl (by decide) rfl (fun ls hl => ?_)
            refine lv_aload_n hE.1 hE.2.1 dX0_take_86 rfl (lv_at hl 4 rfl) ?_
            refine lv_iload hE.1 hE.2.1 dX0_take_87 (lv_at hl 2 rfl) ?_
            refine lv_iload_n hE.1 hE.2.1 dX0_take_89 rfl (lv_at hl 5 rfl) ?_
            refine lv_iadd hE.1 hE.2.1 dX0_take_90 ?_
            refine x_top (y := iI (y9_4 + z_1)) ((iI_add (y9_4) (z_1)).trans (congrArg iI (by omega))) ?_
            refine lv_iconst (v := iI (1)) hE.1 hE.2.1 dX0_take_91 (by decide) ?_
            refine lv_isub hE.1 hE.2.1 dX0_take_92 ?_
            refine x_top (y := iI (y9_4 + z_1 - 1)) ((iI_sub (y9_4 + z_1) (1)).trans (congrArg iI (by omega))) ?_
            refine x_vpl (nn := 1) (As := [.int (iI (y9_4 + z_1 - 1))]) (rest := []) hE (s_X5_numberAt_67 l D K ad mm N hNN vl9 arl9 all9 hI  (y9_4 + z_1 - 1) (by omega)) wPre_blind (wPre_now hK hN hP) (x_recv hK hP 67 (Nat.lt_of_lt_of_le (by decide) hNN) (xG_5 rfl) rfl) rfl mw_1168 mw_1169 mw_1170 mw_121 mw_1171 (by decide +kernel) ⟨by decide, by decide⟩ hl.1 rfl (Nat.le_of_ble_eq_true rfl) ⟨Nat.zero_le _, Nat.zero_le _⟩ dX0_take_93 (fun r25 hr25 => ?_)
            obtain ⟨z25, hz25, rfl⟩ := hr25
            refine lv_lstore (lv' := [(9, .long (lI (z25))), (7, .long (lI (z24))), (5, .long (lI (z23))), (4, .int (iI (y9_4))), (0, .ref (ad 39)), (1, .ref (ad 67)), (2, .int (iI (z_1))), (3, .ref (ad 3))]) hE.1 hE.2.1 dX0_take_96 hl (by decide) rfl (fun ls hl => ?_)
            refine lv_iload_n hE.1 hE.2.1 dX0_take_98 rfl (lv_at hl 6 rfl) ?_
            refine lv_iconst (v := iI (3)) hE.1 hE.2.1 dX0_take_99 (by decide) ?_
            refine s_icmp_ne (a := z_1) (b := 3) (tgt := 121) hE.1 hE.2.1 (by omega) (by omega) dX0_take_100 (by decide) (fun c26 => False.elim (by omega)) (fun _ => ?_)
            refine lv_lload hE.1 hE.2.1 dX0_take_103 (lv_at hl 2 rfl) ?_
            refine lv_lconst (v := lI (0)) hE.1 hE.2.1 dX0_take_105 (by decide) ?_
            refine W.lcmp hE.1 hE.2.1 dX0_take_106 ?_
            obtain ⟨z27, hz27, ez27⟩ := lcmp_of (a := z23) (b := 0) (by omega) (by omega)
            refine x_top ez27 ?_
            refine s_if_lt (a := z27) (tgt := 125) hE.1 hE.2.1 (by omega) dX0_take_107 (by decide) (fun c28 => ?_) (fun c28 => ?_)
            · skip
              refine lv_iconst (v := iI (0)) hE.1 hE.2.1 dX0_take_125 (by decide) ?_
              refine lv_istore (lv' := [(11, .int (iI (0))), (9, .long (lI (z25))), (7, .long (lI (z24))), (5, .long (lI (z23))), (4, .int (iI (y9_4))), (0, .ref (ad 39)), (1, .ref (ad 67)), (2, .int (iI (z_1))), (3, .ref (ad 3))]) hE.1 hE.2.1 dX0_take_126 hl (by decide) rfl (fun ls hl => ?_)
              refine lv_iload hE.1 hE.2.1 dX0_take_128 (lv_at hl 0 rfl) ?_
              refine s_if_eq (a := 0) (tgt := 159) hE.1 hE.2.1 (by omega) dX0_take_130 (by decide) (fun _ => ?_) (fun c29 => False.elim (by omega))
              refine lv_iconst (v := iI (0)) hE.1 hE.2.1 dX0_take_159 (by decide) ?_
              exact kr _ _ _ _ _ _ _ _ (nar01 (by omega)) ⟨⟨0, by omega, rfl⟩, hI, fun i j h => ((hfr9 i j (fun q => h (mem_sub (by decide) q))).trans (up_oth hv1 (fun q => h (by rcases q with ⟨rfl, rfl⟩; decide))))⟩ hP hS dX0_take_160
            · skip
              refine lv_lload hE.1 hE.2.1 dX0_take_110 (lv_at hl 2 rfl) ?_
              refine lv_aload_n hE.1 hE.2.1 dX0_take_112 rfl (lv_at hl 7 rfl) ?_
              obtain ⟨z30, hz30, ez30⟩ := XI_get hI 3 3 0 8 (by decide)
              refine x_get (x := .int (vl9 3 3)) hE hK hP 3 (Nat.lt_of_lt_of_le (by decide) hNN) (xG_1 rfl) rfl hin1 3 (by decide) mw_191 rfl dX0_take_113 ?_
              refine x_top (y := iI (z30)) ez30 ?_
              refine lv_i2l (v := lI (z30)) hE.1 hE.2.1 dX0_take_116 (iI_i2l (by omega)) ?_
              refine W.lcmp hE.1 hE.2.1 dX0_take_117 ?_
              obtain ⟨z31, hz31, ez31⟩ := lcmp_of (a := z23) (b := z30) (by omega) (by omega)
              refine x_top ez31 ?_
              refine s_if_ge (a := z31) (tgt := 125) hE.1 hE.2.1 (by omega) dX0_take_118 (by decide) (fun c32 => ?_) (fun c32 => ?_)
              · skip
                refine lv_iconst (v := iI (0)) hE.1 hE.2.1 dX0_take_125 (by decide) ?_
                refine lv_istore (lv' := [(11, .int (iI (0))), (9, .long (lI (z25))), (7, .long (lI (z24))), (5, .long (lI (z23))), (4, .int (iI (y9_4))), (0, .ref (ad 39)), (1, .ref (ad 67)), (2, .int (iI (z_1))), (3, .ref (ad 3))]) hE.1 hE.2.1 dX0_take_126 hl (by decide) rfl (fun ls hl => ?_)
                refine lv_iload hE.1 hE.2.1 dX0_take_128 (lv_at hl 0 rfl) ?_
                refine s_if_eq (a := 0) (tgt := 159) hE.1 hE.2.1 (by omega) dX0_take_130 (by decide) (fun _ => ?_) (fun c33 => False.elim (by omega))
                refine lv_iconst (v := iI (0)) hE.1 hE.2.1 dX0_take_159 (by decide) ?_
                exact kr _ _ _ _ _ _ _ _ (nar01 (by omega)) ⟨⟨0, by omega, rfl⟩, hI, fun i j h => ((hfr9 i j (fun q => h (mem_sub (by decide) q))).trans (up_oth hv1 (fun q => h (by rcases q with ⟨rfl, rfl⟩; decide))))⟩ hP hS dX0_take_160
              · skip
                refine lv_iconst (v := iI (1)) hE.1 hE.2.1 dX0_take_121 (by decide) ?_
                refine lv_goto (tgt := 126) hE.1 hE.2.1 dX0_take_122 (by decide) ?_
                refine lv_istore (lv' := [(11, .int (iI (1))), (9, .long (lI (z25))), (7, .long (lI (z24))), (5, .long (lI (z23))), (4, .int (iI (y9_4))), (0, .ref (ad 39)), (1, .ref (ad 67)), (2, .int (iI (z_1))), (3, .ref (ad 3))]) hE.1 hE.2.1 dX0_take_126 hl (by decide) rfl (fun ls hl => ?_)
                refine lv_iload hE.1 hE.2.1 dX0_take_128 (lv_at hl 0 rfl) ?_
                refine s_if_eq (a := 1) (tgt := 159) hE.1 hE.2.1 (by omega) dX0_take_130 (by decide) (fun c34 => False.elim (by omega)) (fun _ => ?_)
                refine lv_aload_n hE.1 hE.2.1 dX0_take_133 rfl (lv_at hl 8 rfl) ?_
                refine lv_lload hE.1 hE.2.1 dX0_take_134 (lv_at hl 2 rfl) ?_
                refine x_vp (nn := 1) (As := [.long (lI (z24))]) (rest := []) hE (s_X1_hasNumber_3 l D K ad mm N hNN vl9 arl9 all9 hI  (z24) (by omega)) wPre_blind (wPre_now hK hN hP) (x_recv hK hP 3 (Nat.lt_of_lt_of_le (by decide) hNN) (xG_1 rfl) rfl) rfl mw_1173 mw_1147 mw_1148 mw_116 mw_1149 (by decide +kernel) ⟨by decide, by decide⟩ hl.1 rfl (Nat.le_of_ble_eq_true rfl) ⟨Nat.zero_le _, Nat.zero_le _⟩ dX0_take_136 (fun r35 hr35 => ?_)
                obtain ⟨z35, hz35, rfl⟩ := hr35
                refine s_if_eq (a := z35) (tgt := 159) hE.1 hE.2.1 (by omega) dX0_take_139 (by decide) (fun c36 => ?_) (fun c36 => ?_)
                · skip
                  refine lv_iconst (v := iI (0)) hE.1 hE.2.1 dX0_take_159 (by decide) ?_
                  exact kr _ _ _ _ _ _ _ _ (nar01 (by omega)) ⟨⟨0, by omega, rfl⟩, hI, fun i j h => ((hfr9 i j (fun q => h (mem_sub (by decide) q))).trans (up_oth hv1 (fun q => h (by rcases q with ⟨rfl, rfl⟩; decide))))⟩ hP hS dX0_take_160
                · skip
                  refine lv_aload_n hE.1 hE.2.1 dX0_take_142 rfl (lv_at hl 8 rfl) ?_
                  refine lv_lload hE.1 hE.2.1 dX0_take_143 (lv_at hl 1 rfl) ?_
                  refine x_vp (nn := 1) (As := [.long (lI (z25))]) (rest := []) hE (s_X1_hasNumber_3 l D K ad mm N hNN vl9 arl9 all9 hI  (z25) (by omega)) wPre_blind (wPre_now hK hN hP) (x_recv hK hP 3 (Nat.lt_of_lt_of_le (by decide) hNN) (xG_1 rfl) rfl) rfl mw_1173 mw_1147 mw_1148 mw_116 mw_1149 (by decide +kernel) ⟨by decide, by decide⟩ hl.1 rfl (Nat.le_of_ble_eq_true rfl) ⟨Nat.zero_le _, Nat.zero_le _⟩ dX0_take_145 (fun r37 hr37 => ?_)
                  obtain ⟨z37, hz37, rfl⟩ := hr37
                  refine s_if_eq (a := z37) (tgt := 159) hE.1 hE.2.1 (by omega) dX0_take_148 (by decide) (fun c38 => ?_) (fun c38 => ?_)
                  · skip
                    refine lv_iconst (v := iI (0)) hE.1 hE.2.1 dX0_take_159 (by decide) ?_
                    exact kr _ _ _ _ _ _ _ _ (nar01 (by omega)) ⟨⟨0, by omega, rfl⟩, hI, fun i j h => ((hfr9 i j (fun q => h (mem_sub (by decide) q))).trans (up_oth hv1 (fun q => h (by rcases q with ⟨rfl, rfl⟩; decide))))⟩ hP hS dX0_take_160
                  · skip
                    refine lv_lload hE.1 hE.2.1 dX0_take_151 (lv_at hl 2 rfl) ?_
                    refine lv_lload hE.1 hE.2.1 dX0_take_153 (lv_at hl 1 rfl) ?_
                    refine W.lcmp hE.1 hE.2.1 dX0_take_155 ?_
                    obtain ⟨z39, hz39, ez39⟩ := lcmp_of (a := z24) (b := z25) (by omega) (by omega)
                    refine x_top ez39 ?_
                    refine s_if_ne (a := z39) (tgt := 161) hE.1 hE.2.1 (by omega) dX0_take_156 (by decide) (fun c40 => ?_) (fun c40 => ?_)
                    · skip
                      refine lv_aload_n hE.1 hE.2.1 dX0_take_161 rfl (lv_at hl 5 rfl) ?_
                      refine lv_lload hE.1 hE.2.1 dX0_take_162 (lv_at hl 3 rfl) ?_
                      refine lv_l2i (v := iI (z23)) hE.1 hE.2.1 dX0_take_164 (lI_l2i _) ?_
                      refine lv_lload hE.1 hE.2.1 dX0_take_165 (lv_at hl 2 rfl) ?_
                      refine lv_l2i (v := iI (z24)) hE.1 hE.2.1 dX0_take_167 (lI_l2i _) ?_
                      refine lv_lload hE.1 hE.2.1 dX0_take_168 (lv_at hl 1 rfl) ?_
                      refine lv_l2i (v := iI (z25)) hE.1 hE.2.1 dX0_take_170 (lI_l2i _) ?_
                      refine x_vv (nn := 3) (As := [.int (iI (z23)), .int (iI (z24)), .int (iI (z25))]) (rest := []) hE hK hN hP hS (s_X0_note_39 l D K ad mm N hNN vl9 arl9 all9 hI  (z23) (by omega) (z24) (by omega) (z25) (by omega)) (x_recv hK hP 39 (Nat.lt_of_lt_of_le (by decide) hNN) (xG_0 rfl) rfl) rfl mw_1174 mw_1176 mw_40 mw_118 mw_1177 (by decide +kernel) ⟨by decide, by decide⟩ hl.1 rfl (Nat.le_of_ble_eq_true rfl) ⟨Nat.zero_le _, Nat.zero_le _⟩ dX0_take_171 (fun v41 ar41 al41 H locs hq41 hP hS => ?_)
                      obtain ⟨hI, hq41⟩ := hq41
                      have hI : XI v41 := hI
                      refine lv_iload hE.1 hE.2.1 dX0_take_174 (lv_at hl 4 rfl) ?_
                      refine lv_iload_n hE.1 hE.2.1 dX0_take_176 rfl (lv_at hl 7 rfl) ?_
                      refine lv_iadd hE.1 hE.2.1 dX0_take_177 ?_
                      refine x_top (y := iI (y9_4 + z_1)) ((iI_add (y9_4) (z_1)).trans (congrArg iI (by omega))) ?_
                      refine lv_istore (lv' := [(4, .int (iI (y9_4 + z_1))), (11, .int (iI (1))), (9, .long (lI (z25))), (7, .long (lI (z24))), (5, .long (lI (z23))), (0, .ref (ad 39)), (1, .ref (ad 67)), (2, .int (iI (z_1))), (3, .ref (ad 3))]) hE.1 hE.2.1 dX0_take_178 hl (by decide) rfl (fun ls hl => ?_)
                      refine lv_goto (tgt := 48) hE.1 hE.2.1 dX0_take_180 (by decide) ?_
                      exact ih9 _ (by omega) (y9_4 + z_1) v41 ar41 al41 _ _ _ rfl (by omega) hI (fun i j h => ((hq41 i j (fun q => h (mem_sub (by decide) q))).trans (hfr9 i j h))) hP hS (lv_sub hl [0, 5, 6, 7, 8] rfl)
                    · skip
                      refine lv_iconst (v := iI (0)) hE.1 hE.2.1 dX0_take_159 (by decide) ?_
                      exact kr _ _ _ _ _ _ _ _ (nar01 (by omega)) ⟨⟨0, by omega, rfl⟩, hI, fun i j h => ((hfr9 i j (fun q => h (mem_sub (by decide) q))).trans (up_oth hv1 (fun q => h (by rcases q with ⟨rfl, rfl⟩; decide))))⟩ hP hS dX0_take_160
    exact loop9 _ (0) v1 ar4 al4 _ _ _ rfl (by omega) hI (fun _ _ _ => rfl) hP hS hl
  · skip
    refine lv_iconst (v := iI (0)) hE.1 hE.2.1 dX0_take_43 (by decide) ?_
    exact kr _ _ _ _ _ _ _ _ (nar01 (by omega)) ⟨⟨0, by omega, rfl⟩, hI, fun i j h => (up_oth hv1 (fun q => h (by rcases q with ⟨rfl, rfl⟩; decide)))⟩ hP hS dX0_take_44

set_option maxHeartbeats 4000000 in
set_option maxRecDepth 100000 in
theorem s_X5_numberAt_69 (l : Launch) (D : va_G) (K : Nat → ClassId) (ad : Nat → Nat) (mm : Option Nat) (N : Nat) (hNN : 132 ≤ N) (v ar : sI) (al : sL) (hI : XI v) (z_1 : Int) (hz_1 : -2147483648 ≤ z_1 ∧ z_1 ≤ 2147483647) : Met l yX5_numberAt (wM yX5_numberAt cX5_numberAt 2 (some .long)) (rmD 0) (va_Pc [.ref (ad 69), .int (iI (z_1))] (wPre D K ad (xG ad K mm) N v ar al)) (vp_Sl (fun r => ∃ z : Int, (-9223372036854775808 ≤ z ∧ z ≤ 9223372036854775807) ∧ r = lI z)) 0 0 (fun _ => False) := by
  refine s_metL (by decide) (Nat.le_of_ble_eq_true rfl) ?_
  intro p e s m below meth c ls args Q hE hB hl kr
  have hE : CallFix p m c cX5_numberAt 2 s args tbG "TaleCourt$Row" := hE
  obtain ⟨hP, hK, hN⟩ := hB
  have hl : lv_has ls 2 [(0, .ref (ad 69)), (1, .int (iI (z_1)))] := hl
  refine lv_iload_n hE.1 hE.2.1 dX5_numberAt_0 rfl (lv_at hl 1 rfl) ?_
  refine s_if_lt (a := z_1) (tgt := 27) hE.1 hE.2.1 (by omega) dX5_numberAt_1 (by decide) (fun c1 => ?_) (fun c1 => ?_)
  · skip
    refine lv_ldc2 (v := (-1)) hE.1 hE.2.1 hE.2.2.2.1 (hE.2.2.2.2 _ mw_1172) dX5_numberAt_27 ?_
    refine x_topl (y := lI (-1)) (by decide) ?_
    exact kr _ _ _ ⟨-1, by omega, rfl⟩ dX5_numberAt_30
  · skip
    refine lv_iload_n hE.1 hE.2.1 dX5_numberAt_4 rfl (lv_at hl 1 rfl) ?_
    refine lv_aload_n hE.1 hE.2.1 dX5_numberAt_5 rfl (lv_at hl 0 rfl) ?_
    obtain ⟨z2, hz2, ez2⟩ := XI_get hI 69 2 (-1) 60 (by decide)
    refine x_get (x := .int (v 69 2)) hE hK hP 69 (Nat.lt_of_lt_of_le (by decide) hNN) (xG_5 rfl) rfl hin5 2 (by decide) mw_449 rfl dX5_numberAt_6 ?_
    refine x_top (y := iI (z2)) ez2 ?_
    refine s_icmp_ge (a := z_1) (b := z2) (tgt := 27) hE.1 hE.2.1 (by omega) (by omega) dX5_numberAt_9 (by decide) (fun c3 => ?_) (fun c3 => ?_)
    · skip
      refine lv_ldc2 (v := (-1)) hE.1 hE.2.1 hE.2.2.2.1 (hE.2.2.2.2 _ mw_1172) dX5_numberAt_27 ?_
      refine x_topl (y := lI (-1)) (by decide) ?_
      exact kr _ _ _ ⟨-1, by omega, rfl⟩ dX5_numberAt_30
    · skip
      refine lv_iload_n hE.1 hE.2.1 dX5_numberAt_12 rfl (lv_at hl 1 rfl) ?_
      refine lv_bipush (v := iI (60)) hE.1 hE.2.1 dX5_numberAt_13 (by decide) ?_
      refine s_icmp_ge (a := z_1) (b := 60) (tgt := 27) hE.1 hE.2.1 (by omega) (by omega) dX5_numberAt_15 (by decide) (fun c4 => False.elim (by omega)) (fun _ => ?_)
      refine lv_aload_n hE.1 hE.2.1 dX5_numberAt_18 rfl (lv_at hl 0 rfl) ?_
      refine x_get (x := .ref (ad 70)) hE hK hP 69 (Nat.lt_of_lt_of_le (by decide) hNN) (xG_5 rfl) rfl hin5 0 (by decide) mw_445 rfl dX5_numberAt_19 ?_
      refine lv_iload_n hE.1 hE.2.1 dX5_numberAt_22 rfl (lv_at hl 1 rfl) ?_
      refine x_lald (j := iI (z_1)) hE hK hP 70 (Nat.lt_of_lt_of_le (by decide) hNN) (xG_11 rfl) (iI_in (n := 60) (by omega)) dX5_numberAt_23 ?_
      obtain ⟨z6, hz6, ez6⟩ := lI_of (al 70 (iI (z_1)).toNatClampNeg)
      refine x_topl ez6 ?_
      refine lv_goto (tgt := 30) hE.1 hE.2.1 dX5_numberAt_24 (by decide) ?_
      exact kr _ _ _ ⟨z6, by omega, rfl⟩ dX5_numberAt_30

set_option maxHeartbeats 4000000 in
set_option maxRecDepth 100000 in
theorem s_X0_take_39_69_3 (l : Launch) (D : va_G) (K : Nat → ClassId) (ad : Nat → Nat) (mm : Option Nat) (N : Nat) (hNN : 132 ≤ N) (v ar : sI) (al : sL) (hI : XI v) (z_1 : Int) (hz_1 : 2 ≤ z_1 ∧ z_1 ≤ 3) : Met l yX0_take (wM yX0_take cX0_take 12 (some .boolean)) (rmD 1) (va_Pc [.ref (ad 39), .ref (ad 69), .int (iI (z_1)), .ref (ad 3)] (wPre D K ad (xG ad K mm) N v ar al)) (va_Qi (fun (r : Int32) (u : sT) => (∃ z : Int, (0 ≤ z ∧ z ≤ 1) ∧ r = iI z) ∧ XI u.1 ∧ (∀ i j : Nat, (i, j) ∉ ([(39, 0)] : List (Nat × Nat)) → u.1 i j = v i j)) (wB D ad (xG ad K mm) N) (inW ad N)) 0 0 (inW ad N) := by
  refine s_metI (by decide) (Nat.le_of_ble_eq_true rfl) ?_
  intro p e s m below meth c ls args Q hE hB hl kr
  have hE : CallFix p m c cX0_take 12 s args tbG "TaleCourt$Claims" := hE
  obtain ⟨hP, hK, hN⟩ := hB
  have hS : va_S (inW ad N) s.heap s.heap [] := va_S.rf
  have hl : lv_has ls 12 [(0, .ref (ad 39)), (1, .ref (ad 69)), (2, .int (iI (z_1))), (3, .ref (ad 3))] := hl
  refine lv_aload_n hE.1 hE.2.1 dX0_take_0 rfl (lv_at hl 0 rfl) ?_
  refine lv_iconst (v := iI (0)) hE.1 hE.2.1 dX0_take_1 (by decide) ?_
  refine x_put (x := iI (0)) hE hK hN hP hS 39 (Nat.lt_of_lt_of_le (by decide) hNN) (xG_0 rfl) rfl hin0 tyX0 tyX0_ok nmX0 0 (by decide) mw_358 rfl rfl rfl (Nat.le_of_ble_eq_true rfl) (xG_0 rfl) dX0_take_2 (fun v1 H locs hv1 hP hS => ?_)
  have hI := XI_putN hI hv1 (by decide)
  refine lv_aload_n hE.1 hE.2.1 dX0_take_5 rfl (lv_at hl 0 rfl) ?_
  refine x_get (x := .ref (ad 40)) hE hK hP 39 (Nat.lt_of_lt_of_le (by decide) hNN) (xG_0 rfl) rfl hin0 1 (by decide) mw_360 rfl dX0_take_6 ?_
  refine lv_iconst (v := iI (0)) hE.1 hE.2.1 dX0_take_9 (by decide) ?_
  refine x_sv (nn := 2) (As := [.ref (ad 40), .int (iI (0))]) (rest := []) hE hK hN hP hS (k_fillI l D K ad v1 ar al 40 81 (Nat.lt_of_lt_of_le (by decide) hNN) (fun _ => xG_10 rfl) (Nat.le_of_ble_eq_true rfl) (iI (0))) rfl mw_1167 mw_536 mw_124 mw_537 (by decide +kernel) ⟨by decide, by decide⟩ hl.1 rfl (Nat.le_of_ble_eq_true rfl) ⟨Nat.zero_le _, Nat.zero_le _⟩ dX0_take_10 (fun v2 ar2 al2 H locs hq2 hP hS => ?_)
  rw [show v2 = v1 from hq2.1] at hP
  refine lv_aload_n hE.1 hE.2.1 dX0_take_13 rfl (lv_at hl 0 rfl) ?_
  refine x_get (x := .ref (ad 41)) hE hK hP 39 (Nat.lt_of_lt_of_le (by decide) hNN) (xG_0 rfl) rfl hin0 2 (by decide) mw_361 rfl dX0_take_14 ?_
  refine lv_iconst (v := iI (0)) hE.1 hE.2.1 dX0_take_17 (by decide) ?_
  refine x_sv (nn := 2) (As := [.ref (ad 41), .int (iI (0))]) (rest := []) hE hK hN hP hS (k_fillI l D K ad v1 ar2 al2 41 9 (Nat.lt_of_lt_of_le (by decide) hNN) (fun _ => xG_10 rfl) (Nat.le_of_ble_eq_true rfl) (iI (0))) rfl mw_1167 mw_536 mw_124 mw_537 (by decide +kernel) ⟨by decide, by decide⟩ hl.1 rfl (Nat.le_of_ble_eq_true rfl) ⟨Nat.zero_le _, Nat.zero_le _⟩ dX0_take_18 (fun v3 ar3 al3 H locs hq3 hP hS => ?_)
  rw [show v3 = v1 from hq3.1] at hP
  refine lv_aload_n hE.1 hE.2.1 dX0_take_21 rfl (lv_at hl 0 rfl) ?_
  refine x_get (x := .ref (ad 42)) hE hK hP 39 (Nat.lt_of_lt_of_le (by decide) hNN) (xG_0 rfl) rfl hin0 3 (by decide) mw_362 rfl dX0_take_22 ?_
  refine lv_iconst (v := iI (0)) hE.1 hE.2.1 dX0_take_25 (by decide) ?_
  refine x_sv (nn := 2) (As := [.ref (ad 42), .int (iI (0))]) (rest := []) hE hK hN hP hS (k_fillI l D K ad v1 ar3 al3 42 72 (Nat.lt_of_lt_of_le (by decide) hNN) (fun _ => xG_10 rfl) (Nat.le_of_ble_eq_true rfl) (iI (0))) rfl mw_1167 mw_536 mw_124 mw_537 (by decide +kernel) ⟨by decide, by decide⟩ hl.1 rfl (Nat.le_of_ble_eq_true rfl) ⟨Nat.zero_le _, Nat.zero_le _⟩ dX0_take_26 (fun v4 ar4 al4 H locs hq4 hP hS => ?_)
  rw [show v4 = v1 from hq4.1] at hP
  refine lv_iload_n hE.1 hE.2.1 dX0_take_29 rfl (lv_at hl 2 rfl) ?_
  refine lv_iconst (v := iI (1)) hE.1 hE.2.1 dX0_take_30 (by decide) ?_
  refine s_icmp_lt (a := z_1) (b := 1) (tgt := 43) hE.1 hE.2.1 (by omega) (by omega) dX0_take_31 (by decide) (fun c5 => False.elim (by omega)) (fun _ => ?_)
  refine lv_aload_n hE.1 hE.2.1 dX0_take_34 rfl (lv_at hl 1 rfl) ?_
  obtain ⟨z6, hz6, ez6⟩ := XI_get hI 69 2 (-1) 60 (by decide)
  refine x_get (x := .int (v1 69 2)) hE hK hP 69 (Nat.lt_of_lt_of_le (by decide) hNN) (xG_5 rfl) rfl hin5 2 (by decide) mw_450 rfl dX0_take_35 ?_
  refine x_top (y := iI (z6)) ez6 ?_
  refine lv_iload_n hE.1 hE.2.1 dX0_take_38 rfl (lv_at hl 2 rfl) ?_
  refine lv_irem hE.1 hE.2.1 dX0_take_39 (iI_ne0 (by omega) (by omega)) ?_
  obtain ⟨z7, hz7, ez7⟩ := iI_of (iI (z6) - iI (z6) / iI (z_1) * iI (z_1))
  refine x_top ez7 ?_
  refine s_if_eq (a := z7) (tgt := 45) hE.1 hE.2.1 (by omega) dX0_take_40 (by decide) (fun c8 => ?_) (fun c8 => ?_)
  · skip
    refine lv_iconst (v := iI (0)) hE.1 hE.2.1 dX0_take_45 (by decide) ?_
    refine lv_istore (lv' := [(4, .int (iI (0))), (0, .ref (ad 39)), (1, .ref (ad 69)), (2, .int (iI (z_1))), (3, .ref (ad 3))]) hE.1 hE.2.1 dX0_take_46 hl (by decide) rfl (fun ls hl => ?_)
    have loop9 : ∀ (k9 : Nat) (y9_4 : Int) (vl9 arl9 : sI) (all9 : sL) (H : Heap) (locs : List Loc) (ls : Array Slot), (60 - y9_4).toNat = k9 → (0 ≤ y9_4 ∧ y9_4 ≤ 63) → XI vl9 → (∀ i j : Nat, (i, j) ∉ ([(39, 0)] : List (Nat × Nat)) → vl9 i j = v1 i j) → va_P D xcl (wW ad (xG ad K mm) N vl9 arl9 all9) H → va_S (inW ad N) s.heap H locs → lv_has ls 12 [(4, .int (iI (y9_4))), (0, .ref (ad 39)), (1, .ref (ad 69)), (2, .int (iI (z_1))), (3, .ref (ad 3))] → W p l e (rmD 1) s m args below meth c H locs 0 0 Q (F0 m 48 ls []) := by
      intro k9
      induction k9 using Nat.strongRecOn with
      | _ k9 ih9 =>
        intro y9_4 vl9 arl9 all9 H locs ls hk9 hb_y9_4 hI hfr9 hP hS hl
        refine lv_iload hE.1 hE.2.1 dX0_take_48 (lv_at hl 0 rfl) ?_
        refine lv_aload_n hE.1 hE.2.1 dX0_take_50 rfl (lv_at hl 2 rfl) ?_
        refine x_get (x := .int (vl9 69 2)) hE hK hP 69 (Nat.lt_of_lt_of_le (by decide) hNN) (xG_5 rfl) rfl hin5 2 (by decide) mw_450 rfl dX0_take_51 ?_
        refine x_top (y := iI (z6)) ((hfr9 69 2 (by decide)).trans ez6) ?_
        refine s_icmp_ge (a := y9_4) (b := z6) (tgt := 183) hE.1 hE.2.1 (by omega) (by omega) dX0_take_54 (by decide) (fun c10 => ?_) (fun c10 => ?_)
        · skip
          refine lv_iconst (v := iI (1)) hE.1 hE.2.1 dX0_take_183 (by decide) ?_
          exact kr _ _ _ _ _ _ _ _ (nar01 (by omega)) ⟨⟨1, by omega, rfl⟩, hI, fun i j h => ((hfr9 i j (fun q => h (mem_sub (by decide) q))).trans (up_oth hv1 (fun q => h (by rcases q with ⟨rfl, rfl⟩; decide))))⟩ hP hS dX0_take_184
        · skip
          refine lv_iload_n hE.1 hE.2.1 dX0_take_57 rfl (lv_at hl 3 rfl) ?_
          refine lv_iconst (v := iI (3)) hE.1 hE.2.1 dX0_take_58 (by decide) ?_
          refine s_icmp_ne (a := z_1) (b := 3) (tgt := 71) hE.1 hE.2.1 (by omega) (by omega) dX0_take_59 (by decide) (fun c11 => ?_) (fun c11 => ?_)
          · skip
            refine lv_lconst (v := lI (0)) hE.1 hE.2.1 dX0_take_71 (by decide) ?_
            refine lv_lstore (lv' := [(5, .long (lI (0))), (4, .int (iI (y9_4))), (0, .ref (ad 39)), (1, .ref (ad 69)), (2, .int (iI (z_1))), (3, .ref (ad 3))]) hE.1 hE.2.1 dX0_take_72 hl (by decide) rfl (fun ls hl => ?_)
            refine lv_aload_n hE.1 hE.2.1 dX0_take_74 rfl (lv_at hl 3 rfl) ?_
            refine lv_iload hE.1 hE.2.1 dX0_take_75 (lv_at hl 1 rfl) ?_
            refine lv_iload_n hE.1 hE.2.1 dX0_take_77 rfl (lv_at hl 4 rfl) ?_
            refine lv_iadd hE.1 hE.2.1 dX0_take_78 ?_
            refine x_top (y := iI (y9_4 + z_1)) ((iI_add (y9_4) (z_1)).trans (congrArg iI (by omega))) ?_
            refine lv_iconst (v := iI (2)) hE.1 hE.2.1 dX0_take_79 (by decide) ?_
            refine lv_isub hE.1 hE.2.1 dX0_take_80 ?_
            refine x_top (y := iI (y9_4 + z_1 - 2)) ((iI_sub (y9_4 + z_1) (2)).trans (congrArg iI (by omega))) ?_
            refine x_vpl (nn := 1) (As := [.int (iI (y9_4 + z_1 - 2))]) (rest := []) hE (s_X5_numberAt_69 l D K ad mm N hNN vl9 arl9 all9 hI  (y9_4 + z_1 - 2) (by omega)) wPre_blind (wPre_now hK hN hP) (x_recv hK hP 69 (Nat.lt_of_lt_of_le (by decide) hNN) (xG_5 rfl) rfl) rfl mw_1168 mw_1169 mw_1170 mw_121 mw_1171 (by decide +kernel) ⟨by decide, by decide⟩ hl.1 rfl (Nat.le_of_ble_eq_true rfl) ⟨Nat.zero_le _, Nat.zero_le _⟩ dX0_take_81 (fun r12 hr12 => ?_)
            obtain ⟨z12, hz12, rfl⟩ := hr12
            refine lv_lstore (lv' := [(7, .long (lI (z12))), (5, .long (lI (0))), (4, .int (iI (y9_4))), (0, .ref (ad 39)), (1, .ref (ad 69)), (2, .int (iI (z_1))), (3, .ref (ad 3))]) hE.1 hE.2.1 dX0_take_84 hl (by decide) rfl (fun ls hl => ?_)
            refine lv_aload_n hE.1 hE.2.1 dX0_take_86 rfl (lv_at hl 4 rfl) ?_
            refine lv_iload hE.1 hE.2.1 dX0_take_87 (lv_at hl 2 rfl) ?_
            refine lv_iload_n hE.1 hE.2.1 dX0_take_89 rfl (lv_at hl 5 rfl) ?_
            refine lv_iadd hE.1 hE.2.1 dX0_take_90 ?_
            refine x_top (y := iI (y9_4 + z_1)) ((iI_add (y9_4) (z_1)).trans (congrArg iI (by omega))) ?_
            refine lv_iconst (v := iI (1)) hE.1 hE.2.1 dX0_take_91 (by decide) ?_
            refine lv_isub hE.1 hE.2.1 dX0_take_92 ?_
            refine x_top (y := iI (y9_4 + z_1 - 1)) ((iI_sub (y9_4 + z_1) (1)).trans (congrArg iI (by omega))) ?_
            refine x_vpl (nn := 1) (As := [.int (iI (y9_4 + z_1 - 1))]) (rest := []) hE (s_X5_numberAt_69 l D K ad mm N hNN vl9 arl9 all9 hI  (y9_4 + z_1 - 1) (by omega)) wPre_blind (wPre_now hK hN hP) (x_recv hK hP 69 (Nat.lt_of_lt_of_le (by decide) hNN) (xG_5 rfl) rfl) rfl mw_1168 mw_1169 mw_1170 mw_121 mw_1171 (by decide +kernel) ⟨by decide, by decide⟩ hl.1 rfl (Nat.le_of_ble_eq_true rfl) ⟨Nat.zero_le _, Nat.zero_le _⟩ dX0_take_93 (fun r13 hr13 => ?_)
            obtain ⟨z13, hz13, rfl⟩ := hr13
            refine lv_lstore (lv' := [(9, .long (lI (z13))), (7, .long (lI (z12))), (5, .long (lI (0))), (4, .int (iI (y9_4))), (0, .ref (ad 39)), (1, .ref (ad 69)), (2, .int (iI (z_1))), (3, .ref (ad 3))]) hE.1 hE.2.1 dX0_take_96 hl (by decide) rfl (fun ls hl => ?_)
            refine lv_iload_n hE.1 hE.2.1 dX0_take_98 rfl (lv_at hl 6 rfl) ?_
            refine lv_iconst (v := iI (3)) hE.1 hE.2.1 dX0_take_99 (by decide) ?_
            refine s_icmp_ne (a := z_1) (b := 3) (tgt := 121) hE.1 hE.2.1 (by omega) (by omega) dX0_take_100 (by decide) (fun _ => ?_) (fun c14 => False.elim (by omega))
            refine lv_iconst (v := iI (1)) hE.1 hE.2.1 dX0_take_121 (by decide) ?_
            refine lv_goto (tgt := 126) hE.1 hE.2.1 dX0_take_122 (by decide) ?_
            refine lv_istore (lv' := [(11, .int (iI (1))), (9, .long (lI (z13))), (7, .long (lI (z12))), (5, .long (lI (0))), (4, .int (iI (y9_4))), (0, .ref (ad 39)), (1, .ref (ad 69)), (2, .int (iI (z_1))), (3, .ref (ad 3))]) hE.1 hE.2.1 dX0_take_126 hl (by decide) rfl (fun ls hl => ?_)
            refine lv_iload hE.1 hE.2.1 dX0_take_128 (lv_at hl 0 rfl) ?_
            refine s_if_eq (a := 1) (tgt := 159) hE.1 hE.2.1 (by omega) dX0_take_130 (by decide) (fun c15 => False.elim (by omega)) (fun _ => ?_)
            refine lv_aload_n hE.1 hE.2.1 dX0_take_133 rfl (lv_at hl 8 rfl) ?_
            refine lv_lload hE.1 hE.2.1 dX0_take_134 (lv_at hl 2 rfl) ?_
            refine x_vp (nn := 1) (As := [.long (lI (z12))]) (rest := []) hE (s_X1_hasNumber_3 l D K ad mm N hNN vl9 arl9 all9 hI  (z12) (by omega)) wPre_blind (wPre_now hK hN hP) (x_recv hK hP 3 (Nat.lt_of_lt_of_le (by decide) hNN) (xG_1 rfl) rfl) rfl mw_1173 mw_1147 mw_1148 mw_116 mw_1149 (by decide +kernel) ⟨by decide, by decide⟩ hl.1 rfl (Nat.le_of_ble_eq_true rfl) ⟨Nat.zero_le _, Nat.zero_le _⟩ dX0_take_136 (fun r16 hr16 => ?_)
            obtain ⟨z16, hz16, rfl⟩ := hr16
            refine s_if_eq (a := z16) (tgt := 159) hE.1 hE.2.1 (by omega) dX0_take_139 (by decide) (fun c17 => ?_) (fun c17 => ?_)
            · skip
              refine lv_iconst (v := iI (0)) hE.1 hE.2.1 dX0_take_159 (by decide) ?_
              exact kr _ _ _ _ _ _ _ _ (nar01 (by omega)) ⟨⟨0, by omega, rfl⟩, hI, fun i j h => ((hfr9 i j (fun q => h (mem_sub (by decide) q))).trans (up_oth hv1 (fun q => h (by rcases q with ⟨rfl, rfl⟩; decide))))⟩ hP hS dX0_take_160
            · skip
              refine lv_aload_n hE.1 hE.2.1 dX0_take_142 rfl (lv_at hl 8 rfl) ?_
              refine lv_lload hE.1 hE.2.1 dX0_take_143 (lv_at hl 1 rfl) ?_
              refine x_vp (nn := 1) (As := [.long (lI (z13))]) (rest := []) hE (s_X1_hasNumber_3 l D K ad mm N hNN vl9 arl9 all9 hI  (z13) (by omega)) wPre_blind (wPre_now hK hN hP) (x_recv hK hP 3 (Nat.lt_of_lt_of_le (by decide) hNN) (xG_1 rfl) rfl) rfl mw_1173 mw_1147 mw_1148 mw_116 mw_1149 (by decide +kernel) ⟨by decide, by decide⟩ hl.1 rfl (Nat.le_of_ble_eq_true rfl) ⟨Nat.zero_le _, Nat.zero_le _⟩ dX0_take_145 (fun r18 hr18 => ?_)
              obtain ⟨z18, hz18, rfl⟩ := hr18
              refine s_if_eq (a := z18) (tgt := 159) hE.1 hE.2.1 (by omega) dX0_take_148 (by decide) (fun c19 => ?_) (fun c19 => ?_)
              · skip
                refine lv_iconst (v := iI (0)) hE.1 hE.2.1 dX0_take_159 (by decide) ?_
                exact kr _ _ _ _ _ _ _ _ (nar01 (by omega)) ⟨⟨0, by omega, rfl⟩, hI, fun i j h => ((hfr9 i j (fun q => h (mem_sub (by decide) q))).trans (up_oth hv1 (fun q => h (by rcases q with ⟨rfl, rfl⟩; decide))))⟩ hP hS dX0_take_160
              · skip
                refine lv_lload hE.1 hE.2.1 dX0_take_151 (lv_at hl 2 rfl) ?_
                refine lv_lload hE.1 hE.2.1 dX0_take_153 (lv_at hl 1 rfl) ?_
                refine W.lcmp hE.1 hE.2.1 dX0_take_155 ?_
                obtain ⟨z20, hz20, ez20⟩ := lcmp_of (a := z12) (b := z13) (by omega) (by omega)
                refine x_top ez20 ?_
                refine s_if_ne (a := z20) (tgt := 161) hE.1 hE.2.1 (by omega) dX0_take_156 (by decide) (fun c21 => ?_) (fun c21 => ?_)
                · skip
                  refine lv_aload_n hE.1 hE.2.1 dX0_take_161 rfl (lv_at hl 5 rfl) ?_
                  refine lv_lload hE.1 hE.2.1 dX0_take_162 (lv_at hl 3 rfl) ?_
                  refine lv_l2i (v := iI (0)) hE.1 hE.2.1 dX0_take_164 (lI_l2i _) ?_
                  refine lv_lload hE.1 hE.2.1 dX0_take_165 (lv_at hl 2 rfl) ?_
                  refine lv_l2i (v := iI (z12)) hE.1 hE.2.1 dX0_take_167 (lI_l2i _) ?_
                  refine lv_lload hE.1 hE.2.1 dX0_take_168 (lv_at hl 1 rfl) ?_
                  refine lv_l2i (v := iI (z13)) hE.1 hE.2.1 dX0_take_170 (lI_l2i _) ?_
                  refine x_vv (nn := 3) (As := [.int (iI (0)), .int (iI (z12)), .int (iI (z13))]) (rest := []) hE hK hN hP hS (s_X0_note_39 l D K ad mm N hNN vl9 arl9 all9 hI  (0) (by omega) (z12) (by omega) (z13) (by omega)) (x_recv hK hP 39 (Nat.lt_of_lt_of_le (by decide) hNN) (xG_0 rfl) rfl) rfl mw_1174 mw_1176 mw_40 mw_118 mw_1177 (by decide +kernel) ⟨by decide, by decide⟩ hl.1 rfl (Nat.le_of_ble_eq_true rfl) ⟨Nat.zero_le _, Nat.zero_le _⟩ dX0_take_171 (fun v22 ar22 al22 H locs hq22 hP hS => ?_)
                  obtain ⟨hI, hq22⟩ := hq22
                  have hI : XI v22 := hI
                  refine lv_iload hE.1 hE.2.1 dX0_take_174 (lv_at hl 4 rfl) ?_
                  refine lv_iload_n hE.1 hE.2.1 dX0_take_176 rfl (lv_at hl 7 rfl) ?_
                  refine lv_iadd hE.1 hE.2.1 dX0_take_177 ?_
                  refine x_top (y := iI (y9_4 + z_1)) ((iI_add (y9_4) (z_1)).trans (congrArg iI (by omega))) ?_
                  refine lv_istore (lv' := [(4, .int (iI (y9_4 + z_1))), (11, .int (iI (1))), (9, .long (lI (z13))), (7, .long (lI (z12))), (5, .long (lI (0))), (0, .ref (ad 39)), (1, .ref (ad 69)), (2, .int (iI (z_1))), (3, .ref (ad 3))]) hE.1 hE.2.1 dX0_take_178 hl (by decide) rfl (fun ls hl => ?_)
                  refine lv_goto (tgt := 48) hE.1 hE.2.1 dX0_take_180 (by decide) ?_
                  exact ih9 _ (by omega) (y9_4 + z_1) v22 ar22 al22 _ _ _ rfl (by omega) hI (fun i j h => ((hq22 i j (fun q => h (mem_sub (by decide) q))).trans (hfr9 i j h))) hP hS (lv_sub hl [0, 5, 6, 7, 8] rfl)
                · skip
                  refine lv_iconst (v := iI (0)) hE.1 hE.2.1 dX0_take_159 (by decide) ?_
                  exact kr _ _ _ _ _ _ _ _ (nar01 (by omega)) ⟨⟨0, by omega, rfl⟩, hI, fun i j h => ((hfr9 i j (fun q => h (mem_sub (by decide) q))).trans (up_oth hv1 (fun q => h (by rcases q with ⟨rfl, rfl⟩; decide))))⟩ hP hS dX0_take_160
          · skip
            refine lv_aload_n hE.1 hE.2.1 dX0_take_62 rfl (lv_at hl 2 rfl) ?_
            refine lv_iload hE.1 hE.2.1 dX0_take_63 (lv_at hl 0 rfl) ?_
            refine x_vpl (nn := 1) (As := [.int (iI (y9_4))]) (rest := []) hE (s_X5_numberAt_69 l D K ad mm N hNN vl9 arl9 all9 hI  (y9_4) (by omega)) wPre_blind (wPre_now hK hN hP) (x_recv hK hP 69 (Nat.lt_of_lt_of_le (by decide) hNN) (xG_5 rfl) rfl) rfl mw_1168 mw_1169 mw_1170 mw_121 mw_1171 (by decide +kernel) ⟨by decide, by decide⟩ hl.1 rfl (Nat.le_of_ble_eq_true rfl) ⟨Nat.zero_le _, Nat.zero_le _⟩ dX0_take_65 (fun r23 hr23 => ?_)
            obtain ⟨z23, hz23, rfl⟩ := hr23
            refine lv_goto (tgt := 72) hE.1 hE.2.1 dX0_take_68 (by decide) ?_
            refine lv_lstore (lv' := [(5, .long (lI (z23))), (4, .int (iI (y9_4))), (0, .ref (ad 39)), (1, .ref (ad 69)), (2, .int (iI (z_1))), (3, .ref (ad 3))]) hE.1 hE.2.1 dX0_take_72 hl (by decide) rfl (fun ls hl => ?_)
            refine lv_aload_n hE.1 hE.2.1 dX0_take_74 rfl (lv_at hl 3 rfl) ?_
            refine lv_iload hE.1 hE.2.1 dX0_take_75 (lv_at hl 1 rfl) ?_
            refine lv_iload_n hE.1 hE.2.1 dX0_take_77 rfl (lv_at hl 4 rfl) ?_
            refine lv_iadd hE.1 hE.2.1 dX0_take_78 ?_
            refine x_top (y := iI (y9_4 + z_1)) ((iI_add (y9_4) (z_1)).trans (congrArg iI (by omega))) ?_
            refine lv_iconst (v := iI (2)) hE.1 hE.2.1 dX0_take_79 (by decide) ?_
            refine lv_isub hE.1 hE.2.1 dX0_take_80 ?_
            refine x_top (y := iI (y9_4 + z_1 - 2)) ((iI_sub (y9_4 + z_1) (2)).trans (congrArg iI (by omega))) ?_
            refine x_vpl (nn := 1) (As := [.int (iI (y9_4 + z_1 - 2))]) (rest := []) hE (s_X5_numberAt_69 l D K ad mm N hNN vl9 arl9 all9 hI  (y9_4 + z_1 - 2) (by omega)) wPre_blind (wPre_now hK hN hP) (x_recv hK hP 69 (Nat.lt_of_lt_of_le (by decide) hNN) (xG_5 rfl) rfl) rfl mw_1168 mw_1169 mw_1170 mw_121 mw_1171 (by decide +kernel) ⟨by decide, by decide⟩ hl.1 rfl (Nat.le_of_ble_eq_true rfl) ⟨Nat.zero_le _, Nat.zero_le _⟩ dX0_take_81 (fun r24 hr24 => ?_)
            obtain ⟨z24, hz24, rfl⟩ := hr24
            refine lv_lstore (lv' := [(7, .long (lI (z24))), (5, .long (lI (z23))), (4, .int (iI (y9_4))), (0, .ref (ad 39)), (1, .ref (ad 69)), (2, .int (iI (z_1))), (3, .ref (ad 3))]) hE.1 hE.2.1 dX0_take_84 hl (by decide) rfl (fun ls hl => ?_)
            refine lv_aload_n hE.1 hE.2.1 dX0_take_86 rfl (lv_at hl 4 rfl) ?_
            refine lv_iload hE.1 hE.2.1 dX0_take_87 (lv_at hl 2 rfl) ?_
            refine lv_iload_n hE.1 hE.2.1 dX0_take_89 rfl (lv_at hl 5 rfl) ?_
            refine lv_iadd hE.1 hE.2.1 dX0_take_90 ?_
            refine x_top (y := iI (y9_4 + z_1)) ((iI_add (y9_4) (z_1)).trans (congrArg iI (by omega))) ?_
            refine lv_iconst (v := iI (1)) hE.1 hE.2.1 dX0_take_91 (by decide) ?_
            refine lv_isub hE.1 hE.2.1 dX0_take_92 ?_
            refine x_top (y := iI (y9_4 + z_1 - 1)) ((iI_sub (y9_4 + z_1) (1)).trans (congrArg iI (by omega))) ?_
            refine x_vpl (nn := 1) (As := [.int (iI (y9_4 + z_1 - 1))]) (rest := []) hE (s_X5_numberAt_69 l D K ad mm N hNN vl9 arl9 all9 hI  (y9_4 + z_1 - 1) (by omega)) wPre_blind (wPre_now hK hN hP) (x_recv hK hP 69 (Nat.lt_of_lt_of_le (by decide) hNN) (xG_5 rfl) rfl) rfl mw_1168 mw_1169 mw_1170 mw_121 mw_1171 (by decide +kernel) ⟨by decide, by decide⟩ hl.1 rfl (Nat.le_of_ble_eq_true rfl) ⟨Nat.zero_le _, Nat.zero_le _⟩ dX0_take_93 (fun r25 hr25 => ?_)
            obtain ⟨z25, hz25, rfl⟩ := hr25
            refine lv_lstore (lv' := [(9, .long (lI (z25))), (7, .long (lI (z24))), (5, .long (lI (z23))), (4, .int (iI (y9_4))), (0, .ref (ad 39)), (1, .ref (ad 69)), (2, .int (iI (z_1))), (3, .ref (ad 3))]) hE.1 hE.2.1 dX0_take_96 hl (by decide) rfl (fun ls hl => ?_)
            refine lv_iload_n hE.1 hE.2.1 dX0_take_98 rfl (lv_at hl 6 rfl) ?_
            refine lv_iconst (v := iI (3)) hE.1 hE.2.1 dX0_take_99 (by decide) ?_
            refine s_icmp_ne (a := z_1) (b := 3) (tgt := 121) hE.1 hE.2.1 (by omega) (by omega) dX0_take_100 (by decide) (fun c26 => False.elim (by omega)) (fun _ => ?_)
            refine lv_lload hE.1 hE.2.1 dX0_take_103 (lv_at hl 2 rfl) ?_
            refine lv_lconst (v := lI (0)) hE.1 hE.2.1 dX0_take_105 (by decide) ?_
            refine W.lcmp hE.1 hE.2.1 dX0_take_106 ?_
            obtain ⟨z27, hz27, ez27⟩ := lcmp_of (a := z23) (b := 0) (by omega) (by omega)
            refine x_top ez27 ?_
            refine s_if_lt (a := z27) (tgt := 125) hE.1 hE.2.1 (by omega) dX0_take_107 (by decide) (fun c28 => ?_) (fun c28 => ?_)
            · skip
              refine lv_iconst (v := iI (0)) hE.1 hE.2.1 dX0_take_125 (by decide) ?_
              refine lv_istore (lv' := [(11, .int (iI (0))), (9, .long (lI (z25))), (7, .long (lI (z24))), (5, .long (lI (z23))), (4, .int (iI (y9_4))), (0, .ref (ad 39)), (1, .ref (ad 69)), (2, .int (iI (z_1))), (3, .ref (ad 3))]) hE.1 hE.2.1 dX0_take_126 hl (by decide) rfl (fun ls hl => ?_)
              refine lv_iload hE.1 hE.2.1 dX0_take_128 (lv_at hl 0 rfl) ?_
              refine s_if_eq (a := 0) (tgt := 159) hE.1 hE.2.1 (by omega) dX0_take_130 (by decide) (fun _ => ?_) (fun c29 => False.elim (by omega))
              refine lv_iconst (v := iI (0)) hE.1 hE.2.1 dX0_take_159 (by decide) ?_
              exact kr _ _ _ _ _ _ _ _ (nar01 (by omega)) ⟨⟨0, by omega, rfl⟩, hI, fun i j h => ((hfr9 i j (fun q => h (mem_sub (by decide) q))).trans (up_oth hv1 (fun q => h (by rcases q with ⟨rfl, rfl⟩; decide))))⟩ hP hS dX0_take_160
            · skip
              refine lv_lload hE.1 hE.2.1 dX0_take_110 (lv_at hl 2 rfl) ?_
              refine lv_aload_n hE.1 hE.2.1 dX0_take_112 rfl (lv_at hl 7 rfl) ?_
              obtain ⟨z30, hz30, ez30⟩ := XI_get hI 3 3 0 8 (by decide)
              refine x_get (x := .int (vl9 3 3)) hE hK hP 3 (Nat.lt_of_lt_of_le (by decide) hNN) (xG_1 rfl) rfl hin1 3 (by decide) mw_191 rfl dX0_take_113 ?_
              refine x_top (y := iI (z30)) ez30 ?_
              refine lv_i2l (v := lI (z30)) hE.1 hE.2.1 dX0_take_116 (iI_i2l (by omega)) ?_
              refine W.lcmp hE.1 hE.2.1 dX0_take_117 ?_
              obtain ⟨z31, hz31, ez31⟩ := lcmp_of (a := z23) (b := z30) (by omega) (by omega)
              refine x_top ez31 ?_
              refine s_if_ge (a := z31) (tgt := 125) hE.1 hE.2.1 (by omega) dX0_take_118 (by decide) (fun c32 => ?_) (fun c32 => ?_)
              · skip
                refine lv_iconst (v := iI (0)) hE.1 hE.2.1 dX0_take_125 (by decide) ?_
                refine lv_istore (lv' := [(11, .int (iI (0))), (9, .long (lI (z25))), (7, .long (lI (z24))), (5, .long (lI (z23))), (4, .int (iI (y9_4))), (0, .ref (ad 39)), (1, .ref (ad 69)), (2, .int (iI (z_1))), (3, .ref (ad 3))]) hE.1 hE.2.1 dX0_take_126 hl (by decide) rfl (fun ls hl => ?_)
                refine lv_iload hE.1 hE.2.1 dX0_take_128 (lv_at hl 0 rfl) ?_
                refine s_if_eq (a := 0) (tgt := 159) hE.1 hE.2.1 (by omega) dX0_take_130 (by decide) (fun _ => ?_) (fun c33 => False.elim (by omega))
                refine lv_iconst (v := iI (0)) hE.1 hE.2.1 dX0_take_159 (by decide) ?_
                exact kr _ _ _ _ _ _ _ _ (nar01 (by omega)) ⟨⟨0, by omega, rfl⟩, hI, fun i j h => ((hfr9 i j (fun q => h (mem_sub (by decide) q))).trans (up_oth hv1 (fun q => h (by rcases q with ⟨rfl, rfl⟩; decide))))⟩ hP hS dX0_take_160
              · skip
                refine lv_iconst (v := iI (1)) hE.1 hE.2.1 dX0_take_121 (by decide) ?_
                refine lv_goto (tgt := 126) hE.1 hE.2.1 dX0_take_122 (by decide) ?_
                refine lv_istore (lv' := [(11, .int (iI (1))), (9, .long (lI (z25))), (7, .long (lI (z24))), (5, .long (lI (z23))), (4, .int (iI (y9_4))), (0, .ref (ad 39)), (1, .ref (ad 69)), (2, .int (iI (z_1))), (3, .ref (ad 3))]) hE.1 hE.2.1 dX0_take_126 hl (by decide) rfl (fun ls hl => ?_)
                refine lv_iload hE.1 hE.2.1 dX0_take_128 (lv_at hl 0 rfl) ?_
                refine s_if_eq (a := 1) (tgt := 159) hE.1 hE.2.1 (by omega) dX0_take_130 (by decide) (fun c34 => False.elim (by omega)) (fun _ => ?_)
                refine lv_aload_n hE.1 hE.2.1 dX0_take_133 rfl (lv_at hl 8 rfl) ?_
                refine lv_lload hE.1 hE.2.1 dX0_take_134 (lv_at hl 2 rfl) ?_
                refine x_vp (nn := 1) (As := [.long (lI (z24))]) (rest := []) hE (s_X1_hasNumber_3 l D K ad mm N hNN vl9 arl9 all9 hI  (z24) (by omega)) wPre_blind (wPre_now hK hN hP) (x_recv hK hP 3 (Nat.lt_of_lt_of_le (by decide) hNN) (xG_1 rfl) rfl) rfl mw_1173 mw_1147 mw_1148 mw_116 mw_1149 (by decide +kernel) ⟨by decide, by decide⟩ hl.1 rfl (Nat.le_of_ble_eq_true rfl) ⟨Nat.zero_le _, Nat.zero_le _⟩ dX0_take_136 (fun r35 hr35 => ?_)
                obtain ⟨z35, hz35, rfl⟩ := hr35
                refine s_if_eq (a := z35) (tgt := 159) hE.1 hE.2.1 (by omega) dX0_take_139 (by decide) (fun c36 => ?_) (fun c36 => ?_)
                · skip
                  refine lv_iconst (v := iI (0)) hE.1 hE.2.1 dX0_take_159 (by decide) ?_
                  exact kr _ _ _ _ _ _ _ _ (nar01 (by omega)) ⟨⟨0, by omega, rfl⟩, hI, fun i j h => ((hfr9 i j (fun q => h (mem_sub (by decide) q))).trans (up_oth hv1 (fun q => h (by rcases q with ⟨rfl, rfl⟩; decide))))⟩ hP hS dX0_take_160
                · skip
                  refine lv_aload_n hE.1 hE.2.1 dX0_take_142 rfl (lv_at hl 8 rfl) ?_
                  refine lv_lload hE.1 hE.2.1 dX0_take_143 (lv_at hl 1 rfl) ?_
                  refine x_vp (nn := 1) (As := [.long (lI (z25))]) (rest := []) hE (s_X1_hasNumber_3 l D K ad mm N hNN vl9 arl9 all9 hI  (z25) (by omega)) wPre_blind (wPre_now hK hN hP) (x_recv hK hP 3 (Nat.lt_of_lt_of_le (by decide) hNN) (xG_1 rfl) rfl) rfl mw_1173 mw_1147 mw_1148 mw_116 mw_1149 (by decide +kernel) ⟨by decide, by decide⟩ hl.1 rfl (Nat.le_of_ble_eq_true rfl) ⟨Nat.zero_le _, Nat.zero_le _⟩ dX0_take_145 (fun r37 hr37 => ?_)
                  obtain ⟨z37, hz37, rfl⟩ := hr37
                  refine s_if_eq (a := z37) (tgt := 159) hE.1 hE.2.1 (by omega) dX0_take_148 (by decide) (fun c38 => ?_) (fun c38 => ?_)
                  · skip
                    refine lv_iconst (v := iI (0)) hE.1 hE.2.1 dX0_take_159 (by decide) ?_
                    exact kr _ _ _ _ _ _ _ _ (nar01 (by omega)) ⟨⟨0, by omega, rfl⟩, hI, fun i j h => ((hfr9 i j (fun q => h (mem_sub (by decide) q))).trans (up_oth hv1 (fun q => h (by rcases q with ⟨rfl, rfl⟩; decide))))⟩ hP hS dX0_take_160
                  · skip
                    refine lv_lload hE.1 hE.2.1 dX0_take_151 (lv_at hl 2 rfl) ?_
                    refine lv_lload hE.1 hE.2.1 dX0_take_153 (lv_at hl 1 rfl) ?_
                    refine W.lcmp hE.1 hE.2.1 dX0_take_155 ?_
                    obtain ⟨z39, hz39, ez39⟩ := lcmp_of (a := z24) (b := z25) (by omega) (by omega)
                    refine x_top ez39 ?_
                    refine s_if_ne (a := z39) (tgt := 161) hE.1 hE.2.1 (by omega) dX0_take_156 (by decide) (fun c40 => ?_) (fun c40 => ?_)
                    · skip
                      refine lv_aload_n hE.1 hE.2.1 dX0_take_161 rfl (lv_at hl 5 rfl) ?_
                      refine lv_lload hE.1 hE.2.1 dX0_take_162 (lv_at hl 3 rfl) ?_
                      refine lv_l2i (v := iI (z23)) hE.1 hE.2.1 dX0_take_164 (lI_l2i _) ?_
                      refine lv_lload hE.1 hE.2.1 dX0_take_165 (lv_at hl 2 rfl) ?_
                      refine lv_l2i (v := iI (z24)) hE.1 hE.2.1 dX0_take_167 (lI_l2i _) ?_
                      refine lv_lload hE.1 hE.2.1 dX0_take_168 (lv_at hl 1 rfl) ?_
                      refine lv_l2i (v := iI (z25)) hE.1 hE.2.1 dX0_take_170 (lI_l2i _) ?_
                      refine x_vv (nn := 3) (As := [.int (iI (z23)), .int (iI (z24)), .int (iI (z25))]) (rest := []) hE hK hN hP hS (s_X0_note_39 l D K ad mm N hNN vl9 arl9 all9 hI  (z23) (by omega) (z24) (by omega) (z25) (by omega)) (x_recv hK hP 39 (Nat.lt_of_lt_of_le (by decide) hNN) (xG_0 rfl) rfl) rfl mw_1174 mw_1176 mw_40 mw_118 mw_1177 (by decide +kernel) ⟨by decide, by decide⟩ hl.1 rfl (Nat.le_of_ble_eq_true rfl) ⟨Nat.zero_le _, Nat.zero_le _⟩ dX0_take_171 (fun v41 ar41 al41 H locs hq41 hP hS => ?_)
                      obtain ⟨hI, hq41⟩ := hq41
                      have hI : XI v41 := hI
                      refine lv_iload hE.1 hE.2.1 dX0_take_174 (lv_at hl 4 rfl) ?_
                      refine lv_iload_n hE.1 hE.2.1 dX0_take_176 rfl (lv_at hl 7 rfl) ?_
                      refine lv_iadd hE.1 hE.2.1 dX0_take_177 ?_
                      refine x_top (y := iI (y9_4 + z_1)) ((iI_add (y9_4) (z_1)).trans (congrArg iI (by omega))) ?_
                      refine lv_istore (lv' := [(4, .int (iI (y9_4 + z_1))), (11, .int (iI (1))), (9, .long (lI (z25))), (7, .long (lI (z24))), (5, .long (lI (z23))), (0, .ref (ad 39)), (1, .ref (ad 69)), (2, .int (iI (z_1))), (3, .ref (ad 3))]) hE.1 hE.2.1 dX0_take_178 hl (by decide) rfl (fun ls hl => ?_)
                      refine lv_goto (tgt := 48) hE.1 hE.2.1 dX0_take_180 (by decide) ?_
                      exact ih9 _ (by omega) (y9_4 + z_1) v41 ar41 al41 _ _ _ rfl (by omega) hI (fun i j h => ((hq41 i j (fun q => h (mem_sub (by decide) q))).trans (hfr9 i j h))) hP hS (lv_sub hl [0, 5, 6, 7, 8] rfl)
                    · skip
                      refine lv_iconst (v := iI (0)) hE.1 hE.2.1 dX0_take_159 (by decide) ?_
                      exact kr _ _ _ _ _ _ _ _ (nar01 (by omega)) ⟨⟨0, by omega, rfl⟩, hI, fun i j h => ((hfr9 i j (fun q => h (mem_sub (by decide) q))).trans (up_oth hv1 (fun q => h (by rcases q with ⟨rfl, rfl⟩; decide))))⟩ hP hS dX0_take_160
    exact loop9 _ (0) v1 ar4 al4 _ _ _ rfl (by omega) hI (fun _ _ _ => rfl) hP hS hl
  · skip
    refine lv_iconst (v := iI (0)) hE.1 hE.2.1 dX0_take_43 (by decide) ?_
    exact kr _ _ _ _ _ _ _ _ (nar01 (by omega)) ⟨⟨0, by omega, rfl⟩, hI, fun i j h => (up_oth hv1 (fun q => h (by rcases q with ⟨rfl, rfl⟩; decide)))⟩ hP hS dX0_take_44

set_option maxHeartbeats 4000000 in
set_option maxRecDepth 100000 in
theorem s_X5_numberAt_71 (l : Launch) (D : va_G) (K : Nat → ClassId) (ad : Nat → Nat) (mm : Option Nat) (N : Nat) (hNN : 132 ≤ N) (v ar : sI) (al : sL) (hI : XI v) (z_1 : Int) (hz_1 : -2147483648 ≤ z_1 ∧ z_1 ≤ 2147483647) : Met l yX5_numberAt (wM yX5_numberAt cX5_numberAt 2 (some .long)) (rmD 0) (va_Pc [.ref (ad 71), .int (iI (z_1))] (wPre D K ad (xG ad K mm) N v ar al)) (vp_Sl (fun r => ∃ z : Int, (-9223372036854775808 ≤ z ∧ z ≤ 9223372036854775807) ∧ r = lI z)) 0 0 (fun _ => False) := by
  refine s_metL (by decide) (Nat.le_of_ble_eq_true rfl) ?_
  intro p e s m below meth c ls args Q hE hB hl kr
  have hE : CallFix p m c cX5_numberAt 2 s args tbG "TaleCourt$Row" := hE
  obtain ⟨hP, hK, hN⟩ := hB
  have hl : lv_has ls 2 [(0, .ref (ad 71)), (1, .int (iI (z_1)))] := hl
  refine lv_iload_n hE.1 hE.2.1 dX5_numberAt_0 rfl (lv_at hl 1 rfl) ?_
  refine s_if_lt (a := z_1) (tgt := 27) hE.1 hE.2.1 (by omega) dX5_numberAt_1 (by decide) (fun c1 => ?_) (fun c1 => ?_)
  · skip
    refine lv_ldc2 (v := (-1)) hE.1 hE.2.1 hE.2.2.2.1 (hE.2.2.2.2 _ mw_1172) dX5_numberAt_27 ?_
    refine x_topl (y := lI (-1)) (by decide) ?_
    exact kr _ _ _ ⟨-1, by omega, rfl⟩ dX5_numberAt_30
  · skip
    refine lv_iload_n hE.1 hE.2.1 dX5_numberAt_4 rfl (lv_at hl 1 rfl) ?_
    refine lv_aload_n hE.1 hE.2.1 dX5_numberAt_5 rfl (lv_at hl 0 rfl) ?_
    obtain ⟨z2, hz2, ez2⟩ := XI_get hI 71 2 (-1) 60 (by decide)
    refine x_get (x := .int (v 71 2)) hE hK hP 71 (Nat.lt_of_lt_of_le (by decide) hNN) (xG_5 rfl) rfl hin5 2 (by decide) mw_449 rfl dX5_numberAt_6 ?_
    refine x_top (y := iI (z2)) ez2 ?_
    refine s_icmp_ge (a := z_1) (b := z2) (tgt := 27) hE.1 hE.2.1 (by omega) (by omega) dX5_numberAt_9 (by decide) (fun c3 => ?_) (fun c3 => ?_)
    · skip
      refine lv_ldc2 (v := (-1)) hE.1 hE.2.1 hE.2.2.2.1 (hE.2.2.2.2 _ mw_1172) dX5_numberAt_27 ?_
      refine x_topl (y := lI (-1)) (by decide) ?_
      exact kr _ _ _ ⟨-1, by omega, rfl⟩ dX5_numberAt_30
    · skip
      refine lv_iload_n hE.1 hE.2.1 dX5_numberAt_12 rfl (lv_at hl 1 rfl) ?_
      refine lv_bipush (v := iI (60)) hE.1 hE.2.1 dX5_numberAt_13 (by decide) ?_
      refine s_icmp_ge (a := z_1) (b := 60) (tgt := 27) hE.1 hE.2.1 (by omega) (by omega) dX5_numberAt_15 (by decide) (fun c4 => False.elim (by omega)) (fun _ => ?_)
      refine lv_aload_n hE.1 hE.2.1 dX5_numberAt_18 rfl (lv_at hl 0 rfl) ?_
      refine x_get (x := .ref (ad 72)) hE hK hP 71 (Nat.lt_of_lt_of_le (by decide) hNN) (xG_5 rfl) rfl hin5 0 (by decide) mw_445 rfl dX5_numberAt_19 ?_
      refine lv_iload_n hE.1 hE.2.1 dX5_numberAt_22 rfl (lv_at hl 1 rfl) ?_
      refine x_lald (j := iI (z_1)) hE hK hP 72 (Nat.lt_of_lt_of_le (by decide) hNN) (xG_11 rfl) (iI_in (n := 60) (by omega)) dX5_numberAt_23 ?_
      obtain ⟨z6, hz6, ez6⟩ := lI_of (al 72 (iI (z_1)).toNatClampNeg)
      refine x_topl ez6 ?_
      refine lv_goto (tgt := 30) hE.1 hE.2.1 dX5_numberAt_24 (by decide) ?_
      exact kr _ _ _ ⟨z6, by omega, rfl⟩ dX5_numberAt_30

set_option maxHeartbeats 4000000 in
set_option maxRecDepth 100000 in
theorem s_X0_take_39_71_3 (l : Launch) (D : va_G) (K : Nat → ClassId) (ad : Nat → Nat) (mm : Option Nat) (N : Nat) (hNN : 132 ≤ N) (v ar : sI) (al : sL) (hI : XI v) (z_1 : Int) (hz_1 : 2 ≤ z_1 ∧ z_1 ≤ 3) : Met l yX0_take (wM yX0_take cX0_take 12 (some .boolean)) (rmD 1) (va_Pc [.ref (ad 39), .ref (ad 71), .int (iI (z_1)), .ref (ad 3)] (wPre D K ad (xG ad K mm) N v ar al)) (va_Qi (fun (r : Int32) (u : sT) => (∃ z : Int, (0 ≤ z ∧ z ≤ 1) ∧ r = iI z) ∧ XI u.1 ∧ (∀ i j : Nat, (i, j) ∉ ([(39, 0)] : List (Nat × Nat)) → u.1 i j = v i j)) (wB D ad (xG ad K mm) N) (inW ad N)) 0 0 (inW ad N) := by
  refine s_metI (by decide) (Nat.le_of_ble_eq_true rfl) ?_
  intro p e s m below meth c ls args Q hE hB hl kr
  have hE : CallFix p m c cX0_take 12 s args tbG "TaleCourt$Claims" := hE
  obtain ⟨hP, hK, hN⟩ := hB
  have hS : va_S (inW ad N) s.heap s.heap [] := va_S.rf
  have hl : lv_has ls 12 [(0, .ref (ad 39)), (1, .ref (ad 71)), (2, .int (iI (z_1))), (3, .ref (ad 3))] := hl
  refine lv_aload_n hE.1 hE.2.1 dX0_take_0 rfl (lv_at hl 0 rfl) ?_
  refine lv_iconst (v := iI (0)) hE.1 hE.2.1 dX0_take_1 (by decide) ?_
  refine x_put (x := iI (0)) hE hK hN hP hS 39 (Nat.lt_of_lt_of_le (by decide) hNN) (xG_0 rfl) rfl hin0 tyX0 tyX0_ok nmX0 0 (by decide) mw_358 rfl rfl rfl (Nat.le_of_ble_eq_true rfl) (xG_0 rfl) dX0_take_2 (fun v1 H locs hv1 hP hS => ?_)
  have hI := XI_putN hI hv1 (by decide)
  refine lv_aload_n hE.1 hE.2.1 dX0_take_5 rfl (lv_at hl 0 rfl) ?_
  refine x_get (x := .ref (ad 40)) hE hK hP 39 (Nat.lt_of_lt_of_le (by decide) hNN) (xG_0 rfl) rfl hin0 1 (by decide) mw_360 rfl dX0_take_6 ?_
  refine lv_iconst (v := iI (0)) hE.1 hE.2.1 dX0_take_9 (by decide) ?_
  refine x_sv (nn := 2) (As := [.ref (ad 40), .int (iI (0))]) (rest := []) hE hK hN hP hS (k_fillI l D K ad v1 ar al 40 81 (Nat.lt_of_lt_of_le (by decide) hNN) (fun _ => xG_10 rfl) (Nat.le_of_ble_eq_true rfl) (iI (0))) rfl mw_1167 mw_536 mw_124 mw_537 (by decide +kernel) ⟨by decide, by decide⟩ hl.1 rfl (Nat.le_of_ble_eq_true rfl) ⟨Nat.zero_le _, Nat.zero_le _⟩ dX0_take_10 (fun v2 ar2 al2 H locs hq2 hP hS => ?_)
  rw [show v2 = v1 from hq2.1] at hP
  refine lv_aload_n hE.1 hE.2.1 dX0_take_13 rfl (lv_at hl 0 rfl) ?_
  refine x_get (x := .ref (ad 41)) hE hK hP 39 (Nat.lt_of_lt_of_le (by decide) hNN) (xG_0 rfl) rfl hin0 2 (by decide) mw_361 rfl dX0_take_14 ?_
  refine lv_iconst (v := iI (0)) hE.1 hE.2.1 dX0_take_17 (by decide) ?_
  refine x_sv (nn := 2) (As := [.ref (ad 41), .int (iI (0))]) (rest := []) hE hK hN hP hS (k_fillI l D K ad v1 ar2 al2 41 9 (Nat.lt_of_lt_of_le (by decide) hNN) (fun _ => xG_10 rfl) (Nat.le_of_ble_eq_true rfl) (iI (0))) rfl mw_1167 mw_536 mw_124 mw_537 (by decide +kernel) ⟨by decide, by decide⟩ hl.1 rfl (Nat.le_of_ble_eq_true rfl) ⟨Nat.zero_le _, Nat.zero_le _⟩ dX0_take_18 (fun v3 ar3 al3 H locs hq3 hP hS => ?_)
  rw [show v3 = v1 from hq3.1] at hP
  refine lv_aload_n hE.1 hE.2.1 dX0_take_21 rfl (lv_at hl 0 rfl) ?_
  refine x_get (x := .ref (ad 42)) hE hK hP 39 (Nat.lt_of_lt_of_le (by decide) hNN) (xG_0 rfl) rfl hin0 3 (by decide) mw_362 rfl dX0_take_22 ?_
  refine lv_iconst (v := iI (0)) hE.1 hE.2.1 dX0_take_25 (by decide) ?_
  refine x_sv (nn := 2) (As := [.ref (ad 42), .int (iI (0))]) (rest := []) hE hK hN hP hS (k_fillI l D K ad v1 ar3 al3 42 72 (Nat.lt_of_lt_of_le (by decide) hNN) (fun _ => xG_10 rfl) (Nat.le_of_ble_eq_true rfl) (iI (0))) rfl mw_1167 mw_536 mw_124 mw_537 (by decide +kernel) ⟨by decide, by decide⟩ hl.1 rfl (Nat.le_of_ble_eq_true rfl) ⟨Nat.zero_le _, Nat.zero_le _⟩ dX0_take_26 (fun v4 ar4 al4 H locs hq4 hP hS => ?_)
  rw [show v4 = v1 from hq4.1] at hP
  refine lv_iload_n hE.1 hE.2.1 dX0_take_29 rfl (lv_at hl 2 rfl) ?_
  refine lv_iconst (v := iI (1)) hE.1 hE.2.1 dX0_take_30 (by decide) ?_
  refine s_icmp_lt (a := z_1) (b := 1) (tgt := 43) hE.1 hE.2.1 (by omega) (by omega) dX0_take_31 (by decide) (fun c5 => False.elim (by omega)) (fun _ => ?_)
  refine lv_aload_n hE.1 hE.2.1 dX0_take_34 rfl (lv_at hl 1 rfl) ?_
  obtain ⟨z6, hz6, ez6⟩ := XI_get hI 71 2 (-1) 60 (by decide)
  refine x_get (x := .int (v1 71 2)) hE hK hP 71 (Nat.lt_of_lt_of_le (by decide) hNN) (xG_5 rfl) rfl hin5 2 (by decide) mw_450 rfl dX0_take_35 ?_
  refine x_top (y := iI (z6)) ez6 ?_
  refine lv_iload_n hE.1 hE.2.1 dX0_take_38 rfl (lv_at hl 2 rfl) ?_
  refine lv_irem hE.1 hE.2.1 dX0_take_39 (iI_ne0 (by omega) (by omega)) ?_
  obtain ⟨z7, hz7, ez7⟩ := iI_of (iI (z6) - iI (z6) / iI (z_1) * iI (z_1))
  refine x_top ez7 ?_
  refine s_if_eq (a := z7) (tgt := 45) hE.1 hE.2.1 (by omega) dX0_take_40 (by decide) (fun c8 => ?_) (fun c8 => ?_)
  · skip
    refine lv_iconst (v := iI (0)) hE.1 hE.2.1 dX0_take_45 (by decide) ?_
    refine lv_istore (lv' := [(4, .int (iI (0))), (0, .ref (ad 39)), (1, .ref (ad 71)), (2, .int (iI (z_1))), (3, .ref (ad 3))]) hE.1 hE.2.1 dX0_take_46 hl (by decide) rfl (fun ls hl => ?_)
    have loop9 : ∀ (k9 : Nat) (y9_4 : Int) (vl9 arl9 : sI) (all9 : sL) (H : Heap) (locs : List Loc) (ls : Array Slot), (60 - y9_4).toNat = k9 → (0 ≤ y9_4 ∧ y9_4 ≤ 63) → XI vl9 → (∀ i j : Nat, (i, j) ∉ ([(39, 0)] : List (Nat × Nat)) → vl9 i j = v1 i j) → va_P D xcl (wW ad (xG ad K mm) N vl9 arl9 all9) H → va_S (inW ad N) s.heap H locs → lv_has ls 12 [(4, .int (iI (y9_4))), (0, .ref (ad 39)), (1, .ref (ad 71)), (2, .int (iI (z_1))), (3, .ref (ad 3))] → W p l e (rmD 1) s m args below meth c H locs 0 0 Q (F0 m 48 ls []) := by
      intro k9
      induction k9 using Nat.strongRecOn with
      | _ k9 ih9 =>
        intro y9_4 vl9 arl9 all9 H locs ls hk9 hb_y9_4 hI hfr9 hP hS hl
        refine lv_iload hE.1 hE.2.1 dX0_take_48 (lv_at hl 0 rfl) ?_
        refine lv_aload_n hE.1 hE.2.1 dX0_take_50 rfl (lv_at hl 2 rfl) ?_
        refine x_get (x := .int (vl9 71 2)) hE hK hP 71 (Nat.lt_of_lt_of_le (by decide) hNN) (xG_5 rfl) rfl hin5 2 (by decide) mw_450 rfl dX0_take_51 ?_
        refine x_top (y := iI (z6)) ((hfr9 71 2 (by decide)).trans ez6) ?_
        refine s_icmp_ge (a := y9_4) (b := z6) (tgt := 183) hE.1 hE.2.1 (by omega) (by omega) dX0_take_54 (by decide) (fun c10 => ?_) (fun c10 => ?_)
        · skip
          refine lv_iconst (v := iI (1)) hE.1 hE.2.1 dX0_take_183 (by decide) ?_
          exact kr _ _ _ _ _ _ _ _ (nar01 (by omega)) ⟨⟨1, by omega, rfl⟩, hI, fun i j h => ((hfr9 i j (fun q => h (mem_sub (by decide) q))).trans (up_oth hv1 (fun q => h (by rcases q with ⟨rfl, rfl⟩; decide))))⟩ hP hS dX0_take_184
        · skip
          refine lv_iload_n hE.1 hE.2.1 dX0_take_57 rfl (lv_at hl 3 rfl) ?_
          refine lv_iconst (v := iI (3)) hE.1 hE.2.1 dX0_take_58 (by decide) ?_
          refine s_icmp_ne (a := z_1) (b := 3) (tgt := 71) hE.1 hE.2.1 (by omega) (by omega) dX0_take_59 (by decide) (fun c11 => ?_) (fun c11 => ?_)
          · skip
            refine lv_lconst (v := lI (0)) hE.1 hE.2.1 dX0_take_71 (by decide) ?_
            refine lv_lstore (lv' := [(5, .long (lI (0))), (4, .int (iI (y9_4))), (0, .ref (ad 39)), (1, .ref (ad 71)), (2, .int (iI (z_1))), (3, .ref (ad 3))]) hE.1 hE.2.1 dX0_take_72 hl (by decide) rfl (fun ls hl => ?_)
            refine lv_aload_n hE.1 hE.2.1 dX0_take_74 rfl (lv_at hl 3 rfl) ?_
            refine lv_iload hE.1 hE.2.1 dX0_take_75 (lv_at hl 1 rfl) ?_
            refine lv_iload_n hE.1 hE.2.1 dX0_take_77 rfl (lv_at hl 4 rfl) ?_
            refine lv_iadd hE.1 hE.2.1 dX0_take_78 ?_
            refine x_top (y := iI (y9_4 + z_1)) ((iI_add (y9_4) (z_1)).trans (congrArg iI (by omega))) ?_
            refine lv_iconst (v := iI (2)) hE.1 hE.2.1 dX0_take_79 (by decide) ?_
            refine lv_isub hE.1 hE.2.1 dX0_take_80 ?_
            refine x_top (y := iI (y9_4 + z_1 - 2)) ((iI_sub (y9_4 + z_1) (2)).trans (congrArg iI (by omega))) ?_
            refine x_vpl (nn := 1) (As := [.int (iI (y9_4 + z_1 - 2))]) (rest := []) hE (s_X5_numberAt_71 l D K ad mm N hNN vl9 arl9 all9 hI  (y9_4 + z_1 - 2) (by omega)) wPre_blind (wPre_now hK hN hP) (x_recv hK hP 71 (Nat.lt_of_lt_of_le (by decide) hNN) (xG_5 rfl) rfl) rfl mw_1168 mw_1169 mw_1170 mw_121 mw_1171 (by decide +kernel) ⟨by decide, by decide⟩ hl.1 rfl (Nat.le_of_ble_eq_true rfl) ⟨Nat.zero_le _, Nat.zero_le _⟩ dX0_take_81 (fun r12 hr12 => ?_)
            obtain ⟨z12, hz12, rfl⟩ := hr12
            refine lv_lstore (lv' := [(7, .long (lI (z12))), (5, .long (lI (0))), (4, .int (iI (y9_4))), (0, .ref (ad 39)), (1, .ref (ad 71)), (2, .int (iI (z_1))), (3, .ref (ad 3))]) hE.1 hE.2.1 dX0_take_84 hl (by decide) rfl (fun ls hl => ?_)
            refine lv_aload_n hE.1 hE.2.1 dX0_take_86 rfl (lv_at hl 4 rfl) ?_
            refine lv_iload hE.1 hE.2.1 dX0_take_87 (lv_at hl 2 rfl) ?_
            refine lv_iload_n hE.1 hE.2.1 dX0_take_89 rfl (lv_at hl 5 rfl) ?_
            refine lv_iadd hE.1 hE.2.1 dX0_take_90 ?_
            refine x_top (y := iI (y9_4 + z_1)) ((iI_add (y9_4) (z_1)).trans (congrArg iI (by omega))) ?_
            refine lv_iconst (v := iI (1)) hE.1 hE.2.1 dX0_take_91 (by decide) ?_
            refine lv_isub hE.1 hE.2.1 dX0_take_92 ?_
            refine x_top (y := iI (y9_4 + z_1 - 1)) ((iI_sub (y9_4 + z_1) (1)).trans (congrArg iI (by omega))) ?_
            refine x_vpl (nn := 1) (As := [.int (iI (y9_4 + z_1 - 1))]) (rest := []) hE (s_X5_numberAt_71 l D K ad mm N hNN vl9 arl9 all9 hI  (y9_4 + z_1 - 1) (by omega)) wPre_blind (wPre_now hK hN hP) (x_recv hK hP 71 (Nat.lt_of_lt_of_le (by decide) hNN) (xG_5 rfl) rfl) rfl mw_1168 mw_1169 mw_1170 mw_121 mw_1171 (by decide +kernel) ⟨by decide, by decide⟩ hl.1 rfl (Nat.le_of_ble_eq_true rfl) ⟨Nat.zero_le _, Nat.zero_le _⟩ dX0_take_93 (fun r13 hr13 => ?_)
            obtain ⟨z13, hz13, rfl⟩ := hr13
            refine lv_lstore (lv' := [(9, .long (lI (z13))), (7, .long (lI (z12))), (5, .long (lI (0))), (4, .int (iI (y9_4))), (0, .ref (ad 39)), (1, .ref (ad 71)), (2, .int (iI (z_1))), (3, .ref (ad 3))]) hE.1 hE.2.1 dX0_take_96 hl (by decide) rfl (fun ls hl => ?_)
            refine lv_iload_n hE.1 hE.2.1 dX0_take_98 rfl (lv_at hl 6 rfl) ?_
            refine lv_iconst (v := iI (3)) hE.1 hE.2.1 dX0_take_99 (by decide) ?_
            refine s_icmp_ne (a := z_1) (b := 3) (tgt := 121) hE.1 hE.2.1 (by omega) (by omega) dX0_take_100 (by decide) (fun _ => ?_) (fun c14 => False.elim (by omega))
            refine lv_iconst (v := iI (1)) hE.1 hE.2.1 dX0_take_121 (by decide) ?_
            refine lv_goto (tgt := 126) hE.1 hE.2.1 dX0_take_122 (by decide) ?_
            refine lv_istore (lv' := [(11, .int (iI (1))), (9, .long (lI (z13))), (7, .long (lI (z12))), (5, .long (lI (0))), (4, .int (iI (y9_4))), (0, .ref (ad 39)), (1, .ref (ad 71)), (2, .int (iI (z_1))), (3, .ref (ad 3))]) hE.1 hE.2.1 dX0_take_126 hl (by decide) rfl (fun ls hl => ?_)
            refine lv_iload hE.1 hE.2.1 dX0_take_128 (lv_at hl 0 rfl) ?_
            refine s_if_eq (a := 1) (tgt := 159) hE.1 hE.2.1 (by omega) dX0_take_130 (by decide) (fun c15 => False.elim (by omega)) (fun _ => ?_)
            refine lv_aload_n hE.1 hE.2.1 dX0_take_133 rfl (lv_at hl 8 rfl) ?_
            refine lv_lload hE.1 hE.2.1 dX0_take_134 (lv_at hl 2 rfl) ?_
            refine x_vp (nn := 1) (As := [.long (lI (z12))]) (rest := []) hE (s_X1_hasNumber_3 l D K ad mm N hNN vl9 arl9 all9 hI  (z12) (by omega)) wPre_blind (wPre_now hK hN hP) (x_recv hK hP 3 (Nat.lt_of_lt_of_le (by decide) hNN) (xG_1 rfl) rfl) rfl mw_1173 mw_1147 mw_1148 mw_116 mw_1149 (by decide +kernel) ⟨by decide, by decide⟩ hl.1 rfl (Nat.le_of_ble_eq_true rfl) ⟨Nat.zero_le _, Nat.zero_le _⟩ dX0_take_136 (fun r16 hr16 => ?_)
            obtain ⟨z16, hz16, rfl⟩ := hr16
            refine s_if_eq (a := z16) (tgt := 159) hE.1 hE.2.1 (by omega) dX0_take_139 (by decide) (fun c17 => ?_) (fun c17 => ?_)
            · skip
              refine lv_iconst (v := iI (0)) hE.1 hE.2.1 dX0_take_159 (by decide) ?_
              exact kr _ _ _ _ _ _ _ _ (nar01 (by omega)) ⟨⟨0, by omega, rfl⟩, hI, fun i j h => ((hfr9 i j (fun q => h (mem_sub (by decide) q))).trans (up_oth hv1 (fun q => h (by rcases q with ⟨rfl, rfl⟩; decide))))⟩ hP hS dX0_take_160
            · skip
              refine lv_aload_n hE.1 hE.2.1 dX0_take_142 rfl (lv_at hl 8 rfl) ?_
              refine lv_lload hE.1 hE.2.1 dX0_take_143 (lv_at hl 1 rfl) ?_
              refine x_vp (nn := 1) (As := [.long (lI (z13))]) (rest := []) hE (s_X1_hasNumber_3 l D K ad mm N hNN vl9 arl9 all9 hI  (z13) (by omega)) wPre_blind (wPre_now hK hN hP) (x_recv hK hP 3 (Nat.lt_of_lt_of_le (by decide) hNN) (xG_1 rfl) rfl) rfl mw_1173 mw_1147 mw_1148 mw_116 mw_1149 (by decide +kernel) ⟨by decide, by decide⟩ hl.1 rfl (Nat.le_of_ble_eq_true rfl) ⟨Nat.zero_le _, Nat.zero_le _⟩ dX0_take_145 (fun r18 hr18 => ?_)
              obtain ⟨z18, hz18, rfl⟩ := hr18
              refine s_if_eq (a := z18) (tgt := 159) hE.1 hE.2.1 (by omega) dX0_take_148 (by decide) (fun c19 => ?_) (fun c19 => ?_)
              · skip
                refine lv_iconst (v := iI (0)) hE.1 hE.2.1 dX0_take_159 (by decide) ?_
                exact kr _ _ _ _ _ _ _ _ (nar01 (by omega)) ⟨⟨0, by omega, rfl⟩, hI, fun i j h => ((hfr9 i j (fun q => h (mem_sub (by decide) q))).trans (up_oth hv1 (fun q => h (by rcases q with ⟨rfl, rfl⟩; decide))))⟩ hP hS dX0_take_160
              · skip
                refine lv_lload hE.1 hE.2.1 dX0_take_151 (lv_at hl 2 rfl) ?_
                refine lv_lload hE.1 hE.2.1 dX0_take_153 (lv_at hl 1 rfl) ?_
                refine W.lcmp hE.1 hE.2.1 dX0_take_155 ?_
                obtain ⟨z20, hz20, ez20⟩ := lcmp_of (a := z12) (b := z13) (by omega) (by omega)
                refine x_top ez20 ?_
                refine s_if_ne (a := z20) (tgt := 161) hE.1 hE.2.1 (by omega) dX0_take_156 (by decide) (fun c21 => ?_) (fun c21 => ?_)
                · skip
                  refine lv_aload_n hE.1 hE.2.1 dX0_take_161 rfl (lv_at hl 5 rfl) ?_
                  refine lv_lload hE.1 hE.2.1 dX0_take_162 (lv_at hl 3 rfl) ?_
                  refine lv_l2i (v := iI (0)) hE.1 hE.2.1 dX0_take_164 (lI_l2i _) ?_
                  refine lv_lload hE.1 hE.2.1 dX0_take_165 (lv_at hl 2 rfl) ?_
                  refine lv_l2i (v := iI (z12)) hE.1 hE.2.1 dX0_take_167 (lI_l2i _) ?_
                  refine lv_lload hE.1 hE.2.1 dX0_take_168 (lv_at hl 1 rfl) ?_
                  refine lv_l2i (v := iI (z13)) hE.1 hE.2.1 dX0_take_170 (lI_l2i _) ?_
                  refine x_vv (nn := 3) (As := [.int (iI (0)), .int (iI (z12)), .int (iI (z13))]) (rest := []) hE hK hN hP hS (s_X0_note_39 l D K ad mm N hNN vl9 arl9 all9 hI  (0) (by omega) (z12) (by omega) (z13) (by omega)) (x_recv hK hP 39 (Nat.lt_of_lt_of_le (by decide) hNN) (xG_0 rfl) rfl) rfl mw_1174 mw_1176 mw_40 mw_118 mw_1177 (by decide +kernel) ⟨by decide, by decide⟩ hl.1 rfl (Nat.le_of_ble_eq_true rfl) ⟨Nat.zero_le _, Nat.zero_le _⟩ dX0_take_171 (fun v22 ar22 al22 H locs hq22 hP hS => ?_)
                  obtain ⟨hI, hq22⟩ := hq22
                  have hI : XI v22 := hI
                  refine lv_iload hE.1 hE.2.1 dX0_take_174 (lv_at hl 4 rfl) ?_
                  refine lv_iload_n hE.1 hE.2.1 dX0_take_176 rfl (lv_at hl 7 rfl) ?_
                  refine lv_iadd hE.1 hE.2.1 dX0_take_177 ?_
                  refine x_top (y := iI (y9_4 + z_1)) ((iI_add (y9_4) (z_1)).trans (congrArg iI (by omega))) ?_
                  refine lv_istore (lv' := [(4, .int (iI (y9_4 + z_1))), (11, .int (iI (1))), (9, .long (lI (z13))), (7, .long (lI (z12))), (5, .long (lI (0))), (0, .ref (ad 39)), (1, .ref (ad 71)), (2, .int (iI (z_1))), (3, .ref (ad 3))]) hE.1 hE.2.1 dX0_take_178 hl (by decide) rfl (fun ls hl => ?_)
                  refine lv_goto (tgt := 48) hE.1 hE.2.1 dX0_take_180 (by decide) ?_
                  exact ih9 _ (by omega) (y9_4 + z_1) v22 ar22 al22 _ _ _ rfl (by omega) hI (fun i j h => ((hq22 i j (fun q => h (mem_sub (by decide) q))).trans (hfr9 i j h))) hP hS (lv_sub hl [0, 5, 6, 7, 8] rfl)
                · skip
                  refine lv_iconst (v := iI (0)) hE.1 hE.2.1 dX0_take_159 (by decide) ?_
                  exact kr _ _ _ _ _ _ _ _ (nar01 (by omega)) ⟨⟨0, by omega, rfl⟩, hI, fun i j h => ((hfr9 i j (fun q => h (mem_sub (by decide) q))).trans (up_oth hv1 (fun q => h (by rcases q with ⟨rfl, rfl⟩; decide))))⟩ hP hS dX0_take_160
          · skip
            refine lv_aload_n hE.1 hE.2.1 dX0_take_62 rfl (lv_at hl 2 rfl) ?_
            refine lv_iload hE.1 hE.2.1 dX0_take_63 (lv_at hl 0 rfl) ?_
            refine x_vpl (nn := 1) (As := [.int (iI (y9_4))]) (rest := []) hE (s_X5_numberAt_71 l D K ad mm N hNN vl9 arl9 all9 hI  (y9_4) (by omega)) wPre_blind (wPre_now hK hN hP) (x_recv hK hP 71 (Nat.lt_of_lt_of_le (by decide) hNN) (xG_5 rfl) rfl) rfl mw_1168 mw_1169 mw_1170 mw_121 mw_1171 (by decide +kernel) ⟨by decide, by decide⟩ hl.1 rfl (Nat.le_of_ble_eq_true rfl) ⟨Nat.zero_le _, Nat.zero_le _⟩ dX0_take_65 (fun r23 hr23 => ?_)
            obtain ⟨z23, hz23, rfl⟩ := hr23
            refine lv_goto (tgt := 72) hE.1 hE.2.1 dX0_take_68 (by decide) ?_
            refine lv_lstore (lv' := [(5, .long (lI (z23))), (4, .int (iI (y9_4))), (0, .ref (ad 39)), (1, .ref (ad 71)), (2, .int (iI (z_1))), (3, .ref (ad 3))]) hE.1 hE.2.1 dX0_take_72 hl (by decide) rfl (fun ls hl => ?_)
            refine lv_aload_n hE.1 hE.2.1 dX0_take_74 rfl (lv_at hl 3 rfl) ?_
            refine lv_iload hE.1 hE.2.1 dX0_take_75 (lv_at hl 1 rfl) ?_
            refine lv_iload_n hE.1 hE.2.1 dX0_take_77 rfl (lv_at hl 4 rfl) ?_
            refine lv_iadd hE.1 hE.2.1 dX0_take_78 ?_
            refine x_top (y := iI (y9_4 + z_1)) ((iI_add (y9_4) (z_1)).trans (congrArg iI (by omega))) ?_
            refine lv_iconst (v := iI (2)) hE.1 hE.2.1 dX0_take_79 (by decide) ?_
            refine lv_isub hE.1 hE.2.1 dX0_take_80 ?_
            refine x_top (y := iI (y9_4 + z_1 - 2)) ((iI_sub (y9_4 + z_1) (2)).trans (congrArg iI (by omega))) ?_
            refine x_vpl (nn := 1) (As := [.int (iI (y9_4 + z_1 - 2))]) (rest := []) hE (s_X5_numberAt_71 l D K ad mm N hNN vl9 arl9 all9 hI  (y9_4 + z_1 - 2) (by omega)) wPre_blind (wPre_now hK hN hP) (x_recv hK hP 71 (Nat.lt_of_lt_of_le (by decide) hNN) (xG_5 rfl) rfl) rfl mw_1168 mw_1169 mw_1170 mw_121 mw_1171 (by decide +kernel) ⟨by decide, by decide⟩ hl.1 rfl (Nat.le_of_ble_eq_true rfl) ⟨Nat.zero_le _, Nat.zero_le _⟩ dX0_take_81 (fun r24 hr24 => ?_)
            obtain ⟨z24, hz24, rfl⟩ := hr24
            refine lv_lstore (lv' := [(7, .long (lI (z24))), (5, .long (lI (z23))), (4, .int (iI (y9_4))), (0, .ref (ad 39)), (1, .ref (ad 71)), (2, .int (iI (z_1))), (3, .ref (ad 3))]) hE.1 hE.2.1 dX0_take_84 hl (by decide) rfl (fun ls hl => ?_)
            refine lv_aload_n hE.1 hE.2.1 dX0_take_86 rfl (lv_at hl 4 rfl) ?_
            refine lv_iload hE.1 hE.2.1 dX0_take_87 (lv_at hl 2 rfl) ?_
            refine lv_iload_n hE.1 hE.2.1 dX0_take_89 rfl (lv_at hl 5 rfl) ?_
            refine lv_iadd hE.1 hE.2.1 dX0_take_90 ?_
            refine x_top (y := iI (y9_4 + z_1)) ((iI_add (y9_4) (z_1)).trans (congrArg iI (by omega))) ?_
            refine lv_iconst (v := iI (1)) hE.1 hE.2.1 dX0_take_91 (by decide) ?_
            refine lv_isub hE.1 hE.2.1 dX0_take_92 ?_
            refine x_top (y := iI (y9_4 + z_1 - 1)) ((iI_sub (y9_4 + z_1) (1)).trans (congrArg iI (by omega))) ?_
            refine x_vpl (nn := 1) (As := [.int (iI (y9_4 + z_1 - 1))]) (rest := []) hE (s_X5_numberAt_71 l D K ad mm N hNN vl9 arl9 all9 hI  (y9_4 + z_1 - 1) (by omega)) wPre_blind (wPre_now hK hN hP) (x_recv hK hP 71 (Nat.lt_of_lt_of_le (by decide) hNN) (xG_5 rfl) rfl) rfl mw_1168 mw_1169 mw_1170 mw_121 mw_1171 (by decide +kernel) ⟨by decide, by decide⟩ hl.1 rfl (Nat.le_of_ble_eq_true rfl) ⟨Nat.zero_le _, Nat.zero_le _⟩ dX0_take_93 (fun r25 hr25 => ?_)
            obtain ⟨z25, hz25, rfl⟩ := hr25
            refine lv_lstore (lv' := [(9, .long (lI (z25))), (7, .long (lI (z24))), (5, .long (lI (z23))), (4, .int (iI (y9_4))), (0, .ref (ad 39)), (1, .ref (ad 71)), (2, .int (iI (z_1))), (3, .ref (ad 3))]) hE.1 hE.2.1 dX0_take_96 hl (by decide) rfl (fun ls hl => ?_)
            refine lv_iload_n hE.1 hE.2.1 dX0_take_98 rfl (lv_at hl 6 rfl) ?_
            refine lv_iconst (v := iI (3)) hE.1 hE.2.1 dX0_take_99 (by decide) ?_
            refine s_icmp_ne (a := z_1) (b := 3) (tgt := 121) hE.1 hE.2.1 (by omega) (by omega) dX0_take_100 (by decide) (fun c26 => False.elim (by omega)) (fun _ => ?_)
            refine lv_lload hE.1 hE.2.1 dX0_take_103 (lv_at hl 2 rfl) ?_
            refine lv_lconst (v := lI (0)) hE.1 hE.2.1 dX0_take_105 (by decide) ?_
            refine W.lcmp hE.1 hE.2.1 dX0_take_106 ?_
            obtain ⟨z27, hz27, ez27⟩ := lcmp_of (a := z23) (b := 0) (by omega) (by omega)
            refine x_top ez27 ?_
            refine s_if_lt (a := z27) (tgt := 125) hE.1 hE.2.1 (by omega) dX0_take_107 (by decide) (fun c28 => ?_) (fun c28 => ?_)
            · skip
              refine lv_iconst (v := iI (0)) hE.1 hE.2.1 dX0_take_125 (by decide) ?_
              refine lv_istore (lv' := [(11, .int (iI (0))), (9, .long (lI (z25))), (7, .long (lI (z24))), (5, .long (lI (z23))), (4, .int (iI (y9_4))), (0, .ref (ad 39)), (1, .ref (ad 71)), (2, .int (iI (z_1))), (3, .ref (ad 3))]) hE.1 hE.2.1 dX0_take_126 hl (by decide) rfl (fun ls hl => ?_)
              refine lv_iload hE.1 hE.2.1 dX0_take_128 (lv_at hl 0 rfl) ?_
              refine s_if_eq (a := 0) (tgt := 159) hE.1 hE.2.1 (by omega) dX0_take_130 (by decide) (fun _ => ?_) (fun c29 => False.elim (by omega))
              refine lv_iconst (v := iI (0)) hE.1 hE.2.1 dX0_take_159 (by decide) ?_
              exact kr _ _ _ _ _ _ _ _ (nar01 (by omega)) ⟨⟨0, by omega, rfl⟩, hI, fun i j h => ((hfr9 i j (fun q => h (mem_sub (by decide) q))).trans (up_oth hv1 (fun q => h (by rcases q with ⟨rfl, rfl⟩; decide))))⟩ hP hS dX0_take_160
            · skip
              refine lv_lload hE.1 hE.2.1 dX0_take_110 (lv_at hl 2 rfl) ?_
              refine lv_aload_n hE.1 hE.2.1 dX0_take_112 rfl (lv_at hl 7 rfl) ?_
              obtain ⟨z30, hz30, ez30⟩ := XI_get hI 3 3 0 8 (by decide)
              refine x_get (x := .int (vl9 3 3)) hE hK hP 3 (Nat.lt_of_lt_of_le (by decide) hNN) (xG_1 rfl) rfl hin1 3 (by decide) mw_191 rfl dX0_take_113 ?_
              refine x_top (y := iI (z30)) ez30 ?_
              refine lv_i2l (v := lI (z30)) hE.1 hE.2.1 dX0_take_116 (iI_i2l (by omega)) ?_
              refine W.lcmp hE.1 hE.2.1 dX0_take_117 ?_
              obtain ⟨z31, hz31, ez31⟩ := lcmp_of (a := z23) (b := z30) (by omega) (by omega)
              refine x_top ez31 ?_
              refine s_if_ge (a := z31) (tgt := 125) hE.1 hE.2.1 (by omega) dX0_take_118 (by decide) (fun c32 => ?_) (fun c32 => ?_)
              · skip
                refine lv_iconst (v := iI (0)) hE.1 hE.2.1 dX0_take_125 (by decide) ?_
                refine lv_istore (lv' := [(11, .int (iI (0))), (9, .long (lI (z25))), (7, .long (lI (z24))), (5, .long (lI (z23))), (4, .int (iI (y9_4))), (0, .ref (ad 39)), (1, .ref (ad 71)), (2, .int (iI (z_1))), (3, .ref (ad 3))]) hE.1 hE.2.1 dX0_take_126 hl (by decide) rfl (fun ls hl => ?_)
                refine lv_iload hE.1 hE.2.1 dX0_take_128 (lv_at hl 0 rfl) ?_
                refine s_if_eq (a := 0) (tgt := 159) hE.1 hE.2.1 (by omega) dX0_take_130 (by decide) (fun _ => ?_) (fun c33 => False.elim (by omega))
                refine lv_iconst (v := iI (0)) hE.1 hE.2.1 dX0_take_159 (by decide) ?_
                exact kr _ _ _ _ _ _ _ _ (nar01 (by omega)) ⟨⟨0, by omega, rfl⟩, hI, fun i j h => ((hfr9 i j (fun q => h (mem_sub (by decide) q))).trans (up_oth hv1 (fun q => h (by rcases q with ⟨rfl, rfl⟩; decide))))⟩ hP hS dX0_take_160
              · skip
                refine lv_iconst (v := iI (1)) hE.1 hE.2.1 dX0_take_121 (by decide) ?_
                refine lv_goto (tgt := 126) hE.1 hE.2.1 dX0_take_122 (by decide) ?_
                refine lv_istore (lv' := [(11, .int (iI (1))), (9, .long (lI (z25))), (7, .long (lI (z24))), (5, .long (lI (z23))), (4, .int (iI (y9_4))), (0, .ref (ad 39)), (1, .ref (ad 71)), (2, .int (iI (z_1))), (3, .ref (ad 3))]) hE.1 hE.2.1 dX0_take_126 hl (by decide) rfl (fun ls hl => ?_)
                refine lv_iload hE.1 hE.2.1 dX0_take_128 (lv_at hl 0 rfl) ?_
                refine s_if_eq (a := 1) (tgt := 159) hE.1 hE.2.1 (by omega) dX0_take_130 (by decide) (fun c34 => False.elim (by omega)) (fun _ => ?_)
                refine lv_aload_n hE.1 hE.2.1 dX0_take_133 rfl (lv_at hl 8 rfl) ?_
                refine lv_lload hE.1 hE.2.1 dX0_take_134 (lv_at hl 2 rfl) ?_
                refine x_vp (nn := 1) (As := [.long (lI (z24))]) (rest := []) hE (s_X1_hasNumber_3 l D K ad mm N hNN vl9 arl9 all9 hI  (z24) (by omega)) wPre_blind (wPre_now hK hN hP) (x_recv hK hP 3 (Nat.lt_of_lt_of_le (by decide) hNN) (xG_1 rfl) rfl) rfl mw_1173 mw_1147 mw_1148 mw_116 mw_1149 (by decide +kernel) ⟨by decide, by decide⟩ hl.1 rfl (Nat.le_of_ble_eq_true rfl) ⟨Nat.zero_le _, Nat.zero_le _⟩ dX0_take_136 (fun r35 hr35 => ?_)
                obtain ⟨z35, hz35, rfl⟩ := hr35
                refine s_if_eq (a := z35) (tgt := 159) hE.1 hE.2.1 (by omega) dX0_take_139 (by decide) (fun c36 => ?_) (fun c36 => ?_)
                · skip
                  refine lv_iconst (v := iI (0)) hE.1 hE.2.1 dX0_take_159 (by decide) ?_
                  exact kr _ _ _ _ _ _ _ _ (nar01 (by omega)) ⟨⟨0, by omega, rfl⟩, hI, fun i j h => ((hfr9 i j (fun q => h (mem_sub (by decide) q))).trans (up_oth hv1 (fun q => h (by rcases q with ⟨rfl, rfl⟩; decide))))⟩ hP hS dX0_take_160
                · skip
                  refine lv_aload_n hE.1 hE.2.1 dX0_take_142 rfl (lv_at hl 8 rfl) ?_
                  refine lv_lload hE.1 hE.2.1 dX0_take_143 (lv_at hl 1 rfl) ?_
                  refine x_vp (nn := 1) (As := [.long (lI (z25))]) (rest := []) hE (s_X1_hasNumber_3 l D K ad mm N hNN vl9 arl9 all9 hI  (z25) (by omega)) wPre_blind (wPre_now hK hN hP) (x_recv hK hP 3 (Nat.lt_of_lt_of_le (by decide) hNN) (xG_1 rfl) rfl) rfl mw_1173 mw_1147 mw_1148 mw_116 mw_1149 (by decide +kernel) ⟨by decide, by decide⟩ hl.1 rfl (Nat.le_of_ble_eq_true rfl) ⟨Nat.zero_le _, Nat.zero_le _⟩ dX0_take_145 (fun r37 hr37 => ?_)
                  obtain ⟨z37, hz37, rfl⟩ := hr37
                  refine s_if_eq (a := z37) (tgt := 159) hE.1 hE.2.1 (by omega) dX0_take_148 (by decide) (fun c38 => ?_) (fun c38 => ?_)
                  · skip
                    refine lv_iconst (v := iI (0)) hE.1 hE.2.1 dX0_take_159 (by decide) ?_
                    exact kr _ _ _ _ _ _ _ _ (nar01 (by omega)) ⟨⟨0, by omega, rfl⟩, hI, fun i j h => ((hfr9 i j (fun q => h (mem_sub (by decide) q))).trans (up_oth hv1 (fun q => h (by rcases q with ⟨rfl, rfl⟩; decide))))⟩ hP hS dX0_take_160
                  · skip
                    refine lv_lload hE.1 hE.2.1 dX0_take_151 (lv_at hl 2 rfl) ?_
                    refine lv_lload hE.1 hE.2.1 dX0_take_153 (lv_at hl 1 rfl) ?_
                    refine W.lcmp hE.1 hE.2.1 dX0_take_155 ?_
                    obtain ⟨z39, hz39, ez39⟩ := lcmp_of (a := z24) (b := z25) (by omega) (by omega)
                    refine x_top ez39 ?_
                    refine s_if_ne (a := z39) (tgt := 161) hE.1 hE.2.1 (by omega) dX0_take_156 (by decide) (fun c40 => ?_) (fun c40 => ?_)
                    · skip
                      refine lv_aload_n hE.1 hE.2.1 dX0_take_161 rfl (lv_at hl 5 rfl) ?_
                      refine lv_lload hE.1 hE.2.1 dX0_take_162 (lv_at hl 3 rfl) ?_
                      refine lv_l2i (v := iI (z23)) hE.1 hE.2.1 dX0_take_164 (lI_l2i _) ?_
                      refine lv_lload hE.1 hE.2.1 dX0_take_165 (lv_at hl 2 rfl) ?_
                      refine lv_l2i (v := iI (z24)) hE.1 hE.2.1 dX0_take_167 (lI_l2i _) ?_
                      refine lv_lload hE.1 hE.2.1 dX0_take_168 (lv_at hl 1 rfl) ?_
                      refine lv_l2i (v := iI (z25)) hE.1 hE.2.1 dX0_take_170 (lI_l2i _) ?_
                      refine x_vv (nn := 3) (As := [.int (iI (z23)), .int (iI (z24)), .int (iI (z25))]) (rest := []) hE hK hN hP hS (s_X0_note_39 l D K ad mm N hNN vl9 arl9 all9 hI  (z23) (by omega) (z24) (by omega) (z25) (by omega)) (x_recv hK hP 39 (Nat.lt_of_lt_of_le (by decide) hNN) (xG_0 rfl) rfl) rfl mw_1174 mw_1176 mw_40 mw_118 mw_1177 (by decide +kernel) ⟨by decide, by decide⟩ hl.1 rfl (Nat.le_of_ble_eq_true rfl) ⟨Nat.zero_le _, Nat.zero_le _⟩ dX0_take_171 (fun v41 ar41 al41 H locs hq41 hP hS => ?_)
                      obtain ⟨hI, hq41⟩ := hq41
                      have hI : XI v41 := hI
                      refine lv_iload hE.1 hE.2.1 dX0_take_174 (lv_at hl 4 rfl) ?_
                      refine lv_iload_n hE.1 hE.2.1 dX0_take_176 rfl (lv_at hl 7 rfl) ?_
                      refine lv_iadd hE.1 hE.2.1 dX0_take_177 ?_
                      refine x_top (y := iI (y9_4 + z_1)) ((iI_add (y9_4) (z_1)).trans (congrArg iI (by omega))) ?_
                      refine lv_istore (lv' := [(4, .int (iI (y9_4 + z_1))), (11, .int (iI (1))), (9, .long (lI (z25))), (7, .long (lI (z24))), (5, .long (lI (z23))), (0, .ref (ad 39)), (1, .ref (ad 71)), (2, .int (iI (z_1))), (3, .ref (ad 3))]) hE.1 hE.2.1 dX0_take_178 hl (by decide) rfl (fun ls hl => ?_)
                      refine lv_goto (tgt := 48) hE.1 hE.2.1 dX0_take_180 (by decide) ?_
                      exact ih9 _ (by omega) (y9_4 + z_1) v41 ar41 al41 _ _ _ rfl (by omega) hI (fun i j h => ((hq41 i j (fun q => h (mem_sub (by decide) q))).trans (hfr9 i j h))) hP hS (lv_sub hl [0, 5, 6, 7, 8] rfl)
                    · skip
                      refine lv_iconst (v := iI (0)) hE.1 hE.2.1 dX0_take_159 (by decide) ?_
                      exact kr _ _ _ _ _ _ _ _ (nar01 (by omega)) ⟨⟨0, by omega, rfl⟩, hI, fun i j h => ((hfr9 i j (fun q => h (mem_sub (by decide) q))).trans (up_oth hv1 (fun q => h (by rcases q with ⟨rfl, rfl⟩; decide))))⟩ hP hS dX0_take_160
    exact loop9 _ (0) v1 ar4 al4 _ _ _ rfl (by omega) hI (fun _ _ _ => rfl) hP hS hl
  · skip
    refine lv_iconst (v := iI (0)) hE.1 hE.2.1 dX0_take_43 (by decide) ?_
    exact kr _ _ _ _ _ _ _ _ (nar01 (by omega)) ⟨⟨0, by omega, rfl⟩, hI, fun i j h => (up_oth hv1 (fun q => h (by rcases q with ⟨rfl, rfl⟩; decide)))⟩ hP hS dX0_take_44

set_option maxHeartbeats 4000000 in
set_option maxRecDepth 100000 in
theorem s_X5_numberAt_73 (l : Launch) (D : va_G) (K : Nat → ClassId) (ad : Nat → Nat) (mm : Option Nat) (N : Nat) (hNN : 132 ≤ N) (v ar : sI) (al : sL) (hI : XI v) (z_1 : Int) (hz_1 : -2147483648 ≤ z_1 ∧ z_1 ≤ 2147483647) : Met l yX5_numberAt (wM yX5_numberAt cX5_numberAt 2 (some .long)) (rmD 0) (va_Pc [.ref (ad 73), .int (iI (z_1))] (wPre D K ad (xG ad K mm) N v ar al)) (vp_Sl (fun r => ∃ z : Int, (-9223372036854775808 ≤ z ∧ z ≤ 9223372036854775807) ∧ r = lI z)) 0 0 (fun _ => False) := by
  refine s_metL (by decide) (Nat.le_of_ble_eq_true rfl) ?_
  intro p e s m below meth c ls args Q hE hB hl kr
  have hE : CallFix p m c cX5_numberAt 2 s args tbG "TaleCourt$Row" := hE
  obtain ⟨hP, hK, hN⟩ := hB
  have hl : lv_has ls 2 [(0, .ref (ad 73)), (1, .int (iI (z_1)))] := hl
  refine lv_iload_n hE.1 hE.2.1 dX5_numberAt_0 rfl (lv_at hl 1 rfl) ?_
  refine s_if_lt (a := z_1) (tgt := 27) hE.1 hE.2.1 (by omega) dX5_numberAt_1 (by decide) (fun c1 => ?_) (fun c1 => ?_)
  · skip
    refine lv_ldc2 (v := (-1)) hE.1 hE.2.1 hE.2.2.2.1 (hE.2.2.2.2 _ mw_1172) dX5_numberAt_27 ?_
    refine x_topl (y := lI (-1)) (by decide) ?_
    exact kr _ _ _ ⟨-1, by omega, rfl⟩ dX5_numberAt_30
  · skip
    refine lv_iload_n hE.1 hE.2.1 dX5_numberAt_4 rfl (lv_at hl 1 rfl) ?_
    refine lv_aload_n hE.1 hE.2.1 dX5_numberAt_5 rfl (lv_at hl 0 rfl) ?_
    obtain ⟨z2, hz2, ez2⟩ := XI_get hI 73 2 (-1) 60 (by decide)
    refine x_get (x := .int (v 73 2)) hE hK hP 73 (Nat.lt_of_lt_of_le (by decide) hNN) (xG_5 rfl) rfl hin5 2 (by decide) mw_449 rfl dX5_numberAt_6 ?_
    refine x_top (y := iI (z2)) ez2 ?_
    refine s_icmp_ge (a := z_1) (b := z2) (tgt := 27) hE.1 hE.2.1 (by omega) (by omega) dX5_numberAt_9 (by decide) (fun c3 => ?_) (fun c3 => ?_)
    · skip
      refine lv_ldc2 (v := (-1)) hE.1 hE.2.1 hE.2.2.2.1 (hE.2.2.2.2 _ mw_1172) dX5_numberAt_27 ?_
      refine x_topl (y := lI (-1)) (by decide) ?_
      exact kr _ _ _ ⟨-1, by omega, rfl⟩ dX5_numberAt_30
    · skip
      refine lv_iload_n hE.1 hE.2.1 dX5_numberAt_12 rfl (lv_at hl 1 rfl) ?_
      refine lv_bipush (v := iI (60)) hE.1 hE.2.1 dX5_numberAt_13 (by decide) ?_
      refine s_icmp_ge (a := z_1) (b := 60) (tgt := 27) hE.1 hE.2.1 (by omega) (by omega) dX5_numberAt_15 (by decide) (fun c4 => False.elim (by omega)) (fun _ => ?_)
      refine lv_aload_n hE.1 hE.2.1 dX5_numberAt_18 rfl (lv_at hl 0 rfl) ?_
      refine x_get (x := .ref (ad 74)) hE hK hP 73 (Nat.lt_of_lt_of_le (by decide) hNN) (xG_5 rfl) rfl hin5 0 (by decide) mw_445 rfl dX5_numberAt_19 ?_
      refine lv_iload_n hE.1 hE.2.1 dX5_numberAt_22 rfl (lv_at hl 1 rfl) ?_
      refine x_lald (j := iI (z_1)) hE hK hP 74 (Nat.lt_of_lt_of_le (by decide) hNN) (xG_11 rfl) (iI_in (n := 60) (by omega)) dX5_numberAt_23 ?_
      obtain ⟨z6, hz6, ez6⟩ := lI_of (al 74 (iI (z_1)).toNatClampNeg)
      refine x_topl ez6 ?_
      refine lv_goto (tgt := 30) hE.1 hE.2.1 dX5_numberAt_24 (by decide) ?_
      exact kr _ _ _ ⟨z6, by omega, rfl⟩ dX5_numberAt_30

set_option maxHeartbeats 4000000 in
set_option maxRecDepth 100000 in
theorem s_X0_take_39_73_3 (l : Launch) (D : va_G) (K : Nat → ClassId) (ad : Nat → Nat) (mm : Option Nat) (N : Nat) (hNN : 132 ≤ N) (v ar : sI) (al : sL) (hI : XI v) (z_1 : Int) (hz_1 : 2 ≤ z_1 ∧ z_1 ≤ 3) : Met l yX0_take (wM yX0_take cX0_take 12 (some .boolean)) (rmD 1) (va_Pc [.ref (ad 39), .ref (ad 73), .int (iI (z_1)), .ref (ad 3)] (wPre D K ad (xG ad K mm) N v ar al)) (va_Qi (fun (r : Int32) (u : sT) => (∃ z : Int, (0 ≤ z ∧ z ≤ 1) ∧ r = iI z) ∧ XI u.1 ∧ (∀ i j : Nat, (i, j) ∉ ([(39, 0)] : List (Nat × Nat)) → u.1 i j = v i j)) (wB D ad (xG ad K mm) N) (inW ad N)) 0 0 (inW ad N) := by
  refine s_metI (by decide) (Nat.le_of_ble_eq_true rfl) ?_
  intro p e s m below meth c ls args Q hE hB hl kr
  have hE : CallFix p m c cX0_take 12 s args tbG "TaleCourt$Claims" := hE
  obtain ⟨hP, hK, hN⟩ := hB
  have hS : va_S (inW ad N) s.heap s.heap [] := va_S.rf
  have hl : lv_has ls 12 [(0, .ref (ad 39)), (1, .ref (ad 73)), (2, .int (iI (z_1))), (3, .ref (ad 3))] := hl
  refine lv_aload_n hE.1 hE.2.1 dX0_take_0 rfl (lv_at hl 0 rfl) ?_
  refine lv_iconst (v := iI (0)) hE.1 hE.2.1 dX0_take_1 (by decide) ?_
  refine x_put (x := iI (0)) hE hK hN hP hS 39 (Nat.lt_of_lt_of_le (by decide) hNN) (xG_0 rfl) rfl hin0 tyX0 tyX0_ok nmX0 0 (by decide) mw_358 rfl rfl rfl (Nat.le_of_ble_eq_true rfl) (xG_0 rfl) dX0_take_2 (fun v1 H locs hv1 hP hS => ?_)
  have hI := XI_putN hI hv1 (by decide)
  refine lv_aload_n hE.1 hE.2.1 dX0_take_5 rfl (lv_at hl 0 rfl) ?_
  refine x_get (x := .ref (ad 40)) hE hK hP 39 (Nat.lt_of_lt_of_le (by decide) hNN) (xG_0 rfl) rfl hin0 1 (by decide) mw_360 rfl dX0_take_6 ?_
  refine lv_iconst (v := iI (0)) hE.1 hE.2.1 dX0_take_9 (by decide) ?_
  refine x_sv (nn := 2) (As := [.ref (ad 40), .int (iI (0))]) (rest := []) hE hK hN hP hS (k_fillI l D K ad v1 ar al 40 81 (Nat.lt_of_lt_of_le (by decide) hNN) (fun _ => xG_10 rfl) (Nat.le_of_ble_eq_true rfl) (iI (0))) rfl mw_1167 mw_536 mw_124 mw_537 (by decide +kernel) ⟨by decide, by decide⟩ hl.1 rfl (Nat.le_of_ble_eq_true rfl) ⟨Nat.zero_le _, Nat.zero_le _⟩ dX0_take_10 (fun v2 ar2 al2 H locs hq2 hP hS => ?_)
  rw [show v2 = v1 from hq2.1] at hP
  refine lv_aload_n hE.1 hE.2.1 dX0_take_13 rfl (lv_at hl 0 rfl) ?_
  refine x_get (x := .ref (ad 41)) hE hK hP 39 (Nat.lt_of_lt_of_le (by decide) hNN) (xG_0 rfl) rfl hin0 2 (by decide) mw_361 rfl dX0_take_14 ?_
  refine lv_iconst (v := iI (0)) hE.1 hE.2.1 dX0_take_17 (by decide) ?_
  refine x_sv (nn := 2) (As := [.ref (ad 41), .int (iI (0))]) (rest := []) hE hK hN hP hS (k_fillI l D K ad v1 ar2 al2 41 9 (Nat.lt_of_lt_of_le (by decide) hNN) (fun _ => xG_10 rfl) (Nat.le_of_ble_eq_true rfl) (iI (0))) rfl mw_1167 mw_536 mw_124 mw_537 (by decide +kernel) ⟨by decide, by decide⟩ hl.1 rfl (Nat.le_of_ble_eq_true rfl) ⟨Nat.zero_le _, Nat.zero_le _⟩ dX0_take_18 (fun v3 ar3 al3 H locs hq3 hP hS => ?_)
  rw [show v3 = v1 from hq3.1] at hP
  refine lv_aload_n hE.1 hE.2.1 dX0_take_21 rfl (lv_at hl 0 rfl) ?_
  refine x_get (x := .ref (ad 42)) hE hK hP 39 (Nat.lt_of_lt_of_le (by decide) hNN) (xG_0 rfl) rfl hin0 3 (by decide) mw_362 rfl dX0_take_22 ?_
  refine lv_iconst (v := iI (0)) hE.1 hE.2.1 dX0_take_25 (by decide) ?_
  refine x_sv (nn := 2) (As := [.ref (ad 42), .int (iI (0))]) (rest := []) hE hK hN hP hS (k_fillI l D K ad v1 ar3 al3 42 72 (Nat.lt_of_lt_of_le (by decide) hNN) (fun _ => xG_10 rfl) (Nat.le_of_ble_eq_true rfl) (iI (0))) rfl mw_1167 mw_536 mw_124 mw_537 (by decide +kernel) ⟨by decide, by decide⟩ hl.1 rfl (Nat.le_of_ble_eq_true rfl) ⟨Nat.zero_le _, Nat.zero_le _⟩ dX0_take_26 (fun v4 ar4 al4 H locs hq4 hP hS => ?_)
  rw [show v4 = v1 from hq4.1] at hP
  refine lv_iload_n hE.1 hE.2.1 dX0_take_29 rfl (lv_at hl 2 rfl) ?_
  refine lv_iconst (v := iI (1)) hE.1 hE.2.1 dX0_take_30 (by decide) ?_
  refine s_icmp_lt (a := z_1) (b := 1) (tgt := 43) hE.1 hE.2.1 (by omega) (by omega) dX0_take_31 (by decide) (fun c5 => False.elim (by omega)) (fun _ => ?_)
  refine lv_aload_n hE.1 hE.2.1 dX0_take_34 rfl (lv_at hl 1 rfl) ?_
  obtain ⟨z6, hz6, ez6⟩ := XI_get hI 73 2 (-1) 60 (by decide)
  refine x_get (x := .int (v1 73 2)) hE hK hP 73 (Nat.lt_of_lt_of_le (by decide) hNN) (xG_5 rfl) rfl hin5 2 (by decide) mw_450 rfl dX0_take_35 ?_
  refine x_top (y := iI (z6)) ez6 ?_
  refine lv_iload_n hE.1 hE.2.1 dX0_take_38 rfl (lv_at hl 2 rfl) ?_
  refine lv_irem hE.1 hE.2.1 dX0_take_39 (iI_ne0 (by omega) (by omega)) ?_
  obtain ⟨z7, hz7, ez7⟩ := iI_of (iI (z6) - iI (z6) / iI (z_1) * iI (z_1))
  refine x_top ez7 ?_
  refine s_if_eq (a := z7) (tgt := 45) hE.1 hE.2.1 (by omega) dX0_take_40 (by decide) (fun c8 => ?_) (fun c8 => ?_)
  · skip
    refine lv_iconst (v := iI (0)) hE.1 hE.2.1 dX0_take_45 (by decide) ?_
    refine lv_istore (lv' := [(4, .int (iI (0))), (0, .ref (ad 39)), (1, .ref (ad 73)), (2, .int (iI (z_1))), (3, .ref (ad 3))]) hE.1 hE.2.1 dX0_take_46 hl (by decide) rfl (fun ls hl => ?_)
    have loop9 : ∀ (k9 : Nat) (y9_4 : Int) (vl9 arl9 : sI) (all9 : sL) (H : Heap) (locs : List Loc) (ls : Array Slot), (60 - y9_4).toNat = k9 → (0 ≤ y9_4 ∧ y9_4 ≤ 63) → XI vl9 → (∀ i j : Nat, (i, j) ∉ ([(39, 0)] : List (Nat × Nat)) → vl9 i j = v1 i j) → va_P D xcl (wW ad (xG ad K mm) N vl9 arl9 all9) H → va_S (inW ad N) s.heap H locs → lv_has ls 12 [(4, .int (iI (y9_4))), (0, .ref (ad 39)), (1, .ref (ad 73)), (2, .int (iI (z_1))), (3, .ref (ad 3))] → W p l e (rmD 1) s m args below meth c H locs 0 0 Q (F0 m 48 ls []) := by
      intro k9
      induction k9 using Nat.strongRecOn with
      | _ k9 ih9 =>
        intro y9_4 vl9 arl9 all9 H locs ls hk9 hb_y9_4 hI hfr9 hP hS hl
        refine lv_iload hE.1 hE.2.1 dX0_take_48 (lv_at hl 0 rfl) ?_
        refine lv_aload_n hE.1 hE.2.1 dX0_take_50 rfl (lv_at hl 2 rfl) ?_
        refine x_get (x := .int (vl9 73 2)) hE hK hP 73 (Nat.lt_of_lt_of_le (by decide) hNN) (xG_5 rfl) rfl hin5 2 (by decide) mw_450 rfl dX0_take_51 ?_
        refine x_top (y := iI (z6)) ((hfr9 73 2 (by decide)).trans ez6) ?_
        refine s_icmp_ge (a := y9_4) (b := z6) (tgt := 183) hE.1 hE.2.1 (by omega) (by omega) dX0_take_54 (by decide) (fun c10 => ?_) (fun c10 => ?_)
        · skip
          refine lv_iconst (v := iI (1)) hE.1 hE.2.1 dX0_take_183 (by decide) ?_
          exact kr _ _ _ _ _ _ _ _ (nar01 (by omega)) ⟨⟨1, by omega, rfl⟩, hI, fun i j h => ((hfr9 i j (fun q => h (mem_sub (by decide) q))).trans (up_oth hv1 (fun q => h (by rcases q with ⟨rfl, rfl⟩; decide))))⟩ hP hS dX0_take_184
        · skip
          refine lv_iload_n hE.1 hE.2.1 dX0_take_57 rfl (lv_at hl 3 rfl) ?_
          refine lv_iconst (v := iI (3)) hE.1 hE.2.1 dX0_take_58 (by decide) ?_
          refine s_icmp_ne (a := z_1) (b := 3) (tgt := 71) hE.1 hE.2.1 (by omega) (by omega) dX0_take_59 (by decide) (fun c11 => ?_) (fun c11 => ?_)
          · skip
            refine lv_lconst (v := lI (0)) hE.1 hE.2.1 dX0_take_71 (by decide) ?_
            refine lv_lstore (lv' := [(5, .long (lI (0))), (4, .int (iI (y9_4))), (0, .ref (ad 39)), (1, .ref (ad 73)), (2, .int (iI (z_1))), (3, .ref (ad 3))]) hE.1 hE.2.1 dX0_take_72 hl (by decide) rfl (fun ls hl => ?_)
            refine lv_aload_n hE.1 hE.2.1 dX0_take_74 rfl (lv_at hl 3 rfl) ?_
            refine lv_iload hE.1 hE.2.1 dX0_take_75 (lv_at hl 1 rfl) ?_
            refine lv_iload_n hE.1 hE.2.1 dX0_take_77 rfl (lv_at hl 4 rfl) ?_
            refine lv_iadd hE.1 hE.2.1 dX0_take_78 ?_
            refine x_top (y := iI (y9_4 + z_1)) ((iI_add (y9_4) (z_1)).trans (congrArg iI (by omega))) ?_
            refine lv_iconst (v := iI (2)) hE.1 hE.2.1 dX0_take_79 (by decide) ?_
            refine lv_isub hE.1 hE.2.1 dX0_take_80 ?_
            refine x_top (y := iI (y9_4 + z_1 - 2)) ((iI_sub (y9_4 + z_1) (2)).trans (congrArg iI (by omega))) ?_
            refine x_vpl (nn := 1) (As := [.int (iI (y9_4 + z_1 - 2))]) (rest := []) hE (s_X5_numberAt_73 l D K ad mm N hNN vl9 arl9 all9 hI  (y9_4 + z_1 - 2) (by omega)) wPre_blind (wPre_now hK hN hP) (x_recv hK hP 73 (Nat.lt_of_lt_of_le (by decide) hNN) (xG_5 rfl) rfl) rfl mw_1168 mw_1169 mw_1170 mw_121 mw_1171 (by decide +kernel) ⟨by decide, by decide⟩ hl.1 rfl (Nat.le_of_ble_eq_true rfl) ⟨Nat.zero_le _, Nat.zero_le _⟩ dX0_take_81 (fun r12 hr12 => ?_)
            obtain ⟨z12, hz12, rfl⟩ := hr12
            refine lv_lstore (lv' := [(7, .long (lI (z12))), (5, .long (lI (0))), (4, .int (iI (y9_4))), (0, .ref (ad 39)), (1, .ref (ad 73)), (2, .int (iI (z_1))), (3, .ref (ad 3))]) hE.1 hE.2.1 dX0_take_84 hl (by decide) rfl (fun ls hl => ?_)
            refine lv_aload_n hE.1 hE.2.1 dX0_take_86 rfl (lv_at hl 4 rfl) ?_
            refine lv_iload hE.1 hE.2.1 dX0_take_87 (lv_at hl 2 rfl) ?_
            refine lv_iload_n hE.1 hE.2.1 dX0_take_89 rfl (lv_at hl 5 rfl) ?_
            refine lv_iadd hE.1 hE.2.1 dX0_take_90 ?_
            refine x_top (y := iI (y9_4 + z_1)) ((iI_add (y9_4) (z_1)).trans (congrArg iI (by omega))) ?_
            refine lv_iconst (v := iI (1)) hE.1 hE.2.1 dX0_take_91 (by decide) ?_
            refine lv_isub hE.1 hE.2.1 dX0_take_92 ?_
            refine x_top (y := iI (y9_4 + z_1 - 1)) ((iI_sub (y9_4 + z_1) (1)).trans (congrArg iI (by omega))) ?_
            refine x_vpl (nn := 1) (As := [.int (iI (y9_4 + z_1 - 1))]) (rest := []) hE (s_X5_numberAt_73 l D K ad mm N hNN vl9 arl9 all9 hI  (y9_4 + z_1 - 1) (by omega)) wPre_blind (wPre_now hK hN hP) (x_recv hK hP 73 (Nat.lt_of_lt_of_le (by decide) hNN) (xG_5 rfl) rfl) rfl mw_1168 mw_1169 mw_1170 mw_121 mw_1171 (by decide +kernel) ⟨by decide, by decide⟩ hl.1 rfl (Nat.le_of_ble_eq_true rfl) ⟨Nat.zero_le _, Nat.zero_le _⟩ dX0_take_93 (fun r13 hr13 => ?_)
            obtain ⟨z13, hz13, rfl⟩ := hr13
            refine lv_lstore (lv' := [(9, .long (lI (z13))), (7, .long (lI (z12))), (5, .long (lI (0))), (4, .int (iI (y9_4))), (0, .ref (ad 39)), (1, .ref (ad 73)), (2, .int (iI (z_1))), (3, .ref (ad 3))]) hE.1 hE.2.1 dX0_take_96 hl (by decide) rfl (fun ls hl => ?_)
            refine lv_iload_n hE.1 hE.2.1 dX0_take_98 rfl (lv_at hl 6 rfl) ?_
            refine lv_iconst (v := iI (3)) hE.1 hE.2.1 dX0_take_99 (by decide) ?_
            refine s_icmp_ne (a := z_1) (b := 3) (tgt := 121) hE.1 hE.2.1 (by omega) (by omega) dX0_take_100 (by decide) (fun _ => ?_) (fun c14 => False.elim (by omega))
            refine lv_iconst (v := iI (1)) hE.1 hE.2.1 dX0_take_121 (by decide) ?_
            refine lv_goto (tgt := 126) hE.1 hE.2.1 dX0_take_122 (by decide) ?_
            refine lv_istore (lv' := [(11, .int (iI (1))), (9, .long (lI (z13))), (7, .long (lI (z12))), (5, .long (lI (0))), (4, .int (iI (y9_4))), (0, .ref (ad 39)), (1, .ref (ad 73)), (2, .int (iI (z_1))), (3, .ref (ad 3))]) hE.1 hE.2.1 dX0_take_126 hl (by decide) rfl (fun ls hl => ?_)
            refine lv_iload hE.1 hE.2.1 dX0_take_128 (lv_at hl 0 rfl) ?_
            refine s_if_eq (a := 1) (tgt := 159) hE.1 hE.2.1 (by omega) dX0_take_130 (by decide) (fun c15 => False.elim (by omega)) (fun _ => ?_)
            refine lv_aload_n hE.1 hE.2.1 dX0_take_133 rfl (lv_at hl 8 rfl) ?_
            refine lv_lload hE.1 hE.2.1 dX0_take_134 (lv_at hl 2 rfl) ?_
            refine x_vp (nn := 1) (As := [.long (lI (z12))]) (rest := []) hE (s_X1_hasNumber_3 l D K ad mm N hNN vl9 arl9 all9 hI  (z12) (by omega)) wPre_blind (wPre_now hK hN hP) (x_recv hK hP 3 (Nat.lt_of_lt_of_le (by decide) hNN) (xG_1 rfl) rfl) rfl mw_1173 mw_1147 mw_1148 mw_116 mw_1149 (by decide +kernel) ⟨by decide, by decide⟩ hl.1 rfl (Nat.le_of_ble_eq_true rfl) ⟨Nat.zero_le _, Nat.zero_le _⟩ dX0_take_136 (fun r16 hr16 => ?_)
            obtain ⟨z16, hz16, rfl⟩ := hr16
            refine s_if_eq (a := z16) (tgt := 159) hE.1 hE.2.1 (by omega) dX0_take_139 (by decide) (fun c17 => ?_) (fun c17 => ?_)
            · skip
              refine lv_iconst (v := iI (0)) hE.1 hE.2.1 dX0_take_159 (by decide) ?_
              exact kr _ _ _ _ _ _ _ _ (nar01 (by omega)) ⟨⟨0, by omega, rfl⟩, hI, fun i j h => ((hfr9 i j (fun q => h (mem_sub (by decide) q))).trans (up_oth hv1 (fun q => h (by rcases q with ⟨rfl, rfl⟩; decide))))⟩ hP hS dX0_take_160
            · skip
              refine lv_aload_n hE.1 hE.2.1 dX0_take_142 rfl (lv_at hl 8 rfl) ?_
              refine lv_lload hE.1 hE.2.1 dX0_take_143 (lv_at hl 1 rfl) ?_
              refine x_vp (nn := 1) (As := [.long (lI (z13))]) (rest := []) hE (s_X1_hasNumber_3 l D K ad mm N hNN vl9 arl9 all9 hI  (z13) (by omega)) wPre_blind (wPre_now hK hN hP) (x_recv hK hP 3 (Nat.lt_of_lt_of_le (by decide) hNN) (xG_1 rfl) rfl) rfl mw_1173 mw_1147 mw_1148 mw_116 mw_1149 (by decide +kernel) ⟨by decide, by decide⟩ hl.1 rfl (Nat.le_of_ble_eq_true rfl) ⟨Nat.zero_le _, Nat.zero_le _⟩ dX0_take_145 (fun r18 hr18 => ?_)
              obtain ⟨z18, hz18, rfl⟩ := hr18
              refine s_if_eq (a := z18) (tgt := 159) hE.1 hE.2.1 (by omega) dX0_take_148 (by decide) (fun c19 => ?_) (fun c19 => ?_)
              · skip
                refine lv_iconst (v := iI (0)) hE.1 hE.2.1 dX0_take_159 (by decide) ?_
                exact kr _ _ _ _ _ _ _ _ (nar01 (by omega)) ⟨⟨0, by omega, rfl⟩, hI, fun i j h => ((hfr9 i j (fun q => h (mem_sub (by decide) q))).trans (up_oth hv1 (fun q => h (by rcases q with ⟨rfl, rfl⟩; decide))))⟩ hP hS dX0_take_160
              · skip
                refine lv_lload hE.1 hE.2.1 dX0_take_151 (lv_at hl 2 rfl) ?_
                refine lv_lload hE.1 hE.2.1 dX0_take_153 (lv_at hl 1 rfl) ?_
                refine W.lcmp hE.1 hE.2.1 dX0_take_155 ?_
                obtain ⟨z20, hz20, ez20⟩ := lcmp_of (a := z12) (b := z13) (by omega) (by omega)
                refine x_top ez20 ?_
                refine s_if_ne (a := z20) (tgt := 161) hE.1 hE.2.1 (by omega) dX0_take_156 (by decide) (fun c21 => ?_) (fun c21 => ?_)
                · skip
                  refine lv_aload_n hE.1 hE.2.1 dX0_take_161 rfl (lv_at hl 5 rfl) ?_
                  refine lv_lload hE.1 hE.2.1 dX0_take_162 (lv_at hl 3 rfl) ?_
                  refine lv_l2i (v := iI (0)) hE.1 hE.2.1 dX0_take_164 (lI_l2i _) ?_
                  refine lv_lload hE.1 hE.2.1 dX0_take_165 (lv_at hl 2 rfl) ?_
                  refine lv_l2i (v := iI (z12)) hE.1 hE.2.1 dX0_take_167 (lI_l2i _) ?_
                  refine lv_lload hE.1 hE.2.1 dX0_take_168 (lv_at hl 1 rfl) ?_
                  refine lv_l2i (v := iI (z13)) hE.1 hE.2.1 dX0_take_170 (lI_l2i _) ?_
                  refine x_vv (nn := 3) (As := [.int (iI (0)), .int (iI (z12)), .int (iI (z13))]) (rest := []) hE hK hN hP hS (s_X0_note_39 l D K ad mm N hNN vl9 arl9 all9 hI  (0) (by omega) (z12) (by omega) (z13) (by omega)) (x_recv hK hP 39 (Nat.lt_of_lt_of_le (by decide) hNN) (xG_0 rfl) rfl) rfl mw_1174 mw_1176 mw_40 mw_118 mw_1177 (by decide +kernel) ⟨by decide, by decide⟩ hl.1 rfl (Nat.le_of_ble_eq_true rfl) ⟨Nat.zero_le _, Nat.zero_le _⟩ dX0_take_171 (fun v22 ar22 al22 H locs hq22 hP hS => ?_)
                  obtain ⟨hI, hq22⟩ := hq22
                  have hI : XI v22 := hI
                  refine lv_iload hE.1 hE.2.1 dX0_take_174 (lv_at hl 4 rfl) ?_
                  refine lv_iload_n hE.1 hE.2.1 dX0_take_176 rfl (lv_at hl 7 rfl) ?_
                  refine lv_iadd hE.1 hE.2.1 dX0_take_177 ?_
                  refine x_top (y := iI (y9_4 + z_1)) ((iI_add (y9_4) (z_1)).trans (congrArg iI (by omega))) ?_
                  refine lv_istore (lv' := [(4, .int (iI (y9_4 + z_1))), (11, .int (iI (1))), (9, .long (lI (z13))), (7, .long (lI (z12))), (5, .long (lI (0))), (0, .ref (ad 39)), (1, .ref (ad 73)), (2, .int (iI (z_1))), (3, .ref (ad 3))]) hE.1 hE.2.1 dX0_take_178 hl (by decide) rfl (fun ls hl => ?_)
                  refine lv_goto (tgt := 48) hE.1 hE.2.1 dX0_take_180 (by decide) ?_
                  exact ih9 _ (by omega) (y9_4 + z_1) v22 ar22 al22 _ _ _ rfl (by omega) hI (fun i j h => ((hq22 i j (fun q => h (mem_sub (by decide) q))).trans (hfr9 i j h))) hP hS (lv_sub hl [0, 5, 6, 7, 8] rfl)
                · skip
                  refine lv_iconst (v := iI (0)) hE.1 hE.2.1 dX0_take_159 (by decide) ?_
                  exact kr _ _ _ _ _ _ _ _ (nar01 (by omega)) ⟨⟨0, by omega, rfl⟩, hI, fun i j h => ((hfr9 i j (fun q => h (mem_sub (by decide) q))).trans (up_oth hv1 (fun q => h (by rcases q with ⟨rfl, rfl⟩; decide))))⟩ hP hS dX0_take_160
          · skip
            refine lv_aload_n hE.1 hE.2.1 dX0_take_62 rfl (lv_at hl 2 rfl) ?_
            refine lv_iload hE.1 hE.2.1 dX0_take_63 (lv_at hl 0 rfl) ?_
            refine x_vpl (nn := 1) (As := [.int (iI (y9_4))]) (rest := []) hE (s_X5_numberAt_73 l D K ad mm N hNN vl9 arl9 all9 hI  (y9_4) (by omega)) wPre_blind (wPre_now hK hN hP) (x_recv hK hP 73 (Nat.lt_of_lt_of_le (by decide) hNN) (xG_5 rfl) rfl) rfl mw_1168 mw_1169 mw_1170 mw_121 mw_1171 (by decide +kernel) ⟨by decide, by decide⟩ hl.1 rfl (Nat.le_of_ble_eq_true rfl) ⟨Nat.zero_le _, Nat.zero_le _⟩ dX0_take_65 (fun r23 hr23 => ?_)
            obtain ⟨z23, hz23, rfl⟩ := hr23
            refine lv_goto (tgt := 72) hE.1 hE.2.1 dX0_take_68 (by decide) ?_
            refine lv_lstore (lv' := [(5, .long (lI (z23))), (4, .int (iI (y9_4))), (0, .ref (ad 39)), (1, .ref (ad 73)), (2, .int (iI (z_1))), (3, .ref (ad 3))]) hE.1 hE.2.1 dX0_take_72 hl (by decide) rfl (fun ls hl => ?_)
            refine lv_aload_n hE.1 hE.2.1 dX0_take_74 rfl (lv_at hl 3 rfl) ?_
            refine lv_iload hE.1 hE.2.1 dX0_take_75 (lv_at hl 1 rfl) ?_
            refine lv_iload_n hE.1 hE.2.1 dX0_take_77 rfl (lv_at hl 4 rfl) ?_
            refine lv_iadd hE.1 hE.2.1 dX0_take_78 ?_
            refine x_top (y := iI (y9_4 + z_1)) ((iI_add (y9_4) (z_1)).trans (congrArg iI (by omega))) ?_
            refine lv_iconst (v := iI (2)) hE.1 hE.2.1 dX0_take_79 (by decide) ?_
            refine lv_isub hE.1 hE.2.1 dX0_take_80 ?_
            refine x_top (y := iI (y9_4 + z_1 - 2)) ((iI_sub (y9_4 + z_1) (2)).trans (congrArg iI (by omega))) ?_
            refine x_vpl (nn := 1) (As := [.int (iI (y9_4 + z_1 - 2))]) (rest := []) hE (s_X5_numberAt_73 l D K ad mm N hNN vl9 arl9 all9 hI  (y9_4 + z_1 - 2) (by omega)) wPre_blind (wPre_now hK hN hP) (x_recv hK hP 73 (Nat.lt_of_lt_of_le (by decide) hNN) (xG_5 rfl) rfl) rfl mw_1168 mw_1169 mw_1170 mw_121 mw_1171 (by decide +kernel) ⟨by decide, by decide⟩ hl.1 rfl (Nat.le_of_ble_eq_true rfl) ⟨Nat.zero_le _, Nat.zero_le _⟩ dX0_take_81 (fun r24 hr24 => ?_)
            obtain ⟨z24, hz24, rfl⟩ := hr24
            refine lv_lstore (lv' := [(7, .long (lI (z24))), (5, .long (lI (z23))), (4, .int (iI (y9_4))), (0, .ref (ad 39)), (1, .ref (ad 73)), (2, .int (iI (z_1))), (3, .ref (ad 3))]) hE.1 hE.2.1 dX0_take_84 hl (by decide) rfl (fun ls hl => ?_)
            refine lv_aload_n hE.1 hE.2.1 dX0_take_86 rfl (lv_at hl 4 rfl) ?_
            refine lv_iload hE.1 hE.2.1 dX0_take_87 (lv_at hl 2 rfl) ?_
            refine lv_iload_n hE.1 hE.2.1 dX0_take_89 rfl (lv_at hl 5 rfl) ?_
            refine lv_iadd hE.1 hE.2.1 dX0_take_90 ?_
            refine x_top (y := iI (y9_4 + z_1)) ((iI_add (y9_4) (z_1)).trans (congrArg iI (by omega))) ?_
            refine lv_iconst (v := iI (1)) hE.1 hE.2.1 dX0_take_91 (by decide) ?_
            refine lv_isub hE.1 hE.2.1 dX0_take_92 ?_
            refine x_top (y := iI (y9_4 + z_1 - 1)) ((iI_sub (y9_4 + z_1) (1)).trans (congrArg iI (by omega))) ?_
            refine x_vpl (nn := 1) (As := [.int (iI (y9_4 + z_1 - 1))]) (rest := []) hE (s_X5_numberAt_73 l D K ad mm N hNN vl9 arl9 all9 hI  (y9_4 + z_1 - 1) (by omega)) wPre_blind (wPre_now hK hN hP) (x_recv hK hP 73 (Nat.lt_of_lt_of_le (by decide) hNN) (xG_5 rfl) rfl) rfl mw_1168 mw_1169 mw_1170 mw_121 mw_1171 (by decide +kernel) ⟨by decide, by decide⟩ hl.1 rfl (Nat.le_of_ble_eq_true rfl) ⟨Nat.zero_le _, Nat.zero_le _⟩ dX0_take_93 (fun r25 hr25 => ?_)
            obtain ⟨z25, hz25, rfl⟩ := hr25
            refine lv_lstore (lv' := [(9, .long (lI (z25))), (7, .long (lI (z24))), (5, .long (lI (z23))), (4, .int (iI (y9_4))), (0, .ref (ad 39)), (1, .ref (ad 73)), (2, .int (iI (z_1))), (3, .ref (ad 3))]) hE.1 hE.2.1 dX0_take_96 hl (by decide) rfl (fun ls hl => ?_)
            refine lv_iload_n hE.1 hE.2.1 dX0_take_98 rfl (lv_at hl 6 rfl) ?_
            refine lv_iconst (v := iI (3)) hE.1 hE.2.1 dX0_take_99 (by decide) ?_
            refine s_icmp_ne (a := z_1) (b := 3) (tgt := 121) hE.1 hE.2.1 (by omega) (by omega) dX0_take_100 (by decide) (fun c26 => False.elim (by omega)) (fun _ => ?_)
            refine lv_lload hE.1 hE.2.1 dX0_take_103 (lv_at hl 2 rfl) ?_
            refine lv_lconst (v := lI (0)) hE.1 hE.2.1 dX0_take_105 (by decide) ?_
            refine W.lcmp hE.1 hE.2.1 dX0_take_106 ?_
            obtain ⟨z27, hz27, ez27⟩ := lcmp_of (a := z23) (b := 0) (by omega) (by omega)
            refine x_top ez27 ?_
            refine s_if_lt (a := z27) (tgt := 125) hE.1 hE.2.1 (by omega) dX0_take_107 (by decide) (fun c28 => ?_) (fun c28 => ?_)
            · skip
              refine lv_iconst (v := iI (0)) hE.1 hE.2.1 dX0_take_125 (by decide) ?_
              refine lv_istore (lv' := [(11, .int (iI (0))), (9, .long (lI (z25))), (7, .long (lI (z24))), (5, .long (lI (z23))), (4, .int (iI (y9_4))), (0, .ref (ad 39)), (1, .ref (ad 73)), (2, .int (iI (z_1))), (3, .ref (ad 3))]) hE.1 hE.2.1 dX0_take_126 hl (by decide) rfl (fun ls hl => ?_)
              refine lv_iload hE.1 hE.2.1 dX0_take_128 (lv_at hl 0 rfl) ?_
              refine s_if_eq (a := 0) (tgt := 159) hE.1 hE.2.1 (by omega) dX0_take_130 (by decide) (fun _ => ?_) (fun c29 => False.elim (by omega))
              refine lv_iconst (v := iI (0)) hE.1 hE.2.1 dX0_take_159 (by decide) ?_
              exact kr _ _ _ _ _ _ _ _ (nar01 (by omega)) ⟨⟨0, by omega, rfl⟩, hI, fun i j h => ((hfr9 i j (fun q => h (mem_sub (by decide) q))).trans (up_oth hv1 (fun q => h (by rcases q with ⟨rfl, rfl⟩; decide))))⟩ hP hS dX0_take_160
            · skip
              refine lv_lload hE.1 hE.2.1 dX0_take_110 (lv_at hl 2 rfl) ?_
              refine lv_aload_n hE.1 hE.2.1 dX0_take_112 rfl (lv_at hl 7 rfl) ?_
              obtain ⟨z30, hz30, ez30⟩ := XI_get hI 3 3 0 8 (by decide)
              refine x_get (x := .int (vl9 3 3)) hE hK hP 3 (Nat.lt_of_lt_of_le (by decide) hNN) (xG_1 rfl) rfl hin1 3 (by decide) mw_191 rfl dX0_take_113 ?_
              refine x_top (y := iI (z30)) ez30 ?_
              refine lv_i2l (v := lI (z30)) hE.1 hE.2.1 dX0_take_116 (iI_i2l (by omega)) ?_
              refine W.lcmp hE.1 hE.2.1 dX0_take_117 ?_
              obtain ⟨z31, hz31, ez31⟩ := lcmp_of (a := z23) (b := z30) (by omega) (by omega)
              refine x_top ez31 ?_
              refine s_if_ge (a := z31) (tgt := 125) hE.1 hE.2.1 (by omega) dX0_take_118 (by decide) (fun c32 => ?_) (fun c32 => ?_)
              · skip
                refine lv_iconst (v := iI (0)) hE.1 hE.2.1 dX0_take_125 (by decide) ?_
                refine lv_istore (lv' := [(11, .int (iI (0))), (9, .long (lI (z25))), (7, .long (lI (z24))), (5, .long (lI (z23))), (4, .int (iI (y9_4))), (0, .ref (ad 39)), (1, .ref (ad 73)), (2, .int (iI (z_1))), (3, .ref (ad 3))]) hE.1 hE.2.1 dX0_take_126 hl (by decide) rfl (fun ls hl => ?_)
                refine lv_iload hE.1 hE.2.1 dX0_take_128 (lv_at hl 0 rfl) ?_
                refine s_if_eq (a := 0) (tgt := 159) hE.1 hE.2.1 (by omega) dX0_take_130 (by decide) (fun _ => ?_) (fun c33 => False.elim (by omega))
                refine lv_iconst (v := iI (0)) hE.1 hE.2.1 dX0_take_159 (by decide) ?_
                exact kr _ _ _ _ _ _ _ _ (nar01 (by omega)) ⟨⟨0, by omega, rfl⟩, hI, fun i j h => ((hfr9 i j (fun q => h (mem_sub (by decide) q))).trans (up_oth hv1 (fun q => h (by rcases q with ⟨rfl, rfl⟩; decide))))⟩ hP hS dX0_take_160
              · skip
                refine lv_iconst (v := iI (1)) hE.1 hE.2.1 dX0_take_121 (by decide) ?_
                refine lv_goto (tgt := 126) hE.1 hE.2.1 dX0_take_122 (by decide) ?_
                refine lv_istore (lv' := [(11, .int (iI (1))), (9, .long (lI (z25))), (7, .long (lI (z24))), (5, .long (lI (z23))), (4, .int (iI (y9_4))), (0, .ref (ad 39)), (1, .ref (ad 73)), (2, .int (iI (z_1))), (3, .ref (ad 3))]) hE.1 hE.2.1 dX0_take_126 hl (by decide) rfl (fun ls hl => ?_)
                refine lv_iload hE.1 hE.2.1 dX0_take_128 (lv_at hl 0 rfl) ?_
                refine s_if_eq (a := 1) (tgt := 159) hE.1 hE.2.1 (by omega) dX0_take_130 (by decide) (fun c34 => False.elim (by omega)) (fun _ => ?_)
                refine lv_aload_n hE.1 hE.2.1 dX0_take_133 rfl (lv_at hl 8 rfl) ?_
                refine lv_lload hE.1 hE.2.1 dX0_take_134 (lv_at hl 2 rfl) ?_
                refine x_vp (nn := 1) (As := [.long (lI (z24))]) (rest := []) hE (s_X1_hasNumber_3 l D K ad mm N hNN vl9 arl9 all9 hI  (z24) (by omega)) wPre_blind (wPre_now hK hN hP) (x_recv hK hP 3 (Nat.lt_of_lt_of_le (by decide) hNN) (xG_1 rfl) rfl) rfl mw_1173 mw_1147 mw_1148 mw_116 mw_1149 (by decide +kernel) ⟨by decide, by decide⟩ hl.1 rfl (Nat.le_of_ble_eq_true rfl) ⟨Nat.zero_le _, Nat.zero_le _⟩ dX0_take_136 (fun r35 hr35 => ?_)
                obtain ⟨z35, hz35, rfl⟩ := hr35
                refine s_if_eq (a := z35) (tgt := 159) hE.1 hE.2.1 (by omega) dX0_take_139 (by decide) (fun c36 => ?_) (fun c36 => ?_)
                · skip
                  refine lv_iconst (v := iI (0)) hE.1 hE.2.1 dX0_take_159 (by decide) ?_
                  exact kr _ _ _ _ _ _ _ _ (nar01 (by omega)) ⟨⟨0, by omega, rfl⟩, hI, fun i j h => ((hfr9 i j (fun q => h (mem_sub (by decide) q))).trans (up_oth hv1 (fun q => h (by rcases q with ⟨rfl, rfl⟩; decide))))⟩ hP hS dX0_take_160
                · skip
                  refine lv_aload_n hE.1 hE.2.1 dX0_take_142 rfl (lv_at hl 8 rfl) ?_
                  refine lv_lload hE.1 hE.2.1 dX0_take_143 (lv_at hl 1 rfl) ?_
                  refine x_vp (nn := 1) (As := [.long (lI (z25))]) (rest := []) hE (s_X1_hasNumber_3 l D K ad mm N hNN vl9 arl9 all9 hI  (z25) (by omega)) wPre_blind (wPre_now hK hN hP) (x_recv hK hP 3 (Nat.lt_of_lt_of_le (by decide) hNN) (xG_1 rfl) rfl) rfl mw_1173 mw_1147 mw_1148 mw_116 mw_1149 (by decide +kernel) ⟨by decide, by decide⟩ hl.1 rfl (Nat.le_of_ble_eq_true rfl) ⟨Nat.zero_le _, Nat.zero_le _⟩ dX0_take_145 (fun r37 hr37 => ?_)
                  obtain ⟨z37, hz37, rfl⟩ := hr37
                  refine s_if_eq (a := z37) (tgt := 159) hE.1 hE.2.1 (by omega) dX0_take_148 (by decide) (fun c38 => ?_) (fun c38 => ?_)
                  · skip
                    refine lv_iconst (v := iI (0)) hE.1 hE.2.1 dX0_take_159 (by decide) ?_
                    exact kr _ _ _ _ _ _ _ _ (nar01 (by omega)) ⟨⟨0, by omega, rfl⟩, hI, fun i j h => ((hfr9 i j (fun q => h (mem_sub (by decide) q))).trans (up_oth hv1 (fun q => h (by rcases q with ⟨rfl, rfl⟩; decide))))⟩ hP hS dX0_take_160
                  · skip
                    refine lv_lload hE.1 hE.2.1 dX0_take_151 (lv_at hl 2 rfl) ?_
                    refine lv_lload hE.1 hE.2.1 dX0_take_153 (lv_at hl 1 rfl) ?_
                    refine W.lcmp hE.1 hE.2.1 dX0_take_155 ?_
                    obtain ⟨z39, hz39, ez39⟩ := lcmp_of (a := z24) (b := z25) (by omega) (by omega)
                    refine x_top ez39 ?_
                    refine s_if_ne (a := z39) (tgt := 161) hE.1 hE.2.1 (by omega) dX0_take_156 (by decide) (fun c40 => ?_) (fun c40 => ?_)
                    · skip
                      refine lv_aload_n hE.1 hE.2.1 dX0_take_161 rfl (lv_at hl 5 rfl) ?_
                      refine lv_lload hE.1 hE.2.1 dX0_take_162 (lv_at hl 3 rfl) ?_
                      refine lv_l2i (v := iI (z23)) hE.1 hE.2.1 dX0_take_164 (lI_l2i _) ?_
                      refine lv_lload hE.1 hE.2.1 dX0_take_165 (lv_at hl 2 rfl) ?_
                      refine lv_l2i (v := iI (z24)) hE.1 hE.2.1 dX0_take_167 (lI_l2i _) ?_
                      refine lv_lload hE.1 hE.2.1 dX0_take_168 (lv_at hl 1 rfl) ?_
                      refine lv_l2i (v := iI (z25)) hE.1 hE.2.1 dX0_take_170 (lI_l2i _) ?_
                      refine x_vv (nn := 3) (As := [.int (iI (z23)), .int (iI (z24)), .int (iI (z25))]) (rest := []) hE hK hN hP hS (s_X0_note_39 l D K ad mm N hNN vl9 arl9 all9 hI  (z23) (by omega) (z24) (by omega) (z25) (by omega)) (x_recv hK hP 39 (Nat.lt_of_lt_of_le (by decide) hNN) (xG_0 rfl) rfl) rfl mw_1174 mw_1176 mw_40 mw_118 mw_1177 (by decide +kernel) ⟨by decide, by decide⟩ hl.1 rfl (Nat.le_of_ble_eq_true rfl) ⟨Nat.zero_le _, Nat.zero_le _⟩ dX0_take_171 (fun v41 ar41 al41 H locs hq41 hP hS => ?_)
                      obtain ⟨hI, hq41⟩ := hq41
                      have hI : XI v41 := hI
                      refine lv_iload hE.1 hE.2.1 dX0_take_174 (lv_at hl 4 rfl) ?_
                      refine lv_iload_n hE.1 hE.2.1 dX0_take_176 rfl (lv_at hl 7 rfl) ?_
                      refine lv_iadd hE.1 hE.2.1 dX0_take_177 ?_
                      refine x_top (y := iI (y9_4 + z_1)) ((iI_add (y9_4) (z_1)).trans (congrArg iI (by omega))) ?_
                      refine lv_istore (lv' := [(4, .int (iI (y9_4 + z_1))), (11, .int (iI (1))), (9, .long (lI (z25))), (7, .long (lI (z24))), (5, .long (lI (z23))), (0, .ref (ad 39)), (1, .ref (ad 73)), (2, .int (iI (z_1))), (3, .ref (ad 3))]) hE.1 hE.2.1 dX0_take_178 hl (by decide) rfl (fun ls hl => ?_)
                      refine lv_goto (tgt := 48) hE.1 hE.2.1 dX0_take_180 (by decide) ?_
                      exact ih9 _ (by omega) (y9_4 + z_1) v41 ar41 al41 _ _ _ rfl (by omega) hI (fun i j h => ((hq41 i j (fun q => h (mem_sub (by decide) q))).trans (hfr9 i j h))) hP hS (lv_sub hl [0, 5, 6, 7, 8] rfl)
                    · skip
                      refine lv_iconst (v := iI (0)) hE.1 hE.2.1 dX0_take_159 (by decide) ?_
                      exact kr _ _ _ _ _ _ _ _ (nar01 (by omega)) ⟨⟨0, by omega, rfl⟩, hI, fun i j h => ((hfr9 i j (fun q => h (mem_sub (by decide) q))).trans (up_oth hv1 (fun q => h (by rcases q with ⟨rfl, rfl⟩; decide))))⟩ hP hS dX0_take_160
    exact loop9 _ (0) v1 ar4 al4 _ _ _ rfl (by omega) hI (fun _ _ _ => rfl) hP hS hl
  · skip
    refine lv_iconst (v := iI (0)) hE.1 hE.2.1 dX0_take_43 (by decide) ?_
    exact kr _ _ _ _ _ _ _ _ (nar01 (by omega)) ⟨⟨0, by omega, rfl⟩, hI, fun i j h => (up_oth hv1 (fun q => h (by rcases q with ⟨rfl, rfl⟩; decide)))⟩ hP hS dX0_take_44

theorem dX8_claimsBar_0 : decode cX8_claimsBar 0 = .ok (.aload_n 0, 1) := by decide +kernel
theorem dX8_claimsBar_1 : decode cX8_claimsBar 1 = .ok (.iload_n 1, 1) := by decide +kernel
theorem dX8_claimsBar_2 : decode cX8_claimsBar 2 = .ok (.invokevirtual 264, 3) := by decide +kernel
theorem dX8_claimsBar_5 : decode cX8_claimsBar 5 = .ok (.istore_n 3, 1) := by decide +kernel
theorem dX8_claimsBar_6 : decode cX8_claimsBar 6 = .ok (.iload_n 3, 1) := by decide +kernel
theorem dX8_claimsBar_7 : decode cX8_claimsBar 7 = .ok (.ifCond .eq 5, 3) := by decide +kernel
theorem dX8_claimsBar_10 : decode cX8_claimsBar 10 = .ok (.iload_n 3, 1) := by decide +kernel
theorem dX8_claimsBar_11 : decode cX8_claimsBar 11 = .ok (.ireturn, 1) := by decide +kernel
theorem dX8_claimsBar_12 : decode cX8_claimsBar 12 = .ok (.aload_n 0, 1) := by decide +kernel
theorem dX8_claimsBar_13 : decode cX8_claimsBar 13 = .ok (.getfield 41, 3) := by decide +kernel
theorem dX8_claimsBar_16 : decode cX8_claimsBar 16 = .ok (.aload_n 0, 1) := by decide +kernel
theorem dX8_claimsBar_17 : decode cX8_claimsBar 17 = .ok (.getfield 63, 3) := by decide +kernel
theorem dX8_claimsBar_20 : decode cX8_claimsBar 20 = .ok (.iload_n 1, 1) := by decide +kernel
theorem dX8_claimsBar_21 : decode cX8_claimsBar 21 = .ok (.aaload, 1) := by decide +kernel
theorem dX8_claimsBar_22 : decode cX8_claimsBar 22 = .ok (.iload_n 2, 1) := by decide +kernel
theorem dX8_claimsBar_23 : decode cX8_claimsBar 23 = .ok (.aload_n 0, 1) := by decide +kernel
theorem dX8_claimsBar_24 : decode cX8_claimsBar 24 = .ok (.getfield 19, 3) := by decide +kernel
theorem dX8_claimsBar_27 : decode cX8_claimsBar 27 = .ok (.invokevirtual 285, 3) := by decide +kernel
theorem dX8_claimsBar_30 : decode cX8_claimsBar 30 = .ok (.ifCond .eq 7, 3) := by decide +kernel
theorem dX8_claimsBar_33 : decode cX8_claimsBar 33 = .ok (.iconst 0, 1) := by decide +kernel
theorem dX8_claimsBar_34 : decode cX8_claimsBar 34 = .ok (.goto 5, 3) := by decide +kernel
theorem dX8_claimsBar_37 : decode cX8_claimsBar 37 = .ok (.bipush (-2), 2) := by decide +kernel
theorem dX8_claimsBar_39 : decode cX8_claimsBar 39 = .ok (.ireturn, 1) := by decide +kernel
set_option maxHeartbeats 4000000 in
set_option maxRecDepth 100000 in
theorem s_X8_claimsBar_0 (l : Launch) (D : va_G) (K : Nat → ClassId) (ad : Nat → Nat) (mm : Option Nat) (N : Nat) (hNN : 132 ≤ N) (v ar : sI) (al : sL) (hI : XI v) (z_1 : Int) (hz_1 : -2147483648 ≤ z_1 ∧ z_1 ≤ 2147483647) (z_2 : Int) (hz_2 : 2 ≤ z_2 ∧ z_2 ≤ 3) : Met l yX8_claimsBar (wM yX8_claimsBar cX8_claimsBar 4 (some .int)) (rmD 2) (va_Pc [.ref (ad 0), .int (iI (z_1)), .int (iI (z_2))] (wPre D K ad (xG ad K mm) N v ar al)) (va_Qi (fun (r : Int32) (u : sT) => (∃ z : Int, (z = -2 ∨ z = -6 ∨ (z = 0 ∧ 0 ≤ z_1 ∧ z_1 ≤ 3)) ∧ r = iI z) ∧ XI u.1 ∧ (∀ i j : Nat, (i, j) ∉ ([(39, 0)] : List (Nat × Nat)) → u.1 i j = v i j)) (wB D ad (xG ad K mm) N) (inW ad N)) 0 0 (inW ad N) := by
  refine s_metI (by decide) (Nat.le_of_ble_eq_true rfl) ?_
  intro p e s m below meth c ls args Q hE hB hl kr
  have hE : CallFix p m c cX8_claimsBar 4 s args tbG "TaleCourt" := hE
  obtain ⟨hP, hK, hN⟩ := hB
  have hS : va_S (inW ad N) s.heap s.heap [] := va_S.rf
  have hl : lv_has ls 4 [(0, .ref (ad 0)), (1, .int (iI (z_1))), (2, .int (iI (z_2)))] := hl
  refine lv_aload_n hE.1 hE.2.1 dX8_claimsBar_0 rfl (lv_at hl 0 rfl) ?_
  refine lv_iload_n hE.1 hE.2.1 dX8_claimsBar_1 rfl (lv_at hl 1 rfl) ?_
  refine x_vp (nn := 1) (As := [.int (iI (z_1))]) (rest := []) hE (s_X8_slotBar_0 l D K ad mm N hNN v ar al hI  (z_1) (by omega)) wPre_blind (wPre_now hK hN hP) (x_recv hK hP 0 (Nat.lt_of_lt_of_le (by decide) hNN) (xG_8 rfl) rfl) rfl mw_1130 mw_1132 mw_36 mw_114 mw_1133 (by decide +kernel) ⟨by decide, by decide⟩ hl.1 rfl (Nat.le_of_ble_eq_true rfl) ⟨Nat.zero_le _, Nat.zero_le _⟩ dX8_claimsBar_2 (fun r1 hr1 => ?_)
  obtain ⟨z1, hz1, rfl⟩ := hr1
  refine lv_istore_n (lv' := [(3, .int (iI (z1))), (0, .ref (ad 0)), (1, .int (iI (z_1))), (2, .int (iI (z_2)))]) hE.1 hE.2.1 dX8_claimsBar_5 rfl hl (by decide) rfl (fun ls hl => ?_)
  refine lv_iload_n hE.1 hE.2.1 dX8_claimsBar_6 rfl (lv_at hl 0 rfl) ?_
  refine s_if_eq (a := z1) (tgt := 12) hE.1 hE.2.1 (by omega) dX8_claimsBar_7 (by decide) (fun c2 => ?_) (fun c2 => ?_)
  · skip
    refine lv_aload_n hE.1 hE.2.1 dX8_claimsBar_12 rfl (lv_at hl 1 rfl) ?_
    refine x_get (x := .ref (ad 39)) hE hK hP 0 (Nat.lt_of_lt_of_le (by decide) hNN) (xG_8 rfl) rfl hin8 5 (by decide) mw_485 rfl dX8_claimsBar_13 ?_
    refine lv_aload_n hE.1 hE.2.1 dX8_claimsBar_16 rfl (lv_at hl 1 rfl) ?_
    refine x_get (x := .ref (ad 65)) hE hK hP 0 (Nat.lt_of_lt_of_le (by decide) hNN) (xG_8 rfl) rfl hin8 8 (by decide) mw_488 rfl dX8_claimsBar_17 ?_
    refine lv_iload_n hE.1 hE.2.1 dX8_claimsBar_20 rfl (lv_at hl 2 rfl) ?_
    rcases (show z_1 = 0 ∨ z_1 = 1 ∨ z_1 = 2 ∨ z_1 = 3 by omega) with rfl | rfl | rfl | rfl
    · skip
      refine x_aald (r := .ref (ad 67)) hE hK hP 65 4 (Nat.lt_of_lt_of_le (by decide) hNN) (xG_13 rfl) rfl (by unfold vp_in; decide) rfl dX8_claimsBar_21 ?_
      refine lv_iload_n hE.1 hE.2.1 dX8_claimsBar_22 rfl (lv_at hl 3 rfl) ?_
      refine lv_aload_n hE.1 hE.2.1 dX8_claimsBar_23 rfl (lv_at hl 1 rfl) ?_
      refine x_get (x := .ref (ad 3)) hE hK hP 0 (Nat.lt_of_lt_of_le (by decide) hNN) (xG_8 rfl) rfl hin8 1 (by decide) mw_481 rfl dX8_claimsBar_24 ?_
      refine x_vi (nn := 3) (As := [.ref (ad 67), .int (iI (z_2)), .ref (ad 3)]) (rest := []) hE hK hN hP hS (s_X0_take_39_67_3 l D K ad mm N hNN v ar al hI  (z_2) (by omega)) (x_recv hK hP 39 (Nat.lt_of_lt_of_le (by decide) hNN) (xG_0 rfl) rfl) rfl mw_1163 mw_1164 mw_1165 mw_118 mw_1166 (by decide +kernel) ⟨by decide, by decide⟩ hl.1 rfl (Nat.le_of_ble_eq_true rfl) ⟨Nat.zero_le _, Nat.zero_le _⟩ dX8_claimsBar_27 (fun r3 v3 ar3 al3 H locs hq3 hP hS => ?_)
      obtain ⟨⟨z3, hz3, rfl⟩, hI, hq3⟩ := hq3
      have hI : XI v3 := hI
      refine s_if_eq (a := z3) (tgt := 37) hE.1 hE.2.1 (by omega) dX8_claimsBar_30 (by decide) (fun c4 => ?_) (fun c4 => ?_)
      · skip
        refine lv_bipush (v := iI (-2)) hE.1 hE.2.1 dX8_claimsBar_37 (by decide) ?_
        exact kr _ _ _ _ _ _ _ _ rfl ⟨⟨-2, by omega, rfl⟩, hI, fun i j h => (hq3 i j (fun q => h (mem_sub (by decide) q)))⟩ hP hS dX8_claimsBar_39
      · skip
        refine lv_iconst (v := iI (0)) hE.1 hE.2.1 dX8_claimsBar_33 (by decide) ?_
        refine lv_goto (tgt := 39) hE.1 hE.2.1 dX8_claimsBar_34 (by decide) ?_
        exact kr _ _ _ _ _ _ _ _ rfl ⟨⟨0, by omega, rfl⟩, hI, fun i j h => (hq3 i j (fun q => h (mem_sub (by decide) q)))⟩ hP hS dX8_claimsBar_39
    · skip
      refine x_aald (r := .ref (ad 69)) hE hK hP 65 4 (Nat.lt_of_lt_of_le (by decide) hNN) (xG_13 rfl) rfl (by unfold vp_in; decide) rfl dX8_claimsBar_21 ?_
      refine lv_iload_n hE.1 hE.2.1 dX8_claimsBar_22 rfl (lv_at hl 3 rfl) ?_
      refine lv_aload_n hE.1 hE.2.1 dX8_claimsBar_23 rfl (lv_at hl 1 rfl) ?_
      refine x_get (x := .ref (ad 3)) hE hK hP 0 (Nat.lt_of_lt_of_le (by decide) hNN) (xG_8 rfl) rfl hin8 1 (by decide) mw_481 rfl dX8_claimsBar_24 ?_
      refine x_vi (nn := 3) (As := [.ref (ad 69), .int (iI (z_2)), .ref (ad 3)]) (rest := []) hE hK hN hP hS (s_X0_take_39_69_3 l D K ad mm N hNN v ar al hI  (z_2) (by omega)) (x_recv hK hP 39 (Nat.lt_of_lt_of_le (by decide) hNN) (xG_0 rfl) rfl) rfl mw_1163 mw_1164 mw_1165 mw_118 mw_1166 (by decide +kernel) ⟨by decide, by decide⟩ hl.1 rfl (Nat.le_of_ble_eq_true rfl) ⟨Nat.zero_le _, Nat.zero_le _⟩ dX8_claimsBar_27 (fun r5 v5 ar5 al5 H locs hq5 hP hS => ?_)
      obtain ⟨⟨z5, hz5, rfl⟩, hI, hq5⟩ := hq5
      have hI : XI v5 := hI
      refine s_if_eq (a := z5) (tgt := 37) hE.1 hE.2.1 (by omega) dX8_claimsBar_30 (by decide) (fun c6 => ?_) (fun c6 => ?_)
      · skip
        refine lv_bipush (v := iI (-2)) hE.1 hE.2.1 dX8_claimsBar_37 (by decide) ?_
        exact kr _ _ _ _ _ _ _ _ rfl ⟨⟨-2, by omega, rfl⟩, hI, fun i j h => (hq5 i j (fun q => h (mem_sub (by decide) q)))⟩ hP hS dX8_claimsBar_39
      · skip
        refine lv_iconst (v := iI (0)) hE.1 hE.2.1 dX8_claimsBar_33 (by decide) ?_
        refine lv_goto (tgt := 39) hE.1 hE.2.1 dX8_claimsBar_34 (by decide) ?_
        exact kr _ _ _ _ _ _ _ _ rfl ⟨⟨0, by omega, rfl⟩, hI, fun i j h => (hq5 i j (fun q => h (mem_sub (by decide) q)))⟩ hP hS dX8_claimsBar_39
    · skip
      refine x_aald (r := .ref (ad 71)) hE hK hP 65 4 (Nat.lt_of_lt_of_le (by decide) hNN) (xG_13 rfl) rfl (by unfold vp_in; decide) rfl dX8_claimsBar_21 ?_
      refine lv_iload_n hE.1 hE.2.1 dX8_claimsBar_22 rfl (lv_at hl 3 rfl) ?_
      refine lv_aload_n hE.1 hE.2.1 dX8_claimsBar_23 rfl (lv_at hl 1 rfl) ?_
      refine x_get (x := .ref (ad 3)) hE hK hP 0 (Nat.lt_of_lt_of_le (by decide) hNN) (xG_8 rfl) rfl hin8 1 (by decide) mw_481 rfl dX8_claimsBar_24 ?_
      refine x_vi (nn := 3) (As := [.ref (ad 71), .int (iI (z_2)), .ref (ad 3)]) (rest := []) hE hK hN hP hS (s_X0_take_39_71_3 l D K ad mm N hNN v ar al hI  (z_2) (by omega)) (x_recv hK hP 39 (Nat.lt_of_lt_of_le (by decide) hNN) (xG_0 rfl) rfl) rfl mw_1163 mw_1164 mw_1165 mw_118 mw_1166 (by decide +kernel) ⟨by decide, by decide⟩ hl.1 rfl (Nat.le_of_ble_eq_true rfl) ⟨Nat.zero_le _, Nat.zero_le _⟩ dX8_claimsBar_27 (fun r7 v7 ar7 al7 H locs hq7 hP hS => ?_)
      obtain ⟨⟨z7, hz7, rfl⟩, hI, hq7⟩ := hq7
      have hI : XI v7 := hI
      refine s_if_eq (a := z7) (tgt := 37) hE.1 hE.2.1 (by omega) dX8_claimsBar_30 (by decide) (fun c8 => ?_) (fun c8 => ?_)
      · skip
        refine lv_bipush (v := iI (-2)) hE.1 hE.2.1 dX8_claimsBar_37 (by decide) ?_
        exact kr _ _ _ _ _ _ _ _ rfl ⟨⟨-2, by omega, rfl⟩, hI, fun i j h => (hq7 i j (fun q => h (mem_sub (by decide) q)))⟩ hP hS dX8_claimsBar_39
      · skip
        refine lv_iconst (v := iI (0)) hE.1 hE.2.1 dX8_claimsBar_33 (by decide) ?_
        refine lv_goto (tgt := 39) hE.1 hE.2.1 dX8_claimsBar_34 (by decide) ?_
        exact kr _ _ _ _ _ _ _ _ rfl ⟨⟨0, by omega, rfl⟩, hI, fun i j h => (hq7 i j (fun q => h (mem_sub (by decide) q)))⟩ hP hS dX8_claimsBar_39
    · skip
      refine x_aald (r := .ref (ad 73)) hE hK hP 65 4 (Nat.lt_of_lt_of_le (by decide) hNN) (xG_13 rfl) rfl (by unfold vp_in; decide) rfl dX8_claimsBar_21 ?_
      refine lv_iload_n hE.1 hE.2.1 dX8_claimsBar_22 rfl (lv_at hl 3 rfl) ?_
      refine lv_aload_n hE.1 hE.2.1 dX8_claimsBar_23 rfl (lv_at hl 1 rfl) ?_
      refine x_get (x := .ref (ad 3)) hE hK hP 0 (Nat.lt_of_lt_of_le (by decide) hNN) (xG_8 rfl) rfl hin8 1 (by decide) mw_481 rfl dX8_claimsBar_24 ?_
      refine x_vi (nn := 3) (As := [.ref (ad 73), .int (iI (z_2)), .ref (ad 3)]) (rest := []) hE hK hN hP hS (s_X0_take_39_73_3 l D K ad mm N hNN v ar al hI  (z_2) (by omega)) (x_recv hK hP 39 (Nat.lt_of_lt_of_le (by decide) hNN) (xG_0 rfl) rfl) rfl mw_1163 mw_1164 mw_1165 mw_118 mw_1166 (by decide +kernel) ⟨by decide, by decide⟩ hl.1 rfl (Nat.le_of_ble_eq_true rfl) ⟨Nat.zero_le _, Nat.zero_le _⟩ dX8_claimsBar_27 (fun r9 v9 ar9 al9 H locs hq9 hP hS => ?_)
      obtain ⟨⟨z9, hz9, rfl⟩, hI, hq9⟩ := hq9
      have hI : XI v9 := hI
      refine s_if_eq (a := z9) (tgt := 37) hE.1 hE.2.1 (by omega) dX8_claimsBar_30 (by decide) (fun c10 => ?_) (fun c10 => ?_)
      · skip
        refine lv_bipush (v := iI (-2)) hE.1 hE.2.1 dX8_claimsBar_37 (by decide) ?_
        exact kr _ _ _ _ _ _ _ _ rfl ⟨⟨-2, by omega, rfl⟩, hI, fun i j h => (hq9 i j (fun q => h (mem_sub (by decide) q)))⟩ hP hS dX8_claimsBar_39
      · skip
        refine lv_iconst (v := iI (0)) hE.1 hE.2.1 dX8_claimsBar_33 (by decide) ?_
        refine lv_goto (tgt := 39) hE.1 hE.2.1 dX8_claimsBar_34 (by decide) ?_
        exact kr _ _ _ _ _ _ _ _ rfl ⟨⟨0, by omega, rfl⟩, hI, fun i j h => (hq9 i j (fun q => h (mem_sub (by decide) q)))⟩ hP hS dX8_claimsBar_39
  · skip
    refine lv_iload_n hE.1 hE.2.1 dX8_claimsBar_10 rfl (lv_at hl 0 rfl) ?_
    exact kr _ _ _ _ _ _ _ _ rfl ⟨⟨z1, by omega, rfl⟩, hI, fun i j h => rfl⟩ hP hS dX8_claimsBar_11

theorem dX0_setsOf_0 : decode cX0_setsOf 0 = .ok (.iload_n 0, 1) := by decide +kernel
theorem dX0_setsOf_1 : decode cX0_setsOf 1 = .ok (.ifCond .lt 15, 3) := by decide +kernel
theorem dX0_setsOf_4 : decode cX0_setsOf 4 = .ok (.iload_n 0, 1) := by decide +kernel
theorem dX0_setsOf_5 : decode cX0_setsOf 5 = .ok (.bipush 9, 2) := by decide +kernel
theorem dX0_setsOf_7 : decode cX0_setsOf 7 = .ok (.if_icmp .gt 9, 3) := by decide +kernel
theorem dX0_setsOf_10 : decode cX0_setsOf 10 = .ok (.iconst 1, 1) := by decide +kernel
theorem dX0_setsOf_11 : decode cX0_setsOf 11 = .ok (.iload_n 0, 1) := by decide +kernel
theorem dX0_setsOf_12 : decode cX0_setsOf 12 = .ok (.ishl, 1) := by decide +kernel
theorem dX0_setsOf_13 : decode cX0_setsOf 13 = .ok (.goto 4, 3) := by decide +kernel
theorem dX0_setsOf_16 : decode cX0_setsOf 16 = .ok (.iconst 1, 1) := by decide +kernel
theorem dX0_setsOf_17 : decode cX0_setsOf 17 = .ok (.ireturn, 1) := by decide +kernel
set_option maxHeartbeats 4000000 in
set_option maxRecDepth 100000 in
theorem s_X0_setsOf (l : Launch) (z_1 : Int) (hz_1 : -2147483648 ≤ z_1 ∧ z_1 ≤ 2147483647) : Met l yX0_setsOf (wM yX0_setsOf cX0_setsOf 1 (some .int)) (rmD 0) (va_Pc [.int (iI (z_1))] (fun _ => True)) (vp_Si (fun r => ∃ z : Int, (1 ≤ z ∧ z ≤ 512) ∧ r = iI z)) 0 0 (fun _ => False) := by
  refine s_metP (by decide) (Nat.le_of_ble_eq_true rfl) ?_
  intro p e s m below meth c ls args Q hE hB hl kr
  have hE : CallFix p m c cX0_setsOf 1 s args tbG "TaleCourt$Claims" := hE
  have hl : lv_has ls 1 [(0, .int (iI (z_1)))] := hl
  refine lv_iload_n hE.1 hE.2.1 dX0_setsOf_0 rfl (lv_at hl 0 rfl) ?_
  refine s_if_lt (a := z_1) (tgt := 16) hE.1 hE.2.1 (by omega) dX0_setsOf_1 (by decide) (fun c1 => ?_) (fun c1 => ?_)
  · skip
    refine lv_iconst (v := iI (1)) hE.1 hE.2.1 dX0_setsOf_16 (by decide) ?_
    exact kr _ _ _ rfl ⟨1, by omega, rfl⟩ dX0_setsOf_17
  · skip
    refine lv_iload_n hE.1 hE.2.1 dX0_setsOf_4 rfl (lv_at hl 0 rfl) ?_
    refine lv_bipush (v := iI (9)) hE.1 hE.2.1 dX0_setsOf_5 (by decide) ?_
    refine s_icmp_gt (a := z_1) (b := 9) (tgt := 16) hE.1 hE.2.1 (by omega) (by omega) dX0_setsOf_7 (by decide) (fun c2 => ?_) (fun c2 => ?_)
    · skip
      refine lv_iconst (v := iI (1)) hE.1 hE.2.1 dX0_setsOf_16 (by decide) ?_
      exact kr _ _ _ rfl ⟨1, by omega, rfl⟩ dX0_setsOf_17
    · skip
      refine lv_iconst (v := iI (1)) hE.1 hE.2.1 dX0_setsOf_10 (by decide) ?_
      refine lv_iload_n hE.1 hE.2.1 dX0_setsOf_11 rfl (lv_at hl 0 rfl) ?_
      refine lv_ishl hE.1 hE.2.1 dX0_setsOf_12 ?_
      obtain ⟨z3, hz3, ez3⟩ := iI_shl1 (a := z_1) (by omega)
      refine x_top ez3 ?_
      refine lv_goto (tgt := 17) hE.1 hE.2.1 dX0_setsOf_13 (by decide) ?_
      exact kr _ _ _ rfl ⟨z3, by omega, rfl⟩ dX0_setsOf_17

theorem dX0_untrueBehind_0 : decode cX0_untrueBehind 0 = .ok (.iconst 0, 1) := by decide +kernel
theorem dX0_untrueBehind_1 : decode cX0_untrueBehind 1 = .ok (.istore_n 3, 1) := by decide +kernel
theorem dX0_untrueBehind_2 : decode cX0_untrueBehind 2 = .ok (.iconst 0, 1) := by decide +kernel
theorem dX0_untrueBehind_3 : decode cX0_untrueBehind 3 = .ok (.istore 4, 2) := by decide +kernel
theorem dX0_untrueBehind_5 : decode cX0_untrueBehind 5 = .ok (.iload 4, 2) := by decide +kernel
theorem dX0_untrueBehind_7 : decode cX0_untrueBehind 7 = .ok (.bipush 9, 2) := by decide +kernel
theorem dX0_untrueBehind_9 : decode cX0_untrueBehind 9 = .ok (.if_icmp .ge 33, 3) := by decide +kernel
theorem dX0_untrueBehind_12 : decode cX0_untrueBehind 12 = .ok (.iload_n 2, 1) := by decide +kernel
theorem dX0_untrueBehind_13 : decode cX0_untrueBehind 13 = .ok (.iload 4, 2) := by decide +kernel
theorem dX0_untrueBehind_15 : decode cX0_untrueBehind 15 = .ok (.ishr, 1) := by decide +kernel
theorem dX0_untrueBehind_16 : decode cX0_untrueBehind 16 = .ok (.iconst 1, 1) := by decide +kernel
theorem dX0_untrueBehind_17 : decode cX0_untrueBehind 17 = .ok (.iand, 1) := by decide +kernel
theorem dX0_untrueBehind_18 : decode cX0_untrueBehind 18 = .ok (.ifCond .eq 18, 3) := by decide +kernel
theorem dX0_untrueBehind_21 : decode cX0_untrueBehind 21 = .ok (.iload_n 3, 1) := by decide +kernel
theorem dX0_untrueBehind_22 : decode cX0_untrueBehind 22 = .ok (.aload_n 0, 1) := by decide +kernel
theorem dX0_untrueBehind_23 : decode cX0_untrueBehind 23 = .ok (.getfield 9, 3) := by decide +kernel
theorem dX0_untrueBehind_26 : decode cX0_untrueBehind 26 = .ok (.iload_n 1, 1) := by decide +kernel
theorem dX0_untrueBehind_27 : decode cX0_untrueBehind 27 = .ok (.bipush 9, 2) := by decide +kernel
theorem dX0_untrueBehind_29 : decode cX0_untrueBehind 29 = .ok (.imul, 1) := by decide +kernel
theorem dX0_untrueBehind_30 : decode cX0_untrueBehind 30 = .ok (.iload 4, 2) := by decide +kernel
theorem dX0_untrueBehind_32 : decode cX0_untrueBehind 32 = .ok (.iadd, 1) := by decide +kernel
theorem dX0_untrueBehind_33 : decode cX0_untrueBehind 33 = .ok (.iaload, 1) := by decide +kernel
theorem dX0_untrueBehind_34 : decode cX0_untrueBehind 34 = .ok (.iadd, 1) := by decide +kernel
theorem dX0_untrueBehind_35 : decode cX0_untrueBehind 35 = .ok (.istore_n 3, 1) := by decide +kernel
theorem dX0_untrueBehind_36 : decode cX0_untrueBehind 36 = .ok (.iinc 4 1, 3) := by decide +kernel
theorem dX0_untrueBehind_39 : decode cX0_untrueBehind 39 = .ok (.goto (-34), 3) := by decide +kernel
theorem dX0_untrueBehind_42 : decode cX0_untrueBehind 42 = .ok (.iload_n 3, 1) := by decide +kernel
theorem dX0_untrueBehind_43 : decode cX0_untrueBehind 43 = .ok (.ireturn, 1) := by decide +kernel
set_option maxHeartbeats 4000000 in
set_option maxRecDepth 100000 in
theorem s_X0_untrueBehind_39 (l : Launch) (D : va_G) (K : Nat → ClassId) (ad : Nat → Nat) (mm : Option Nat) (N : Nat) (hNN : 132 ≤ N) (v ar : sI) (al : sL) (hI : XI v) (z_1 : Int) (hz_1 : 0 ≤ z_1 ∧ z_1 ≤ 8) (z_2 : Int) (hz_2 : -2147483648 ≤ z_2 ∧ z_2 ≤ 2147483647) : Met l yX0_untrueBehind (wM yX0_untrueBehind cX0_untrueBehind 5 (some .int)) (rmD 0) (va_Pc [.ref (ad 39), .int (iI (z_1)), .int (iI (z_2))] (wPre D K ad (xG ad K mm) N v ar al)) (vp_Si (fun r => ∃ z : Int, (-2147483648 ≤ z ∧ z ≤ 2147483647) ∧ r = iI z)) 0 0 (fun _ => False) := by
  refine s_metP (by decide) (Nat.le_of_ble_eq_true rfl) ?_
  intro p e s m below meth c ls args Q hE hB hl kr
  have hE : CallFix p m c cX0_untrueBehind 5 s args tbG "TaleCourt$Claims" := hE
  obtain ⟨hP, hK, hN⟩ := hB
  have hl : lv_has ls 5 [(0, .ref (ad 39)), (1, .int (iI (z_1))), (2, .int (iI (z_2)))] := hl
  refine lv_iconst (v := iI (0)) hE.1 hE.2.1 dX0_untrueBehind_0 (by decide) ?_
  refine lv_istore_n (lv' := [(3, .int (iI (0))), (0, .ref (ad 39)), (1, .int (iI (z_1))), (2, .int (iI (z_2)))]) hE.1 hE.2.1 dX0_untrueBehind_1 rfl hl (by decide) rfl (fun ls hl => ?_)
  refine lv_iconst (v := iI (0)) hE.1 hE.2.1 dX0_untrueBehind_2 (by decide) ?_
  refine lv_istore (lv' := [(4, .int (iI (0))), (3, .int (iI (0))), (0, .ref (ad 39)), (1, .int (iI (z_1))), (2, .int (iI (z_2)))]) hE.1 hE.2.1 dX0_untrueBehind_3 hl (by decide) rfl (fun ls hl => ?_)
  have loop1 : ∀ (k1 : Nat) (y1_4 : Int) (y1_3 : Int) (ls : Array Slot), (9 - y1_4).toNat = k1 → (0 ≤ y1_4 ∧ y1_4 ≤ 9) → (-2147483648 ≤ y1_3 ∧ y1_3 ≤ 2147483647) → lv_has ls 5 [(4, .int (iI (y1_4))), (3, .int (iI (y1_3))), (0, .ref (ad 39)), (1, .int (iI (z_1))), (2, .int (iI (z_2)))] → W p l e (rmD 0) s m args below meth c s.heap [] 0 0 Q (F0 m 5 ls []) := by
    intro k1
    induction k1 using Nat.strongRecOn with
    | _ k1 ih1 =>
      intro y1_4 y1_3 ls hk1 hb_y1_4 hb_y1_3 hl
      refine lv_iload hE.1 hE.2.1 dX0_untrueBehind_5 (lv_at hl 0 rfl) ?_
      refine lv_bipush (v := iI (9)) hE.1 hE.2.1 dX0_untrueBehind_7 (by decide) ?_
      refine s_icmp_ge (a := y1_4) (b := 9) (tgt := 42) hE.1 hE.2.1 (by omega) (by omega) dX0_untrueBehind_9 (by decide) (fun c2 => ?_) (fun c2 => ?_)
      · skip
        refine lv_iload_n hE.1 hE.2.1 dX0_untrueBehind_42 rfl (lv_at hl 1 rfl) ?_
        exact kr _ _ _ rfl ⟨y1_3, by omega, rfl⟩ dX0_untrueBehind_43
      · skip
        refine lv_iload_n hE.1 hE.2.1 dX0_untrueBehind_12 rfl (lv_at hl 4 rfl) ?_
        refine lv_iload hE.1 hE.2.1 dX0_untrueBehind_13 (lv_at hl 0 rfl) ?_
        refine lv_ishr hE.1 hE.2.1 dX0_untrueBehind_15 ?_
        obtain ⟨z3, hz3, ez3⟩ := iI_of (iI (z_2) >>> (iI (y1_4) &&& 31))
        refine x_top ez3 ?_
        refine lv_iconst (v := iI (1)) hE.1 hE.2.1 dX0_untrueBehind_16 (by decide) ?_
        refine lv_iand hE.1 hE.2.1 dX0_untrueBehind_17 ?_
        obtain ⟨z4, hz4, ez4⟩ := iI_and (iI (z3)) (iI (1)) 1 (by decide)
        refine x_top ez4 ?_
        refine s_if_eq (a := z4) (tgt := 36) hE.1 hE.2.1 (by omega) dX0_untrueBehind_18 (by decide) (fun c5 => ?_) (fun c5 => ?_)
        · skip
          refine lv_iinc (v := iI (y1_4 + 1)) (lv' := [(4, .int (iI (y1_4 + 1))), (3, .int (iI (y1_3))), (0, .ref (ad 39)), (1, .int (iI (z_1))), (2, .int (iI (z_2)))]) hE.1 hE.2.1 dX0_untrueBehind_36 hl (k := 0) rfl ((iI_add (y1_4) (1)).trans (congrArg iI (by omega))) (by decide) rfl (fun ls hl => ?_)
          refine lv_goto (tgt := 5) hE.1 hE.2.1 dX0_untrueBehind_39 (by decide) ?_
          exact ih1 _ (by omega) (y1_4 + 1) (y1_3) _ rfl (by omega) (by omega) (lv_sub hl [0, 1, 2, 3, 4] rfl)
        · skip
          refine lv_iload_n hE.1 hE.2.1 dX0_untrueBehind_21 rfl (lv_at hl 1 rfl) ?_
          refine lv_aload_n hE.1 hE.2.1 dX0_untrueBehind_22 rfl (lv_at hl 2 rfl) ?_
          refine x_get (x := .ref (ad 40)) hE hK hP 39 (Nat.lt_of_lt_of_le (by decide) hNN) (xG_0 rfl) rfl hin0 1 (by decide) mw_360 rfl dX0_untrueBehind_23 ?_
          refine lv_iload_n hE.1 hE.2.1 dX0_untrueBehind_26 rfl (lv_at hl 3 rfl) ?_
          refine lv_bipush (v := iI (9)) hE.1 hE.2.1 dX0_untrueBehind_27 (by decide) ?_
          refine lv_imul hE.1 hE.2.1 dX0_untrueBehind_29 ?_
          refine x_top (y := iI (9 * z_1)) ((iI_mul (z_1) (9)).trans (congrArg iI (by omega))) ?_
          refine lv_iload hE.1 hE.2.1 dX0_untrueBehind_30 (lv_at hl 0 rfl) ?_
          refine lv_iadd hE.1 hE.2.1 dX0_untrueBehind_32 ?_
          refine x_top (y := iI (y1_4 + 9 * z_1)) ((iI_add (9 * z_1) (y1_4)).trans (congrArg iI (by omega))) ?_
          refine x_iald (j := iI (y1_4 + 9 * z_1)) hE hK hP 40 (Nat.lt_of_lt_of_le (by decide) hNN) (xG_10 rfl) (iI_in (n := 81) (by omega)) dX0_untrueBehind_33 ?_
          obtain ⟨z7, hz7, ez7⟩ := iI_of (ar 40 (iI (y1_4 + 9 * z_1)).toNatClampNeg)
          refine x_top ez7 ?_
          refine lv_iadd hE.1 hE.2.1 dX0_untrueBehind_34 ?_
          obtain ⟨z8, hz8, ez8⟩ := iI_of (iI (y1_3) + iI (z7))
          refine x_top ez8 ?_
          refine lv_istore_n (lv' := [(3, .int (iI (z8))), (4, .int (iI (y1_4))), (0, .ref (ad 39)), (1, .int (iI (z_1))), (2, .int (iI (z_2)))]) hE.1 hE.2.1 dX0_untrueBehind_35 rfl hl (by decide) rfl (fun ls hl => ?_)
          refine lv_iinc (v := iI (y1_4 + 1)) (lv' := [(4, .int (iI (y1_4 + 1))), (3, .int (iI (z8))), (0, .ref (ad 39)), (1, .int (iI (z_1))), (2, .int (iI (z_2)))]) hE.1 hE.2.1 dX0_untrueBehind_36 hl (k := 1) rfl ((iI_add (y1_4) (1)).trans (congrArg iI (by omega))) (by decide) rfl (fun ls hl => ?_)
          refine lv_goto (tgt := 5) hE.1 hE.2.1 dX0_untrueBehind_39 (by decide) ?_
          exact ih1 _ (by omega) (y1_4 + 1) (z8) _ rfl (by omega) (by omega) (lv_sub hl [0, 1, 2, 3, 4] rfl)
  exact loop1 _ (0) (0) _ rfl (by omega) (by omega) hl

theorem dX0_reach_0 : decode cX0_reach 0 = .ok (.aload_n 0, 1) := by decide +kernel
theorem dX0_reach_1 : decode cX0_reach 1 = .ok (.getfield 21, 3) := by decide +kernel
theorem dX0_reach_4 : decode cX0_reach 4 = .ok (.iload_n 1, 1) := by decide +kernel
theorem dX0_reach_5 : decode cX0_reach 5 = .ok (.iaload, 1) := by decide +kernel
theorem dX0_reach_6 : decode cX0_reach 6 = .ok (.ifCond .lt 13, 3) := by decide +kernel
theorem dX0_reach_9 : decode cX0_reach 9 = .ok (.iload_n 2, 1) := by decide +kernel
theorem dX0_reach_10 : decode cX0_reach 10 = .ok (.aload_n 0, 1) := by decide +kernel
theorem dX0_reach_11 : decode cX0_reach 11 = .ok (.getfield 21, 3) := by decide +kernel
theorem dX0_reach_14 : decode cX0_reach 14 = .ok (.iload_n 1, 1) := by decide +kernel
theorem dX0_reach_15 : decode cX0_reach 15 = .ok (.iaload, 1) := by decide +kernel
theorem dX0_reach_16 : decode cX0_reach 16 = .ok (.if_icmp .ge 17, 3) := by decide +kernel
theorem dX0_reach_19 : decode cX0_reach 19 = .ok (.aload_n 0, 1) := by decide +kernel
theorem dX0_reach_20 : decode cX0_reach 20 = .ok (.getfield 21, 3) := by decide +kernel
theorem dX0_reach_23 : decode cX0_reach 23 = .ok (.iload_n 1, 1) := by decide +kernel
theorem dX0_reach_24 : decode cX0_reach 24 = .ok (.iload_n 2, 1) := by decide +kernel
theorem dX0_reach_25 : decode cX0_reach 25 = .ok (.iastore, 1) := by decide +kernel
theorem dX0_reach_26 : decode cX0_reach 26 = .ok (.aload_n 0, 1) := by decide +kernel
theorem dX0_reach_27 : decode cX0_reach 27 = .ok (.getfield 24, 3) := by decide +kernel
theorem dX0_reach_30 : decode cX0_reach 30 = .ok (.iload_n 1, 1) := by decide +kernel
theorem dX0_reach_31 : decode cX0_reach 31 = .ok (.iconst 0, 1) := by decide +kernel
theorem dX0_reach_32 : decode cX0_reach 32 = .ok (.iastore, 1) := by decide +kernel
theorem dX0_reach_33 : decode cX0_reach 33 = .ok (.iload_n 2, 1) := by decide +kernel
theorem dX0_reach_34 : decode cX0_reach 34 = .ok (.aload_n 0, 1) := by decide +kernel
theorem dX0_reach_35 : decode cX0_reach 35 = .ok (.getfield 21, 3) := by decide +kernel
theorem dX0_reach_38 : decode cX0_reach 38 = .ok (.iload_n 1, 1) := by decide +kernel
theorem dX0_reach_39 : decode cX0_reach 39 = .ok (.iaload, 1) := by decide +kernel
theorem dX0_reach_40 : decode cX0_reach 40 = .ok (.if_icmp .ne 13, 3) := by decide +kernel
theorem dX0_reach_43 : decode cX0_reach 43 = .ok (.aload_n 0, 1) := by decide +kernel
theorem dX0_reach_44 : decode cX0_reach 44 = .ok (.getfield 24, 3) := by decide +kernel
theorem dX0_reach_47 : decode cX0_reach 47 = .ok (.iload_n 1, 1) := by decide +kernel
theorem dX0_reach_48 : decode cX0_reach 48 = .ok (.dup2, 1) := by decide +kernel
theorem dX0_reach_49 : decode cX0_reach 49 = .ok (.iaload, 1) := by decide +kernel
theorem dX0_reach_50 : decode cX0_reach 50 = .ok (.iload_n 3, 1) := by decide +kernel
theorem dX0_reach_51 : decode cX0_reach 51 = .ok (.iadd, 1) := by decide +kernel
theorem dX0_reach_52 : decode cX0_reach 52 = .ok (.iastore, 1) := by decide +kernel
theorem dX0_reach_53 : decode cX0_reach 53 = .ok (.return_, 1) := by decide +kernel
set_option maxHeartbeats 4000000 in
set_option maxRecDepth 100000 in
theorem s_X0_reach_39 (l : Launch) (D : va_G) (K : Nat → ClassId) (ad : Nat → Nat) (mm : Option Nat) (N : Nat) (hNN : 132 ≤ N) (v ar : sI) (al : sL) (hI : XI v) (z_1 : Int) (hz_1 : 0 ≤ z_1 ∧ z_1 ≤ 511) (z_2 : Int) (hz_2 : -2147483648 ≤ z_2 ∧ z_2 ≤ 2147483647) (z_3 : Int) (hz_3 : -2147483648 ≤ z_3 ∧ z_3 ≤ 2147483647) : Met l yX0_reach (wM yX0_reach cX0_reach 4 none) (rmD 0) (va_Pc [.ref (ad 39), .int (iI (z_1)), .int (iI (z_2)), .int (iI (z_3))] (wPre D K ad (xG ad K mm) N v ar al)) (va_Qv (fun u : sT => XI u.1 ∧ (∀ i j : Nat, (i, j) ∉ ([] : List (Nat × Nat)) → u.1 i j = v i j)) (wB D ad (xG ad K mm) N) (inW ad N)) 0 0 (inW ad N) := by
  refine s_metV (by decide) (Nat.le_of_ble_eq_true rfl) ?_
  intro p e s m below meth c ls args Q hE hB hl kr
  have hE : CallFix p m c cX0_reach 4 s args tbG "TaleCourt$Claims" := hE
  obtain ⟨hP, hK, hN⟩ := hB
  have hS : va_S (inW ad N) s.heap s.heap [] := va_S.rf
  have hl : lv_has ls 4 [(0, .ref (ad 39)), (1, .int (iI (z_1))), (2, .int (iI (z_2))), (3, .int (iI (z_3)))] := hl
  refine lv_aload_n hE.1 hE.2.1 dX0_reach_0 rfl (lv_at hl 0 rfl) ?_
  refine x_get (x := .ref (ad 43)) hE hK hP 39 (Nat.lt_of_lt_of_le (by decide) hNN) (xG_0 rfl) rfl hin0 4 (by decide) mw_363 rfl dX0_reach_1 ?_
  refine lv_iload_n hE.1 hE.2.1 dX0_reach_4 rfl (lv_at hl 1 rfl) ?_
  refine x_iald (j := iI (z_1)) hE hK hP 43 (Nat.lt_of_lt_of_le (by decide) hNN) (xG_10 rfl) (iI_in (n := 512) (by omega)) dX0_reach_5 ?_
  obtain ⟨z2, hz2, ez2⟩ := iI_of (ar 43 (iI (z_1)).toNatClampNeg)
  refine x_top ez2 ?_
  refine s_if_lt (a := z2) (tgt := 19) hE.1 hE.2.1 (by omega) dX0_reach_6 (by decide) (fun c3 => ?_) (fun c3 => ?_)
  · skip
    refine lv_aload_n hE.1 hE.2.1 dX0_reach_19 rfl (lv_at hl 0 rfl) ?_
    refine x_get (x := .ref (ad 43)) hE hK hP 39 (Nat.lt_of_lt_of_le (by decide) hNN) (xG_0 rfl) rfl hin0 4 (by decide) mw_363 rfl dX0_reach_20 ?_
    refine lv_iload_n hE.1 hE.2.1 dX0_reach_23 rfl (lv_at hl 1 rfl) ?_
    refine lv_iload_n hE.1 hE.2.1 dX0_reach_24 rfl (lv_at hl 2 rfl) ?_
    refine x_iast (j := iI (z_1)) hE hK hN hP hS 43 (Nat.lt_of_lt_of_le (by decide) hNN) (fun _ => xG_10 rfl) (iI_in (n := 512) (by omega)) dX0_reach_25 (fun ar4 H locs ha4 hP hS => ?_)
    refine lv_aload_n hE.1 hE.2.1 dX0_reach_26 rfl (lv_at hl 0 rfl) ?_
    refine x_get (x := .ref (ad 44)) hE hK hP 39 (Nat.lt_of_lt_of_le (by decide) hNN) (xG_0 rfl) rfl hin0 5 (by decide) mw_364 rfl dX0_reach_27 ?_
    refine lv_iload_n hE.1 hE.2.1 dX0_reach_30 rfl (lv_at hl 1 rfl) ?_
    refine lv_iconst (v := iI (0)) hE.1 hE.2.1 dX0_reach_31 (by decide) ?_
    refine x_iast (j := iI (z_1)) hE hK hN hP hS 44 (Nat.lt_of_lt_of_le (by decide) hNN) (fun _ => xG_10 rfl) (iI_in (n := 512) (by omega)) dX0_reach_32 (fun ar5 H locs ha5 hP hS => ?_)
    refine lv_iload_n hE.1 hE.2.1 dX0_reach_33 rfl (lv_at hl 2 rfl) ?_
    refine lv_aload_n hE.1 hE.2.1 dX0_reach_34 rfl (lv_at hl 0 rfl) ?_
    refine x_get (x := .ref (ad 43)) hE hK hP 39 (Nat.lt_of_lt_of_le (by decide) hNN) (xG_0 rfl) rfl hin0 4 (by decide) mw_363 rfl dX0_reach_35 ?_
    refine lv_iload_n hE.1 hE.2.1 dX0_reach_38 rfl (lv_at hl 1 rfl) ?_
    refine x_iald (j := iI (z_1)) hE hK hP 43 (Nat.lt_of_lt_of_le (by decide) hNN) (xG_10 rfl) (iI_in (n := 512) (by omega)) dX0_reach_39 ?_
    obtain ⟨z7, hz7, ez7⟩ := iI_of (ar5 43 (iI (z_1)).toNatClampNeg)
    refine x_top ez7 ?_
    refine s_icmp_ne (a := z_2) (b := z7) (tgt := 53) hE.1 hE.2.1 (by omega) (by omega) dX0_reach_40 (by decide) (fun c8 => ?_) (fun c8 => ?_)
    · skip
      exact kr _ _ _ _ _ _ _ ⟨hI, fun i j h => rfl⟩ hP hS dX0_reach_53
    · skip
      refine lv_aload_n hE.1 hE.2.1 dX0_reach_43 rfl (lv_at hl 0 rfl) ?_
      refine x_get (x := .ref (ad 44)) hE hK hP 39 (Nat.lt_of_lt_of_le (by decide) hNN) (xG_0 rfl) rfl hin0 5 (by decide) mw_364 rfl dX0_reach_44 ?_
      refine lv_iload_n hE.1 hE.2.1 dX0_reach_47 rfl (lv_at hl 1 rfl) ?_
      refine lv_dup2_11 hE.1 hE.2.1 dX0_reach_48 rfl rfl ?_
      refine x_iald (j := iI (z_1)) hE hK hP 44 (Nat.lt_of_lt_of_le (by decide) hNN) (xG_10 rfl) (iI_in (n := 512) (by omega)) dX0_reach_49 ?_
      obtain ⟨z10, hz10, ez10⟩ := iI_of (ar5 44 (iI (z_1)).toNatClampNeg)
      refine x_top ez10 ?_
      refine lv_iload_n hE.1 hE.2.1 dX0_reach_50 rfl (lv_at hl 3 rfl) ?_
      refine lv_iadd hE.1 hE.2.1 dX0_reach_51 ?_
      obtain ⟨z11, hz11, ez11⟩ := iI_of (iI (z10) + iI (z_3))
      refine x_top ez11 ?_
      refine x_iast (j := iI (z_1)) hE hK hN hP hS 44 (Nat.lt_of_lt_of_le (by decide) hNN) (fun _ => xG_10 rfl) (iI_in (n := 512) (by omega)) dX0_reach_52 (fun ar12 H locs ha12 hP hS => ?_)
      exact kr _ _ _ _ _ _ _ ⟨hI, fun i j h => rfl⟩ hP hS dX0_reach_53
  · skip
    refine lv_iload_n hE.1 hE.2.1 dX0_reach_9 rfl (lv_at hl 2 rfl) ?_
    refine lv_aload_n hE.1 hE.2.1 dX0_reach_10 rfl (lv_at hl 0 rfl) ?_
    refine x_get (x := .ref (ad 43)) hE hK hP 39 (Nat.lt_of_lt_of_le (by decide) hNN) (xG_0 rfl) rfl hin0 4 (by decide) mw_363 rfl dX0_reach_11 ?_
    refine lv_iload_n hE.1 hE.2.1 dX0_reach_14 rfl (lv_at hl 1 rfl) ?_
    refine x_iald (j := iI (z_1)) hE hK hP 43 (Nat.lt_of_lt_of_le (by decide) hNN) (xG_10 rfl) (iI_in (n := 512) (by omega)) dX0_reach_15 ?_
    obtain ⟨z14, hz14, ez14⟩ := iI_of (ar 43 (iI (z_1)).toNatClampNeg)
    refine x_top ez14 ?_
    refine s_icmp_ge (a := z_2) (b := z14) (tgt := 33) hE.1 hE.2.1 (by omega) (by omega) dX0_reach_16 (by decide) (fun c15 => ?_) (fun c15 => ?_)
    · skip
      refine lv_iload_n hE.1 hE.2.1 dX0_reach_33 rfl (lv_at hl 2 rfl) ?_
      refine lv_aload_n hE.1 hE.2.1 dX0_reach_34 rfl (lv_at hl 0 rfl) ?_
      refine x_get (x := .ref (ad 43)) hE hK hP 39 (Nat.lt_of_lt_of_le (by decide) hNN) (xG_0 rfl) rfl hin0 4 (by decide) mw_363 rfl dX0_reach_35 ?_
      refine lv_iload_n hE.1 hE.2.1 dX0_reach_38 rfl (lv_at hl 1 rfl) ?_
      refine x_iald (j := iI (z_1)) hE hK hP 43 (Nat.lt_of_lt_of_le (by decide) hNN) (xG_10 rfl) (iI_in (n := 512) (by omega)) dX0_reach_39 ?_
      obtain ⟨z17, hz17, ez17⟩ := iI_of (ar 43 (iI (z_1)).toNatClampNeg)
      refine x_top ez17 ?_
      refine s_icmp_ne (a := z_2) (b := z17) (tgt := 53) hE.1 hE.2.1 (by omega) (by omega) dX0_reach_40 (by decide) (fun c18 => ?_) (fun c18 => ?_)
      · skip
        exact kr _ _ _ _ _ _ _ ⟨hI, fun i j h => rfl⟩ hP hS dX0_reach_53
      · skip
        refine lv_aload_n hE.1 hE.2.1 dX0_reach_43 rfl (lv_at hl 0 rfl) ?_
        refine x_get (x := .ref (ad 44)) hE hK hP 39 (Nat.lt_of_lt_of_le (by decide) hNN) (xG_0 rfl) rfl hin0 5 (by decide) mw_364 rfl dX0_reach_44 ?_
        refine lv_iload_n hE.1 hE.2.1 dX0_reach_47 rfl (lv_at hl 1 rfl) ?_
        refine lv_dup2_11 hE.1 hE.2.1 dX0_reach_48 rfl rfl ?_
        refine x_iald (j := iI (z_1)) hE hK hP 44 (Nat.lt_of_lt_of_le (by decide) hNN) (xG_10 rfl) (iI_in (n := 512) (by omega)) dX0_reach_49 ?_
        obtain ⟨z20, hz20, ez20⟩ := iI_of (ar 44 (iI (z_1)).toNatClampNeg)
        refine x_top ez20 ?_
        refine lv_iload_n hE.1 hE.2.1 dX0_reach_50 rfl (lv_at hl 3 rfl) ?_
        refine lv_iadd hE.1 hE.2.1 dX0_reach_51 ?_
        obtain ⟨z21, hz21, ez21⟩ := iI_of (iI (z20) + iI (z_3))
        refine x_top ez21 ?_
        refine x_iast (j := iI (z_1)) hE hK hN hP hS 44 (Nat.lt_of_lt_of_le (by decide) hNN) (fun _ => xG_10 rfl) (iI_in (n := 512) (by omega)) dX0_reach_52 (fun ar22 H locs ha22 hP hS => ?_)
        exact kr _ _ _ _ _ _ _ ⟨hI, fun i j h => rfl⟩ hP hS dX0_reach_53
    · skip
      refine lv_aload_n hE.1 hE.2.1 dX0_reach_19 rfl (lv_at hl 0 rfl) ?_
      refine x_get (x := .ref (ad 43)) hE hK hP 39 (Nat.lt_of_lt_of_le (by decide) hNN) (xG_0 rfl) rfl hin0 4 (by decide) mw_363 rfl dX0_reach_20 ?_
      refine lv_iload_n hE.1 hE.2.1 dX0_reach_23 rfl (lv_at hl 1 rfl) ?_
      refine lv_iload_n hE.1 hE.2.1 dX0_reach_24 rfl (lv_at hl 2 rfl) ?_
      refine x_iast (j := iI (z_1)) hE hK hN hP hS 43 (Nat.lt_of_lt_of_le (by decide) hNN) (fun _ => xG_10 rfl) (iI_in (n := 512) (by omega)) dX0_reach_25 (fun ar23 H locs ha23 hP hS => ?_)
      refine lv_aload_n hE.1 hE.2.1 dX0_reach_26 rfl (lv_at hl 0 rfl) ?_
      refine x_get (x := .ref (ad 44)) hE hK hP 39 (Nat.lt_of_lt_of_le (by decide) hNN) (xG_0 rfl) rfl hin0 5 (by decide) mw_364 rfl dX0_reach_27 ?_
      refine lv_iload_n hE.1 hE.2.1 dX0_reach_30 rfl (lv_at hl 1 rfl) ?_
      refine lv_iconst (v := iI (0)) hE.1 hE.2.1 dX0_reach_31 (by decide) ?_
      refine x_iast (j := iI (z_1)) hE hK hN hP hS 44 (Nat.lt_of_lt_of_le (by decide) hNN) (fun _ => xG_10 rfl) (iI_in (n := 512) (by omega)) dX0_reach_32 (fun ar24 H locs ha24 hP hS => ?_)
      refine lv_iload_n hE.1 hE.2.1 dX0_reach_33 rfl (lv_at hl 2 rfl) ?_
      refine lv_aload_n hE.1 hE.2.1 dX0_reach_34 rfl (lv_at hl 0 rfl) ?_
      refine x_get (x := .ref (ad 43)) hE hK hP 39 (Nat.lt_of_lt_of_le (by decide) hNN) (xG_0 rfl) rfl hin0 4 (by decide) mw_363 rfl dX0_reach_35 ?_
      refine lv_iload_n hE.1 hE.2.1 dX0_reach_38 rfl (lv_at hl 1 rfl) ?_
      refine x_iald (j := iI (z_1)) hE hK hP 43 (Nat.lt_of_lt_of_le (by decide) hNN) (xG_10 rfl) (iI_in (n := 512) (by omega)) dX0_reach_39 ?_
      obtain ⟨z26, hz26, ez26⟩ := iI_of (ar24 43 (iI (z_1)).toNatClampNeg)
      refine x_top ez26 ?_
      refine s_icmp_ne (a := z_2) (b := z26) (tgt := 53) hE.1 hE.2.1 (by omega) (by omega) dX0_reach_40 (by decide) (fun c27 => ?_) (fun c27 => ?_)
      · skip
        exact kr _ _ _ _ _ _ _ ⟨hI, fun i j h => rfl⟩ hP hS dX0_reach_53
      · skip
        refine lv_aload_n hE.1 hE.2.1 dX0_reach_43 rfl (lv_at hl 0 rfl) ?_
        refine x_get (x := .ref (ad 44)) hE hK hP 39 (Nat.lt_of_lt_of_le (by decide) hNN) (xG_0 rfl) rfl hin0 5 (by decide) mw_364 rfl dX0_reach_44 ?_
        refine lv_iload_n hE.1 hE.2.1 dX0_reach_47 rfl (lv_at hl 1 rfl) ?_
        refine lv_dup2_11 hE.1 hE.2.1 dX0_reach_48 rfl rfl ?_
        refine x_iald (j := iI (z_1)) hE hK hP 44 (Nat.lt_of_lt_of_le (by decide) hNN) (xG_10 rfl) (iI_in (n := 512) (by omega)) dX0_reach_49 ?_
        obtain ⟨z29, hz29, ez29⟩ := iI_of (ar24 44 (iI (z_1)).toNatClampNeg)
        refine x_top ez29 ?_
        refine lv_iload_n hE.1 hE.2.1 dX0_reach_50 rfl (lv_at hl 3 rfl) ?_
        refine lv_iadd hE.1 hE.2.1 dX0_reach_51 ?_
        obtain ⟨z30, hz30, ez30⟩ := iI_of (iI (z29) + iI (z_3))
        refine x_top ez30 ?_
        refine x_iast (j := iI (z_1)) hE hK hN hP hS 44 (Nat.lt_of_lt_of_le (by decide) hNN) (fun _ => xG_10 rfl) (iI_in (n := 512) (by omega)) dX0_reach_52 (fun ar31 H locs ha31 hP hS => ?_)
        exact kr _ _ _ _ _ _ _ ⟨hI, fun i j h => rfl⟩ hP hS dX0_reach_53

theorem dX0_order_0 : decode cX0_order 0 = .ok (.iload_n 1, 1) := by decide +kernel
theorem dX0_order_1 : decode cX0_order 1 = .ok (.invokestatic 71, 3) := by decide +kernel
theorem dX0_order_4 : decode cX0_order 4 = .ok (.istore_n 2, 1) := by decide +kernel
theorem dX0_order_5 : decode cX0_order 5 = .ok (.aload_n 0, 1) := by decide +kernel
theorem dX0_order_6 : decode cX0_order 6 = .ok (.getfield 21, 3) := by decide +kernel
theorem dX0_order_9 : decode cX0_order 9 = .ok (.iconst (-1), 1) := by decide +kernel
theorem dX0_order_10 : decode cX0_order 10 = .ok (.invokestatic 31, 3) := by decide +kernel
theorem dX0_order_13 : decode cX0_order 13 = .ok (.aload_n 0, 1) := by decide +kernel
theorem dX0_order_14 : decode cX0_order 14 = .ok (.getfield 24, 3) := by decide +kernel
theorem dX0_order_17 : decode cX0_order 17 = .ok (.iconst 0, 1) := by decide +kernel
theorem dX0_order_18 : decode cX0_order 18 = .ok (.invokestatic 31, 3) := by decide +kernel
theorem dX0_order_21 : decode cX0_order 21 = .ok (.aload_n 0, 1) := by decide +kernel
theorem dX0_order_22 : decode cX0_order 22 = .ok (.getfield 21, 3) := by decide +kernel
theorem dX0_order_25 : decode cX0_order 25 = .ok (.iconst 0, 1) := by decide +kernel
theorem dX0_order_26 : decode cX0_order 26 = .ok (.iconst 0, 1) := by decide +kernel
theorem dX0_order_27 : decode cX0_order 27 = .ok (.iastore, 1) := by decide +kernel
theorem dX0_order_28 : decode cX0_order 28 = .ok (.aload_n 0, 1) := by decide +kernel
theorem dX0_order_29 : decode cX0_order 29 = .ok (.getfield 24, 3) := by decide +kernel
theorem dX0_order_32 : decode cX0_order 32 = .ok (.iconst 0, 1) := by decide +kernel
theorem dX0_order_33 : decode cX0_order 33 = .ok (.iconst 1, 1) := by decide +kernel
theorem dX0_order_34 : decode cX0_order 34 = .ok (.iastore, 1) := by decide +kernel
theorem dX0_order_35 : decode cX0_order 35 = .ok (.iconst 0, 1) := by decide +kernel
theorem dX0_order_36 : decode cX0_order 36 = .ok (.istore_n 3, 1) := by decide +kernel
theorem dX0_order_37 : decode cX0_order 37 = .ok (.iload_n 3, 1) := by decide +kernel
theorem dX0_order_38 : decode cX0_order 38 = .ok (.iload_n 2, 1) := by decide +kernel
theorem dX0_order_39 : decode cX0_order 39 = .ok (.if_icmp .ge 77, 3) := by decide +kernel
theorem dX0_order_42 : decode cX0_order 42 = .ok (.iconst 0, 1) := by decide +kernel
theorem dX0_order_43 : decode cX0_order 43 = .ok (.istore 4, 2) := by decide +kernel
theorem dX0_order_45 : decode cX0_order 45 = .ok (.iload 4, 2) := by decide +kernel
theorem dX0_order_47 : decode cX0_order 47 = .ok (.iload_n 1, 1) := by decide +kernel
theorem dX0_order_48 : decode cX0_order 48 = .ok (.if_icmp .ge 62, 3) := by decide +kernel
theorem dX0_order_51 : decode cX0_order 51 = .ok (.iload 4, 2) := by decide +kernel
theorem dX0_order_53 : decode cX0_order 53 = .ok (.bipush 9, 2) := by decide +kernel
theorem dX0_order_55 : decode cX0_order 55 = .ok (.if_icmp .ge 55, 3) := by decide +kernel
theorem dX0_order_58 : decode cX0_order 58 = .ok (.iload_n 3, 1) := by decide +kernel
theorem dX0_order_59 : decode cX0_order 59 = .ok (.iconst 1, 1) := by decide +kernel
theorem dX0_order_60 : decode cX0_order 60 = .ok (.iload 4, 2) := by decide +kernel
theorem dX0_order_62 : decode cX0_order 62 = .ok (.ishl, 1) := by decide +kernel
theorem dX0_order_63 : decode cX0_order 63 = .ok (.ior, 1) := by decide +kernel
theorem dX0_order_64 : decode cX0_order 64 = .ok (.istore 5, 2) := by decide +kernel
theorem dX0_order_66 : decode cX0_order 66 = .ok (.iload 5, 2) := by decide +kernel
theorem dX0_order_68 : decode cX0_order 68 = .ok (.iload_n 3, 1) := by decide +kernel
theorem dX0_order_69 : decode cX0_order 69 = .ok (.if_icmp .eq 35, 3) := by decide +kernel
theorem dX0_order_72 : decode cX0_order 72 = .ok (.iload 5, 2) := by decide +kernel
theorem dX0_order_74 : decode cX0_order 74 = .ok (.iload_n 2, 1) := by decide +kernel
theorem dX0_order_75 : decode cX0_order 75 = .ok (.if_icmp .ge 29, 3) := by decide +kernel
theorem dX0_order_78 : decode cX0_order 78 = .ok (.aload_n 0, 1) := by decide +kernel
theorem dX0_order_79 : decode cX0_order 79 = .ok (.iload 5, 2) := by decide +kernel
theorem dX0_order_81 : decode cX0_order 81 = .ok (.aload_n 0, 1) := by decide +kernel
theorem dX0_order_82 : decode cX0_order 82 = .ok (.getfield 21, 3) := by decide +kernel
theorem dX0_order_85 : decode cX0_order 85 = .ok (.iload_n 3, 1) := by decide +kernel
theorem dX0_order_86 : decode cX0_order 86 = .ok (.iaload, 1) := by decide +kernel
theorem dX0_order_87 : decode cX0_order 87 = .ok (.aload_n 0, 1) := by decide +kernel
theorem dX0_order_88 : decode cX0_order 88 = .ok (.iload 4, 2) := by decide +kernel
theorem dX0_order_90 : decode cX0_order 90 = .ok (.iload_n 3, 1) := by decide +kernel
theorem dX0_order_91 : decode cX0_order 91 = .ok (.invokevirtual 75, 3) := by decide +kernel
theorem dX0_order_94 : decode cX0_order 94 = .ok (.iadd, 1) := by decide +kernel
theorem dX0_order_95 : decode cX0_order 95 = .ok (.aload_n 0, 1) := by decide +kernel
theorem dX0_order_96 : decode cX0_order 96 = .ok (.getfield 24, 3) := by decide +kernel
theorem dX0_order_99 : decode cX0_order 99 = .ok (.iload_n 3, 1) := by decide +kernel
theorem dX0_order_100 : decode cX0_order 100 = .ok (.iaload, 1) := by decide +kernel
theorem dX0_order_101 : decode cX0_order 101 = .ok (.invokevirtual 79, 3) := by decide +kernel
theorem dX0_order_104 : decode cX0_order 104 = .ok (.iinc 4 1, 3) := by decide +kernel
theorem dX0_order_107 : decode cX0_order 107 = .ok (.goto (-62), 3) := by decide +kernel
theorem dX0_order_110 : decode cX0_order 110 = .ok (.iinc 3 1, 3) := by decide +kernel
theorem dX0_order_113 : decode cX0_order 113 = .ok (.goto (-76), 3) := by decide +kernel
theorem dX0_order_116 : decode cX0_order 116 = .ok (.return_, 1) := by decide +kernel
set_option maxHeartbeats 4000000 in
set_option maxRecDepth 100000 in
theorem s_X0_order_39 (l : Launch) (D : va_G) (K : Nat → ClassId) (ad : Nat → Nat) (mm : Option Nat) (N : Nat) (hNN : 132 ≤ N) (v ar : sI) (al : sL) (hI : XI v) (z_1 : Int) (hz_1 : -2147483648 ≤ z_1 ∧ z_1 ≤ 2147483647) : Met l yX0_order (wM yX0_order cX0_order 6 none) (rmD 1) (va_Pc [.ref (ad 39), .int (iI (z_1))] (wPre D K ad (xG ad K mm) N v ar al)) (va_Qv (fun u : sT => XI u.1 ∧ (∀ i j : Nat, (i, j) ∉ ([] : List (Nat × Nat)) → u.1 i j = v i j)) (wB D ad (xG ad K mm) N) (inW ad N)) 0 0 (inW ad N) := by
  refine s_metV (by decide) (Nat.le_of_ble_eq_true rfl) ?_
  intro p e s m below meth c ls args Q hE hB hl kr
  have hE : CallFix p m c cX0_order 6 s args tbG "TaleCourt$Claims" := hE
  obtain ⟨hP, hK, hN⟩ := hB
  have hS : va_S (inW ad N) s.heap s.heap [] := va_S.rf
  have hl : lv_has ls 6 [(0, .ref (ad 39)), (1, .int (iI (z_1)))] := hl
  refine lv_iload_n hE.1 hE.2.1 dX0_order_0 rfl (lv_at hl 1 rfl) ?_
  refine x_sp (nn := 1) (As := [.int (iI (z_1))]) (rest := []) hE (s_X0_setsOf l (z_1) (by omega)) tt_blind (fun _ _ _ => trivial) rfl mw_1182 mw_1183 mw_118 mw_1184 (by decide +kernel) ⟨by decide, by decide⟩ hl.1 rfl (Nat.le_of_ble_eq_true rfl) ⟨Nat.zero_le _, Nat.zero_le _⟩ dX0_order_1 (fun r1 hr1 => ?_)
  obtain ⟨z1, hz1, rfl⟩ := hr1
  refine lv_istore_n (lv' := [(2, .int (iI (z1))), (0, .ref (ad 39)), (1, .int (iI (z_1)))]) hE.1 hE.2.1 dX0_order_4 rfl hl (by decide) rfl (fun ls hl => ?_)
  refine lv_aload_n hE.1 hE.2.1 dX0_order_5 rfl (lv_at hl 1 rfl) ?_
  refine x_get (x := .ref (ad 43)) hE hK hP 39 (Nat.lt_of_lt_of_le (by decide) hNN) (xG_0 rfl) rfl hin0 4 (by decide) mw_363 rfl dX0_order_6 ?_
  refine lv_iconst (v := iI (-1)) hE.1 hE.2.1 dX0_order_9 (by decide) ?_
  refine x_sv (nn := 2) (As := [.ref (ad 43), .int (iI (-1))]) (rest := []) hE hK hN hP hS (k_fillI l D K ad v ar al 43 512 (Nat.lt_of_lt_of_le (by decide) hNN) (fun _ => xG_10 rfl) (Nat.le_of_ble_eq_true rfl) (iI (-1))) rfl mw_1167 mw_536 mw_124 mw_537 (by decide +kernel) ⟨by decide, by decide⟩ hl.1 rfl (Nat.le_of_ble_eq_true rfl) ⟨Nat.zero_le _, Nat.zero_le _⟩ dX0_order_10 (fun v2 ar2 al2 H locs hq2 hP hS => ?_)
  rw [show v2 = v from hq2.1] at hP
  refine lv_aload_n hE.1 hE.2.1 dX0_order_13 rfl (lv_at hl 1 rfl) ?_
  refine x_get (x := .ref (ad 44)) hE hK hP 39 (Nat.lt_of_lt_of_le (by decide) hNN) (xG_0 rfl) rfl hin0 5 (by decide) mw_364 rfl dX0_order_14 ?_
  refine lv_iconst (v := iI (0)) hE.1 hE.2.1 dX0_order_17 (by decide) ?_
  refine x_sv (nn := 2) (As := [.ref (ad 44), .int (iI (0))]) (rest := []) hE hK hN hP hS (k_fillI l D K ad v ar2 al2 44 512 (Nat.lt_of_lt_of_le (by decide) hNN) (fun _ => xG_10 rfl) (Nat.le_of_ble_eq_true rfl) (iI (0))) rfl mw_1167 mw_536 mw_124 mw_537 (by decide +kernel) ⟨by decide, by decide⟩ hl.1 rfl (Nat.le_of_ble_eq_true rfl) ⟨Nat.zero_le _, Nat.zero_le _⟩ dX0_order_18 (fun v3 ar3 al3 H locs hq3 hP hS => ?_)
  rw [show v3 = v from hq3.1] at hP
  refine lv_aload_n hE.1 hE.2.1 dX0_order_21 rfl (lv_at hl 1 rfl) ?_
  refine x_get (x := .ref (ad 43)) hE hK hP 39 (Nat.lt_of_lt_of_le (by decide) hNN) (xG_0 rfl) rfl hin0 4 (by decide) mw_363 rfl dX0_order_22 ?_
  refine lv_iconst (v := iI (0)) hE.1 hE.2.1 dX0_order_25 (by decide) ?_
  refine lv_iconst (v := iI (0)) hE.1 hE.2.1 dX0_order_26 (by decide) ?_
  refine x_iast (j := iI (0)) hE hK hN hP hS 43 (Nat.lt_of_lt_of_le (by decide) hNN) (fun _ => xG_10 rfl) (iI_in (n := 512) (by omega)) dX0_order_27 (fun ar4 H locs ha4 hP hS => ?_)
  refine lv_aload_n hE.1 hE.2.1 dX0_order_28 rfl (lv_at hl 1 rfl) ?_
  refine x_get (x := .ref (ad 44)) hE hK hP 39 (Nat.lt_of_lt_of_le (by decide) hNN) (xG_0 rfl) rfl hin0 5 (by decide) mw_364 rfl dX0_order_29 ?_
  refine lv_iconst (v := iI (0)) hE.1 hE.2.1 dX0_order_32 (by decide) ?_
  refine lv_iconst (v := iI (1)) hE.1 hE.2.1 dX0_order_33 (by decide) ?_
  refine x_iast (j := iI (0)) hE hK hN hP hS 44 (Nat.lt_of_lt_of_le (by decide) hNN) (fun _ => xG_10 rfl) (iI_in (n := 512) (by omega)) dX0_order_34 (fun ar5 H locs ha5 hP hS => ?_)
  refine lv_iconst (v := iI (0)) hE.1 hE.2.1 dX0_order_35 (by decide) ?_
  refine lv_istore_n (lv' := [(3, .int (iI (0))), (2, .int (iI (z1))), (0, .ref (ad 39)), (1, .int (iI (z_1)))]) hE.1 hE.2.1 dX0_order_36 rfl hl (by decide) rfl (fun ls hl => ?_)
  have loop6 : ∀ (k6 : Nat) (y6_3 : Int) (vl6 arl6 : sI) (all6 : sL) (H : Heap) (locs : List Loc) (ls : Array Slot), (512 - y6_3).toNat = k6 → (0 ≤ y6_3 ∧ y6_3 ≤ 512) → XI vl6 → (∀ i j : Nat, (i, j) ∉ ([] : List (Nat × Nat)) → vl6 i j = v i j) → va_P D xcl (wW ad (xG ad K mm) N vl6 arl6 all6) H → va_S (inW ad N) s.heap H locs → lv_has ls 6 [(3, .int (iI (y6_3))), (2, .int (iI (z1))), (0, .ref (ad 39)), (1, .int (iI (z_1)))] → W p l e (rmD 1) s m args below meth c H locs 0 0 Q (F0 m 37 ls []) := by
    intro k6
    induction k6 using Nat.strongRecOn with
    | _ k6 ih6 =>
      intro y6_3 vl6 arl6 all6 H locs ls hk6 hb_y6_3 hI hfr6 hP hS hl
      refine lv_iload_n hE.1 hE.2.1 dX0_order_37 rfl (lv_at hl 0 rfl) ?_
      refine lv_iload_n hE.1 hE.2.1 dX0_order_38 rfl (lv_at hl 1 rfl) ?_
      refine s_icmp_ge (a := y6_3) (b := z1) (tgt := 116) hE.1 hE.2.1 (by omega) (by omega) dX0_order_39 (by decide) (fun c7 => ?_) (fun c7 => ?_)
      · skip
        exact kr _ _ _ _ _ _ _ ⟨hI, fun i j h => (hfr6 i j (fun q => h (mem_sub (by decide) q)))⟩ hP hS dX0_order_116
      · skip
        refine lv_iconst (v := iI (0)) hE.1 hE.2.1 dX0_order_42 (by decide) ?_
        refine lv_istore (lv' := [(4, .int (iI (0))), (3, .int (iI (y6_3))), (2, .int (iI (z1))), (0, .ref (ad 39)), (1, .int (iI (z_1)))]) hE.1 hE.2.1 dX0_order_43 hl (by decide) rfl (fun ls hl => ?_)
        have loop8 : ∀ (k8 : Nat) (y8_4 : Int) (vl8 arl8 : sI) (all8 : sL) (H : Heap) (locs : List Loc) (ls : Array Slot), (9 - y8_4).toNat = k8 → (0 ≤ y8_4 ∧ y8_4 ≤ 9) → XI vl8 → (∀ i j : Nat, (i, j) ∉ ([] : List (Nat × Nat)) → vl8 i j = vl6 i j) → va_P D xcl (wW ad (xG ad K mm) N vl8 arl8 all8) H → va_S (inW ad N) s.heap H locs → lv_has ls 6 [(4, .int (iI (y8_4))), (3, .int (iI (y6_3))), (2, .int (iI (z1))), (0, .ref (ad 39)), (1, .int (iI (z_1)))] → W p l e (rmD 1) s m args below meth c H locs 0 0 Q (F0 m 45 ls []) := by
          intro k8
          induction k8 using Nat.strongRecOn with
          | _ k8 ih8 =>
            intro y8_4 vl8 arl8 all8 H locs ls hk8 hb_y8_4 hI hfr8 hP hS hl
            refine lv_iload hE.1 hE.2.1 dX0_order_45 (lv_at hl 0 rfl) ?_
            refine lv_iload_n hE.1 hE.2.1 dX0_order_47 rfl (lv_at hl 4 rfl) ?_
            refine s_icmp_ge (a := y8_4) (b := z_1) (tgt := 110) hE.1 hE.2.1 (by omega) (by omega) dX0_order_48 (by decide) (fun c9 => ?_) (fun c9 => ?_)
            · skip
              refine lv_iinc (v := iI (y6_3 + 1)) (lv' := [(3, .int (iI (y6_3 + 1))), (4, .int (iI (y8_4))), (2, .int (iI (z1))), (0, .ref (ad 39)), (1, .int (iI (z_1)))]) hE.1 hE.2.1 dX0_order_110 hl (k := 1) rfl ((iI_add (y6_3) (1)).trans (congrArg iI (by omega))) (by decide) rfl (fun ls hl => ?_)
              refine lv_goto (tgt := 37) hE.1 hE.2.1 dX0_order_113 (by decide) ?_
              exact ih6 _ (by omega) (y6_3 + 1) vl8 arl8 all8 _ _ _ rfl (by omega) hI (fun i j h => ((hfr8 i j (fun q => h (mem_sub (by decide) q))).trans (hfr6 i j h))) hP hS (lv_sub hl [0, 2, 3, 4] rfl)
            · skip
              refine lv_iload hE.1 hE.2.1 dX0_order_51 (lv_at hl 0 rfl) ?_
              refine lv_bipush (v := iI (9)) hE.1 hE.2.1 dX0_order_53 (by decide) ?_
              refine s_icmp_ge (a := y8_4) (b := 9) (tgt := 110) hE.1 hE.2.1 (by omega) (by omega) dX0_order_55 (by decide) (fun c10 => ?_) (fun c10 => ?_)
              · skip
                refine lv_iinc (v := iI (y6_3 + 1)) (lv' := [(3, .int (iI (y6_3 + 1))), (4, .int (iI (y8_4))), (2, .int (iI (z1))), (0, .ref (ad 39)), (1, .int (iI (z_1)))]) hE.1 hE.2.1 dX0_order_110 hl (k := 1) rfl ((iI_add (y6_3) (1)).trans (congrArg iI (by omega))) (by decide) rfl (fun ls hl => ?_)
                refine lv_goto (tgt := 37) hE.1 hE.2.1 dX0_order_113 (by decide) ?_
                exact ih6 _ (by omega) (y6_3 + 1) vl8 arl8 all8 _ _ _ rfl (by omega) hI (fun i j h => ((hfr8 i j (fun q => h (mem_sub (by decide) q))).trans (hfr6 i j h))) hP hS (lv_sub hl [0, 2, 3, 4] rfl)
              · skip
                refine lv_iload_n hE.1 hE.2.1 dX0_order_58 rfl (lv_at hl 1 rfl) ?_
                refine lv_iconst (v := iI (1)) hE.1 hE.2.1 dX0_order_59 (by decide) ?_
                refine lv_iload hE.1 hE.2.1 dX0_order_60 (lv_at hl 0 rfl) ?_
                refine lv_ishl hE.1 hE.2.1 dX0_order_62 ?_
                obtain ⟨z11, hz11, ez11⟩ := iI_shl1 (a := y8_4) (by omega)
                refine x_top ez11 ?_
                refine lv_ior hE.1 hE.2.1 dX0_order_63 ?_
                obtain ⟨z12, hz12, ez12⟩ := iI_or (a := y6_3) (b := z11) (by omega) (by omega)
                refine x_top ez12 ?_
                refine lv_istore (lv' := [(5, .int (iI (z12))), (4, .int (iI (y8_4))), (3, .int (iI (y6_3))), (2, .int (iI (z1))), (0, .ref (ad 39)), (1, .int (iI (z_1)))]) hE.1 hE.2.1 dX0_order_64 hl (by decide) rfl (fun ls hl => ?_)
                refine lv_iload hE.1 hE.2.1 dX0_order_66 (lv_at hl 0 rfl) ?_
                refine lv_iload_n hE.1 hE.2.1 dX0_order_68 rfl (lv_at hl 2 rfl) ?_
                refine s_icmp_eq (a := z12) (b := y6_3) (tgt := 104) hE.1 hE.2.1 (by omega) (by omega) dX0_order_69 (by decide) (fun c13 => ?_) (fun c13 => ?_)
                · skip
                  refine lv_iinc (v := iI (y8_4 + 1)) (lv' := [(4, .int (iI (y8_4 + 1))), (5, .int (iI (z12))), (3, .int (iI (y6_3))), (2, .int (iI (z1))), (0, .ref (ad 39)), (1, .int (iI (z_1)))]) hE.1 hE.2.1 dX0_order_104 hl (k := 1) rfl ((iI_add (y8_4) (1)).trans (congrArg iI (by omega))) (by decide) rfl (fun ls hl => ?_)
                  refine lv_goto (tgt := 45) hE.1 hE.2.1 dX0_order_107 (by decide) ?_
                  exact ih8 _ (by omega) (y8_4 + 1) vl8 arl8 all8 _ _ _ rfl (by omega) hI (fun i j h => (hfr8 i j h)) hP hS (lv_sub hl [0, 2, 3, 4, 5] rfl)
                · skip
                  refine lv_iload hE.1 hE.2.1 dX0_order_72 (lv_at hl 0 rfl) ?_
                  refine lv_iload_n hE.1 hE.2.1 dX0_order_74 rfl (lv_at hl 3 rfl) ?_
                  refine s_icmp_ge (a := z12) (b := z1) (tgt := 104) hE.1 hE.2.1 (by omega) (by omega) dX0_order_75 (by decide) (fun c14 => ?_) (fun c14 => ?_)
                  · skip
                    refine lv_iinc (v := iI (y8_4 + 1)) (lv' := [(4, .int (iI (y8_4 + 1))), (5, .int (iI (z12))), (3, .int (iI (y6_3))), (2, .int (iI (z1))), (0, .ref (ad 39)), (1, .int (iI (z_1)))]) hE.1 hE.2.1 dX0_order_104 hl (k := 1) rfl ((iI_add (y8_4) (1)).trans (congrArg iI (by omega))) (by decide) rfl (fun ls hl => ?_)
                    refine lv_goto (tgt := 45) hE.1 hE.2.1 dX0_order_107 (by decide) ?_
                    exact ih8 _ (by omega) (y8_4 + 1) vl8 arl8 all8 _ _ _ rfl (by omega) hI (fun i j h => (hfr8 i j h)) hP hS (lv_sub hl [0, 2, 3, 4, 5] rfl)
                  · skip
                    refine lv_aload_n hE.1 hE.2.1 dX0_order_78 rfl (lv_at hl 4 rfl) ?_
                    refine lv_iload hE.1 hE.2.1 dX0_order_79 (lv_at hl 0 rfl) ?_
                    refine lv_aload_n hE.1 hE.2.1 dX0_order_81 rfl (lv_at hl 4 rfl) ?_
                    refine x_get (x := .ref (ad 43)) hE hK hP 39 (Nat.lt_of_lt_of_le (by decide) hNN) (xG_0 rfl) rfl hin0 4 (by decide) mw_363 rfl dX0_order_82 ?_
                    refine lv_iload_n hE.1 hE.2.1 dX0_order_85 rfl (lv_at hl 2 rfl) ?_
                    refine x_iald (j := iI (y6_3)) hE hK hP 43 (Nat.lt_of_lt_of_le (by decide) hNN) (xG_10 rfl) (iI_in (n := 512) (by omega)) dX0_order_86 ?_
                    obtain ⟨z16, hz16, ez16⟩ := iI_of (arl8 43 (iI (y6_3)).toNatClampNeg)
                    refine x_top ez16 ?_
                    refine lv_aload_n hE.1 hE.2.1 dX0_order_87 rfl (lv_at hl 4 rfl) ?_
                    refine lv_iload hE.1 hE.2.1 dX0_order_88 (lv_at hl 1 rfl) ?_
                    refine lv_iload_n hE.1 hE.2.1 dX0_order_90 rfl (lv_at hl 2 rfl) ?_
                    refine x_vp (nn := 2) (As := [.int (iI (y8_4)), .int (iI (y6_3))]) (rest := [.int (iI (z16)), .int (iI (z12)), .ref (ad 39)]) hE (s_X0_untrueBehind_39 l D K ad mm N hNN vl8 arl8 all8 hI  (y8_4) (by omega) (y6_3) (by omega)) wPre_blind (wPre_now hK hN hP) (x_recv hK hP 39 (Nat.lt_of_lt_of_le (by decide) hNN) (xG_0 rfl) rfl) rfl mw_1185 mw_1187 mw_41 mw_118 mw_1188 (by decide +kernel) ⟨by decide, by decide⟩ hl.1 rfl (Nat.le_of_ble_eq_true rfl) ⟨Nat.zero_le _, Nat.zero_le _⟩ dX0_order_91 (fun r17 hr17 => ?_)
                    obtain ⟨z17, hz17, rfl⟩ := hr17
                    refine lv_iadd hE.1 hE.2.1 dX0_order_94 ?_
                    obtain ⟨z18, hz18, ez18⟩ := iI_of (iI (z16) + iI (z17))
                    refine x_top ez18 ?_
                    refine lv_aload_n hE.1 hE.2.1 dX0_order_95 rfl (lv_at hl 4 rfl) ?_
                    refine x_get (x := .ref (ad 44)) hE hK hP 39 (Nat.lt_of_lt_of_le (by decide) hNN) (xG_0 rfl) rfl hin0 5 (by decide) mw_364 rfl dX0_order_96 ?_
                    refine lv_iload_n hE.1 hE.2.1 dX0_order_99 rfl (lv_at hl 2 rfl) ?_
                    refine x_iald (j := iI (y6_3)) hE hK hP 44 (Nat.lt_of_lt_of_le (by decide) hNN) (xG_10 rfl) (iI_in (n := 512) (by omega)) dX0_order_100 ?_
                    obtain ⟨z20, hz20, ez20⟩ := iI_of (arl8 44 (iI (y6_3)).toNatClampNeg)
                    refine x_top ez20 ?_
                    refine x_vv (nn := 3) (As := [.int (iI (z12)), .int (iI (z18)), .int (iI (z20))]) (rest := []) hE hK hN hP hS (s_X0_reach_39 l D K ad mm N hNN vl8 arl8 all8 hI  (z12) (by omega) (z18) (by omega) (z20) (by omega)) (x_recv hK hP 39 (Nat.lt_of_lt_of_le (by decide) hNN) (xG_0 rfl) rfl) rfl mw_1189 mw_1191 mw_42 mw_118 mw_1192 (by decide +kernel) ⟨by decide, by decide⟩ hl.1 rfl (Nat.le_of_ble_eq_true rfl) ⟨Nat.zero_le _, Nat.zero_le _⟩ dX0_order_101 (fun v21 ar21 al21 H locs hq21 hP hS => ?_)
                    obtain ⟨hI, hq21⟩ := hq21
                    have hI : XI v21 := hI
                    refine lv_iinc (v := iI (y8_4 + 1)) (lv' := [(4, .int (iI (y8_4 + 1))), (5, .int (iI (z12))), (3, .int (iI (y6_3))), (2, .int (iI (z1))), (0, .ref (ad 39)), (1, .int (iI (z_1)))]) hE.1 hE.2.1 dX0_order_104 hl (k := 1) rfl ((iI_add (y8_4) (1)).trans (congrArg iI (by omega))) (by decide) rfl (fun ls hl => ?_)
                    refine lv_goto (tgt := 45) hE.1 hE.2.1 dX0_order_107 (by decide) ?_
                    exact ih8 _ (by omega) (y8_4 + 1) v21 ar21 al21 _ _ _ rfl (by omega) hI (fun i j h => ((hq21 i j (fun q => h (mem_sub (by decide) q))).trans (hfr8 i j h))) hP hS (lv_sub hl [0, 2, 3, 4, 5] rfl)
        exact loop8 _ (0) vl6 arl6 all6 _ _ _ rfl (by omega) hI (fun _ _ _ => rfl) hP hS hl
  exact loop6 _ (0) v ar5 al3 _ _ _ rfl (by omega) hI (fun _ _ _ => rfl) hP hS hl

theorem dX0_fewestUntrue_0 : decode cX0_fewestUntrue 0 = .ok (.aload_n 0, 1) := by decide +kernel
theorem dX0_fewestUntrue_1 : decode cX0_fewestUntrue 1 = .ok (.getfield 21, 3) := by decide +kernel
theorem dX0_fewestUntrue_4 : decode cX0_fewestUntrue 4 = .ok (.iload_n 1, 1) := by decide +kernel
theorem dX0_fewestUntrue_5 : decode cX0_fewestUntrue 5 = .ok (.invokestatic 71, 3) := by decide +kernel
theorem dX0_fewestUntrue_8 : decode cX0_fewestUntrue 8 = .ok (.iconst 1, 1) := by decide +kernel
theorem dX0_fewestUntrue_9 : decode cX0_fewestUntrue 9 = .ok (.isub, 1) := by decide +kernel
theorem dX0_fewestUntrue_10 : decode cX0_fewestUntrue 10 = .ok (.iaload, 1) := by decide +kernel
theorem dX0_fewestUntrue_11 : decode cX0_fewestUntrue 11 = .ok (.ireturn, 1) := by decide +kernel
set_option maxHeartbeats 4000000 in
set_option maxRecDepth 100000 in
theorem s_X0_fewestUntrue_39 (l : Launch) (D : va_G) (K : Nat → ClassId) (ad : Nat → Nat) (mm : Option Nat) (N : Nat) (hNN : 132 ≤ N) (v ar : sI) (al : sL) (hI : XI v) (z_1 : Int) (hz_1 : -2147483648 ≤ z_1 ∧ z_1 ≤ 2147483647) : Met l yX0_fewestUntrue (wM yX0_fewestUntrue cX0_fewestUntrue 2 (some .int)) (rmD 1) (va_Pc [.ref (ad 39), .int (iI (z_1))] (wPre D K ad (xG ad K mm) N v ar al)) (vp_Si (fun r => ∃ z : Int, (-2147483648 ≤ z ∧ z ≤ 2147483647) ∧ r = iI z)) 0 0 (fun _ => False) := by
  refine s_metP (by decide) (Nat.le_of_ble_eq_true rfl) ?_
  intro p e s m below meth c ls args Q hE hB hl kr
  have hE : CallFix p m c cX0_fewestUntrue 2 s args tbG "TaleCourt$Claims" := hE
  obtain ⟨hP, hK, hN⟩ := hB
  have hl : lv_has ls 2 [(0, .ref (ad 39)), (1, .int (iI (z_1)))] := hl
  refine lv_aload_n hE.1 hE.2.1 dX0_fewestUntrue_0 rfl (lv_at hl 0 rfl) ?_
  refine x_get (x := .ref (ad 43)) hE hK hP 39 (Nat.lt_of_lt_of_le (by decide) hNN) (xG_0 rfl) rfl hin0 4 (by decide) mw_363 rfl dX0_fewestUntrue_1 ?_
  refine lv_iload_n hE.1 hE.2.1 dX0_fewestUntrue_4 rfl (lv_at hl 1 rfl) ?_
  refine x_sp (nn := 1) (As := [.int (iI (z_1))]) (rest := [.ref (ad 43)]) hE (s_X0_setsOf l (z_1) (by omega)) tt_blind (fun _ _ _ => trivial) rfl mw_1182 mw_1183 mw_118 mw_1184 (by decide +kernel) ⟨by decide, by decide⟩ hl.1 rfl (Nat.le_of_ble_eq_true rfl) ⟨Nat.zero_le _, Nat.zero_le _⟩ dX0_fewestUntrue_5 (fun r1 hr1 => ?_)
  obtain ⟨z1, hz1, rfl⟩ := hr1
  refine lv_iconst (v := iI (1)) hE.1 hE.2.1 dX0_fewestUntrue_8 (by decide) ?_
  refine lv_isub hE.1 hE.2.1 dX0_fewestUntrue_9 ?_
  refine x_top (y := iI (z1 - 1)) ((iI_sub (z1) (1)).trans (congrArg iI (by omega))) ?_
  refine x_iald (j := iI (z1 - 1)) hE hK hP 43 (Nat.lt_of_lt_of_le (by decide) hNN) (xG_10 rfl) (iI_in (n := 512) (by omega)) dX0_fewestUntrue_10 ?_
  obtain ⟨z3, hz3, ez3⟩ := iI_of (ar 43 (iI (z1 - 1)).toNatClampNeg)
  refine x_top ez3 ?_
  exact kr _ _ _ rfl ⟨z3, by omega, rfl⟩ dX0_fewestUntrue_11

theorem dX8_lies_0 : decode cX8_lies 0 = .ok (.aload_n 0, 1) := by decide +kernel
theorem dX8_lies_1 : decode cX8_lies 1 = .ok (.iload_n 1, 1) := by decide +kernel
theorem dX8_lies_2 : decode cX8_lies 2 = .ok (.iconst 2, 1) := by decide +kernel
theorem dX8_lies_3 : decode cX8_lies 3 = .ok (.invokevirtual 289, 3) := by decide +kernel
theorem dX8_lies_6 : decode cX8_lies 6 = .ok (.istore_n 2, 1) := by decide +kernel
theorem dX8_lies_7 : decode cX8_lies 7 = .ok (.iload_n 2, 1) := by decide +kernel
theorem dX8_lies_8 : decode cX8_lies 8 = .ok (.ifCond .eq 5, 3) := by decide +kernel
theorem dX8_lies_11 : decode cX8_lies 11 = .ok (.iload_n 2, 1) := by decide +kernel
theorem dX8_lies_12 : decode cX8_lies 12 = .ok (.ireturn, 1) := by decide +kernel
theorem dX8_lies_13 : decode cX8_lies 13 = .ok (.aload_n 0, 1) := by decide +kernel
theorem dX8_lies_14 : decode cX8_lies 14 = .ok (.getfield 41, 3) := by decide +kernel
theorem dX8_lies_17 : decode cX8_lies 17 = .ok (.aload_n 0, 1) := by decide +kernel
theorem dX8_lies_18 : decode cX8_lies 18 = .ok (.getfield 19, 3) := by decide +kernel
theorem dX8_lies_21 : decode cX8_lies 21 = .ok (.getfield 217, 3) := by decide +kernel
theorem dX8_lies_24 : decode cX8_lies 24 = .ok (.invokevirtual 292, 3) := by decide +kernel
theorem dX8_lies_27 : decode cX8_lies 27 = .ok (.aload_n 0, 1) := by decide +kernel
theorem dX8_lies_28 : decode cX8_lies 28 = .ok (.getfield 41, 3) := by decide +kernel
theorem dX8_lies_31 : decode cX8_lies 31 = .ok (.aload_n 0, 1) := by decide +kernel
theorem dX8_lies_32 : decode cX8_lies 32 = .ok (.getfield 19, 3) := by decide +kernel
theorem dX8_lies_35 : decode cX8_lies 35 = .ok (.getfield 217, 3) := by decide +kernel
theorem dX8_lies_38 : decode cX8_lies 38 = .ok (.invokevirtual 295, 3) := by decide +kernel
theorem dX8_lies_41 : decode cX8_lies 41 = .ok (.ireturn, 1) := by decide +kernel
set_option maxHeartbeats 4000000 in
set_option maxRecDepth 100000 in
theorem s_X8_lies_0 (l : Launch) (D : va_G) (K : Nat → ClassId) (ad : Nat → Nat) (mm : Option Nat) (N : Nat) (hNN : 132 ≤ N) (v ar : sI) (al : sL) (hI : XI v) (z_1 : Int) (hz_1 : -2147483648 ≤ z_1 ∧ z_1 ≤ 2147483647) : Met l yX8_lies (wM yX8_lies cX8_lies 3 (some .int)) (rmD 3) (va_Pc [.ref (ad 0), .int (iI (z_1))] (wPre D K ad (xG ad K mm) N v ar al)) (va_Qi (fun (r : Int32) (u : sT) => (∃ z : Int, (-2147483648 ≤ z ∧ z ≤ 2147483647) ∧ r = iI z) ∧ XI u.1 ∧ (∀ i j : Nat, (i, j) ∉ ([(39, 0)] : List (Nat × Nat)) → u.1 i j = v i j)) (wB D ad (xG ad K mm) N) (inW ad N)) 0 0 (inW ad N) := by
  refine s_metI (by decide) (Nat.le_of_ble_eq_true rfl) ?_
  intro p e s m below meth c ls args Q hE hB hl kr
  have hE : CallFix p m c cX8_lies 3 s args tbG "TaleCourt" := hE
  obtain ⟨hP, hK, hN⟩ := hB
  have hS : va_S (inW ad N) s.heap s.heap [] := va_S.rf
  have hl : lv_has ls 3 [(0, .ref (ad 0)), (1, .int (iI (z_1)))] := hl
  refine lv_aload_n hE.1 hE.2.1 dX8_lies_0 rfl (lv_at hl 0 rfl) ?_
  refine lv_iload_n hE.1 hE.2.1 dX8_lies_1 rfl (lv_at hl 1 rfl) ?_
  refine lv_iconst (v := iI (2)) hE.1 hE.2.1 dX8_lies_2 (by decide) ?_
  refine x_vi (nn := 2) (As := [.int (iI (z_1)), .int (iI (2))]) (rest := []) hE hK hN hP hS (s_X8_claimsBar_0 l D K ad mm N hNN v ar al hI  (z_1) (by omega) (2) (by omega)) (x_recv hK hP 0 (Nat.lt_of_lt_of_le (by decide) hNN) (xG_8 rfl) rfl) rfl mw_1159 mw_1161 mw_39 mw_114 mw_1162 (by decide +kernel) ⟨by decide, by decide⟩ hl.1 rfl (Nat.le_of_ble_eq_true rfl) ⟨Nat.zero_le _, Nat.zero_le _⟩ dX8_lies_3 (fun r1 v1 ar1 al1 H locs hq1 hP hS => ?_)
  obtain ⟨⟨z1, hz1, rfl⟩, hI, hq1⟩ := hq1
  have hI : XI v1 := hI
  refine lv_istore_n (lv' := [(2, .int (iI (z1))), (0, .ref (ad 0)), (1, .int (iI (z_1)))]) hE.1 hE.2.1 dX8_lies_6 rfl hl (by decide) rfl (fun ls hl => ?_)
  refine lv_iload_n hE.1 hE.2.1 dX8_lies_7 rfl (lv_at hl 0 rfl) ?_
  refine s_if_eq (a := z1) (tgt := 13) hE.1 hE.2.1 (by omega) dX8_lies_8 (by decide) (fun c2 => ?_) (fun c2 => ?_)
  · skip
    refine lv_aload_n hE.1 hE.2.1 dX8_lies_13 rfl (lv_at hl 1 rfl) ?_
    refine x_get (x := .ref (ad 39)) hE hK hP 0 (Nat.lt_of_lt_of_le (by decide) hNN) (xG_8 rfl) rfl hin8 5 (by decide) mw_485 rfl dX8_lies_14 ?_
    refine lv_aload_n hE.1 hE.2.1 dX8_lies_17 rfl (lv_at hl 1 rfl) ?_
    refine x_get (x := .ref (ad 3)) hE hK hP 0 (Nat.lt_of_lt_of_le (by decide) hNN) (xG_8 rfl) rfl hin8 1 (by decide) mw_481 rfl dX8_lies_18 ?_
    obtain ⟨z3, hz3, ez3⟩ := XI_get hI 3 2 0 9 (by decide)
    refine x_get (x := .int (v1 3 2)) hE hK hP 3 (Nat.lt_of_lt_of_le (by decide) hNN) (xG_1 rfl) rfl hin1 2 (by decide) mw_189 rfl dX8_lies_21 ?_
    refine x_top (y := iI (z3)) ez3 ?_
    refine x_vv (nn := 1) (As := [.int (iI (z3))]) (rest := []) hE hK hN hP hS (s_X0_order_39 l D K ad mm N hNN v1 ar1 al1 hI  (z3) (by omega)) (x_recv hK hP 39 (Nat.lt_of_lt_of_le (by decide) hNN) (xG_0 rfl) rfl) rfl mw_1178 mw_1179 mw_1180 mw_118 mw_1181 (by decide +kernel) ⟨by decide, by decide⟩ hl.1 rfl (Nat.le_of_ble_eq_true rfl) ⟨Nat.zero_le _, Nat.zero_le _⟩ dX8_lies_24 (fun v4 ar4 al4 H locs hq4 hP hS => ?_)
    obtain ⟨hI, hq4⟩ := hq4
    have hI : XI v4 := hI
    refine lv_aload_n hE.1 hE.2.1 dX8_lies_27 rfl (lv_at hl 1 rfl) ?_
    refine x_get (x := .ref (ad 39)) hE hK hP 0 (Nat.lt_of_lt_of_le (by decide) hNN) (xG_8 rfl) rfl hin8 5 (by decide) mw_485 rfl dX8_lies_28 ?_
    refine lv_aload_n hE.1 hE.2.1 dX8_lies_31 rfl (lv_at hl 1 rfl) ?_
    refine x_get (x := .ref (ad 3)) hE hK hP 0 (Nat.lt_of_lt_of_le (by decide) hNN) (xG_8 rfl) rfl hin8 1 (by decide) mw_481 rfl dX8_lies_32 ?_
    refine x_get (x := .int (v4 3 2)) hE hK hP 3 (Nat.lt_of_lt_of_le (by decide) hNN) (xG_1 rfl) rfl hin1 2 (by decide) mw_189 rfl dX8_lies_35 ?_
    refine x_top (y := iI (z3)) ((hq4 3 2 (by decide)).trans ez3) ?_
    refine x_vp (nn := 1) (As := [.int (iI (z3))]) (rest := []) hE (s_X0_fewestUntrue_39 l D K ad mm N hNN v4 ar4 al4 hI  (z3) (by omega)) wPre_blind (wPre_now hK hN hP) (x_recv hK hP 39 (Nat.lt_of_lt_of_le (by decide) hNN) (xG_0 rfl) rfl) rfl mw_1193 mw_1194 mw_1195 mw_118 mw_1196 (by decide +kernel) ⟨by decide, by decide⟩ hl.1 rfl (Nat.le_of_ble_eq_true rfl) ⟨Nat.zero_le _, Nat.zero_le _⟩ dX8_lies_38 (fun r5 hr5 => ?_)
    obtain ⟨z5, hz5, rfl⟩ := hr5
    exact kr _ _ _ _ _ _ _ _ rfl ⟨⟨z5, by omega, rfl⟩, hI, fun i j h => ((hq4 i j (fun q => h (mem_sub (by decide) q))).trans (hq1 i j (fun q => h (mem_sub (by decide) q))))⟩ hP hS dX8_lies_41
  · skip
    refine lv_iload_n hE.1 hE.2.1 dX8_lies_11 rfl (lv_at hl 0 rfl) ?_
    exact kr _ _ _ _ _ _ _ _ rfl ⟨⟨z1, by omega, rfl⟩, hI, fun i j h => (hq1 i j (fun q => h (mem_sub (by decide) q)))⟩ hP hS dX8_lies_12

theorem dX0_ordersSoFew_0 : decode cX0_ordersSoFew 0 = .ok (.aload_n 0, 1) := by decide +kernel
theorem dX0_ordersSoFew_1 : decode cX0_ordersSoFew 1 = .ok (.getfield 24, 3) := by decide +kernel
theorem dX0_ordersSoFew_4 : decode cX0_ordersSoFew 4 = .ok (.iload_n 1, 1) := by decide +kernel
theorem dX0_ordersSoFew_5 : decode cX0_ordersSoFew 5 = .ok (.invokestatic 71, 3) := by decide +kernel
theorem dX0_ordersSoFew_8 : decode cX0_ordersSoFew 8 = .ok (.iconst 1, 1) := by decide +kernel
theorem dX0_ordersSoFew_9 : decode cX0_ordersSoFew 9 = .ok (.isub, 1) := by decide +kernel
theorem dX0_ordersSoFew_10 : decode cX0_ordersSoFew 10 = .ok (.iaload, 1) := by decide +kernel
theorem dX0_ordersSoFew_11 : decode cX0_ordersSoFew 11 = .ok (.ireturn, 1) := by decide +kernel
set_option maxHeartbeats 4000000 in
set_option maxRecDepth 100000 in
theorem s_X0_ordersSoFew_39 (l : Launch) (D : va_G) (K : Nat → ClassId) (ad : Nat → Nat) (mm : Option Nat) (N : Nat) (hNN : 132 ≤ N) (v ar : sI) (al : sL) (hI : XI v) (z_1 : Int) (hz_1 : -2147483648 ≤ z_1 ∧ z_1 ≤ 2147483647) : Met l yX0_ordersSoFew (wM yX0_ordersSoFew cX0_ordersSoFew 2 (some .int)) (rmD 1) (va_Pc [.ref (ad 39), .int (iI (z_1))] (wPre D K ad (xG ad K mm) N v ar al)) (vp_Si (fun r => ∃ z : Int, (-2147483648 ≤ z ∧ z ≤ 2147483647) ∧ r = iI z)) 0 0 (fun _ => False) := by
  refine s_metP (by decide) (Nat.le_of_ble_eq_true rfl) ?_
  intro p e s m below meth c ls args Q hE hB hl kr
  have hE : CallFix p m c cX0_ordersSoFew 2 s args tbG "TaleCourt$Claims" := hE
  obtain ⟨hP, hK, hN⟩ := hB
  have hl : lv_has ls 2 [(0, .ref (ad 39)), (1, .int (iI (z_1)))] := hl
  refine lv_aload_n hE.1 hE.2.1 dX0_ordersSoFew_0 rfl (lv_at hl 0 rfl) ?_
  refine x_get (x := .ref (ad 44)) hE hK hP 39 (Nat.lt_of_lt_of_le (by decide) hNN) (xG_0 rfl) rfl hin0 5 (by decide) mw_364 rfl dX0_ordersSoFew_1 ?_
  refine lv_iload_n hE.1 hE.2.1 dX0_ordersSoFew_4 rfl (lv_at hl 1 rfl) ?_
  refine x_sp (nn := 1) (As := [.int (iI (z_1))]) (rest := [.ref (ad 44)]) hE (s_X0_setsOf l (z_1) (by omega)) tt_blind (fun _ _ _ => trivial) rfl mw_1182 mw_1183 mw_118 mw_1184 (by decide +kernel) ⟨by decide, by decide⟩ hl.1 rfl (Nat.le_of_ble_eq_true rfl) ⟨Nat.zero_le _, Nat.zero_le _⟩ dX0_ordersSoFew_5 (fun r1 hr1 => ?_)
  obtain ⟨z1, hz1, rfl⟩ := hr1
  refine lv_iconst (v := iI (1)) hE.1 hE.2.1 dX0_ordersSoFew_8 (by decide) ?_
  refine lv_isub hE.1 hE.2.1 dX0_ordersSoFew_9 ?_
  refine x_top (y := iI (z1 - 1)) ((iI_sub (z1) (1)).trans (congrArg iI (by omega))) ?_
  refine x_iald (j := iI (z1 - 1)) hE hK hP 44 (Nat.lt_of_lt_of_le (by decide) hNN) (xG_10 rfl) (iI_in (n := 512) (by omega)) dX0_ordersSoFew_10 ?_
  obtain ⟨z3, hz3, ez3⟩ := iI_of (ar 44 (iI (z1 - 1)).toNatClampNeg)
  refine x_top ez3 ?_
  exact kr _ _ _ rfl ⟨z3, by omega, rfl⟩ dX0_ordersSoFew_11

theorem dX8_orders_0 : decode cX8_orders 0 = .ok (.aload_n 0, 1) := by decide +kernel
theorem dX8_orders_1 : decode cX8_orders 1 = .ok (.iload_n 1, 1) := by decide +kernel
theorem dX8_orders_2 : decode cX8_orders 2 = .ok (.iconst 2, 1) := by decide +kernel
theorem dX8_orders_3 : decode cX8_orders 3 = .ok (.invokevirtual 289, 3) := by decide +kernel
theorem dX8_orders_6 : decode cX8_orders 6 = .ok (.istore_n 2, 1) := by decide +kernel
theorem dX8_orders_7 : decode cX8_orders 7 = .ok (.iload_n 2, 1) := by decide +kernel
theorem dX8_orders_8 : decode cX8_orders 8 = .ok (.ifCond .eq 5, 3) := by decide +kernel
theorem dX8_orders_11 : decode cX8_orders 11 = .ok (.iload_n 2, 1) := by decide +kernel
theorem dX8_orders_12 : decode cX8_orders 12 = .ok (.ireturn, 1) := by decide +kernel
theorem dX8_orders_13 : decode cX8_orders 13 = .ok (.aload_n 0, 1) := by decide +kernel
theorem dX8_orders_14 : decode cX8_orders 14 = .ok (.getfield 41, 3) := by decide +kernel
theorem dX8_orders_17 : decode cX8_orders 17 = .ok (.aload_n 0, 1) := by decide +kernel
theorem dX8_orders_18 : decode cX8_orders 18 = .ok (.getfield 19, 3) := by decide +kernel
theorem dX8_orders_21 : decode cX8_orders 21 = .ok (.getfield 217, 3) := by decide +kernel
theorem dX8_orders_24 : decode cX8_orders 24 = .ok (.invokevirtual 292, 3) := by decide +kernel
theorem dX8_orders_27 : decode cX8_orders 27 = .ok (.aload_n 0, 1) := by decide +kernel
theorem dX8_orders_28 : decode cX8_orders 28 = .ok (.getfield 41, 3) := by decide +kernel
theorem dX8_orders_31 : decode cX8_orders 31 = .ok (.aload_n 0, 1) := by decide +kernel
theorem dX8_orders_32 : decode cX8_orders 32 = .ok (.getfield 19, 3) := by decide +kernel
theorem dX8_orders_35 : decode cX8_orders 35 = .ok (.getfield 217, 3) := by decide +kernel
theorem dX8_orders_38 : decode cX8_orders 38 = .ok (.invokevirtual 298, 3) := by decide +kernel
theorem dX8_orders_41 : decode cX8_orders 41 = .ok (.ireturn, 1) := by decide +kernel
set_option maxHeartbeats 4000000 in
set_option maxRecDepth 100000 in
theorem s_X8_orders_0 (l : Launch) (D : va_G) (K : Nat → ClassId) (ad : Nat → Nat) (mm : Option Nat) (N : Nat) (hNN : 132 ≤ N) (v ar : sI) (al : sL) (hI : XI v) (z_1 : Int) (hz_1 : -2147483648 ≤ z_1 ∧ z_1 ≤ 2147483647) : Met l yX8_orders (wM yX8_orders cX8_orders 3 (some .int)) (rmD 3) (va_Pc [.ref (ad 0), .int (iI (z_1))] (wPre D K ad (xG ad K mm) N v ar al)) (va_Qi (fun (r : Int32) (u : sT) => (∃ z : Int, (-2147483648 ≤ z ∧ z ≤ 2147483647) ∧ r = iI z) ∧ XI u.1 ∧ (∀ i j : Nat, (i, j) ∉ ([(39, 0)] : List (Nat × Nat)) → u.1 i j = v i j)) (wB D ad (xG ad K mm) N) (inW ad N)) 0 0 (inW ad N) := by
  refine s_metI (by decide) (Nat.le_of_ble_eq_true rfl) ?_
  intro p e s m below meth c ls args Q hE hB hl kr
  have hE : CallFix p m c cX8_orders 3 s args tbG "TaleCourt" := hE
  obtain ⟨hP, hK, hN⟩ := hB
  have hS : va_S (inW ad N) s.heap s.heap [] := va_S.rf
  have hl : lv_has ls 3 [(0, .ref (ad 0)), (1, .int (iI (z_1)))] := hl
  refine lv_aload_n hE.1 hE.2.1 dX8_orders_0 rfl (lv_at hl 0 rfl) ?_
  refine lv_iload_n hE.1 hE.2.1 dX8_orders_1 rfl (lv_at hl 1 rfl) ?_
  refine lv_iconst (v := iI (2)) hE.1 hE.2.1 dX8_orders_2 (by decide) ?_
  refine x_vi (nn := 2) (As := [.int (iI (z_1)), .int (iI (2))]) (rest := []) hE hK hN hP hS (s_X8_claimsBar_0 l D K ad mm N hNN v ar al hI  (z_1) (by omega) (2) (by omega)) (x_recv hK hP 0 (Nat.lt_of_lt_of_le (by decide) hNN) (xG_8 rfl) rfl) rfl mw_1159 mw_1161 mw_39 mw_114 mw_1162 (by decide +kernel) ⟨by decide, by decide⟩ hl.1 rfl (Nat.le_of_ble_eq_true rfl) ⟨Nat.zero_le _, Nat.zero_le _⟩ dX8_orders_3 (fun r1 v1 ar1 al1 H locs hq1 hP hS => ?_)
  obtain ⟨⟨z1, hz1, rfl⟩, hI, hq1⟩ := hq1
  have hI : XI v1 := hI
  refine lv_istore_n (lv' := [(2, .int (iI (z1))), (0, .ref (ad 0)), (1, .int (iI (z_1)))]) hE.1 hE.2.1 dX8_orders_6 rfl hl (by decide) rfl (fun ls hl => ?_)
  refine lv_iload_n hE.1 hE.2.1 dX8_orders_7 rfl (lv_at hl 0 rfl) ?_
  refine s_if_eq (a := z1) (tgt := 13) hE.1 hE.2.1 (by omega) dX8_orders_8 (by decide) (fun c2 => ?_) (fun c2 => ?_)
  · skip
    refine lv_aload_n hE.1 hE.2.1 dX8_orders_13 rfl (lv_at hl 1 rfl) ?_
    refine x_get (x := .ref (ad 39)) hE hK hP 0 (Nat.lt_of_lt_of_le (by decide) hNN) (xG_8 rfl) rfl hin8 5 (by decide) mw_485 rfl dX8_orders_14 ?_
    refine lv_aload_n hE.1 hE.2.1 dX8_orders_17 rfl (lv_at hl 1 rfl) ?_
    refine x_get (x := .ref (ad 3)) hE hK hP 0 (Nat.lt_of_lt_of_le (by decide) hNN) (xG_8 rfl) rfl hin8 1 (by decide) mw_481 rfl dX8_orders_18 ?_
    obtain ⟨z3, hz3, ez3⟩ := XI_get hI 3 2 0 9 (by decide)
    refine x_get (x := .int (v1 3 2)) hE hK hP 3 (Nat.lt_of_lt_of_le (by decide) hNN) (xG_1 rfl) rfl hin1 2 (by decide) mw_189 rfl dX8_orders_21 ?_
    refine x_top (y := iI (z3)) ez3 ?_
    refine x_vv (nn := 1) (As := [.int (iI (z3))]) (rest := []) hE hK hN hP hS (s_X0_order_39 l D K ad mm N hNN v1 ar1 al1 hI  (z3) (by omega)) (x_recv hK hP 39 (Nat.lt_of_lt_of_le (by decide) hNN) (xG_0 rfl) rfl) rfl mw_1178 mw_1179 mw_1180 mw_118 mw_1181 (by decide +kernel) ⟨by decide, by decide⟩ hl.1 rfl (Nat.le_of_ble_eq_true rfl) ⟨Nat.zero_le _, Nat.zero_le _⟩ dX8_orders_24 (fun v4 ar4 al4 H locs hq4 hP hS => ?_)
    obtain ⟨hI, hq4⟩ := hq4
    have hI : XI v4 := hI
    refine lv_aload_n hE.1 hE.2.1 dX8_orders_27 rfl (lv_at hl 1 rfl) ?_
    refine x_get (x := .ref (ad 39)) hE hK hP 0 (Nat.lt_of_lt_of_le (by decide) hNN) (xG_8 rfl) rfl hin8 5 (by decide) mw_485 rfl dX8_orders_28 ?_
    refine lv_aload_n hE.1 hE.2.1 dX8_orders_31 rfl (lv_at hl 1 rfl) ?_
    refine x_get (x := .ref (ad 3)) hE hK hP 0 (Nat.lt_of_lt_of_le (by decide) hNN) (xG_8 rfl) rfl hin8 1 (by decide) mw_481 rfl dX8_orders_32 ?_
    refine x_get (x := .int (v4 3 2)) hE hK hP 3 (Nat.lt_of_lt_of_le (by decide) hNN) (xG_1 rfl) rfl hin1 2 (by decide) mw_189 rfl dX8_orders_35 ?_
    refine x_top (y := iI (z3)) ((hq4 3 2 (by decide)).trans ez3) ?_
    refine x_vp (nn := 1) (As := [.int (iI (z3))]) (rest := []) hE (s_X0_ordersSoFew_39 l D K ad mm N hNN v4 ar4 al4 hI  (z3) (by omega)) wPre_blind (wPre_now hK hN hP) (x_recv hK hP 39 (Nat.lt_of_lt_of_le (by decide) hNN) (xG_0 rfl) rfl) rfl mw_1201 mw_1202 mw_1203 mw_118 mw_1204 (by decide +kernel) ⟨by decide, by decide⟩ hl.1 rfl (Nat.le_of_ble_eq_true rfl) ⟨Nat.zero_le _, Nat.zero_le _⟩ dX8_orders_38 (fun r5 hr5 => ?_)
    obtain ⟨z5, hz5, rfl⟩ := hr5
    exact kr _ _ _ _ _ _ _ _ rfl ⟨⟨z5, by omega, rfl⟩, hI, fun i j h => ((hq4 i j (fun q => h (mem_sub (by decide) q))).trans (hq1 i j (fun q => h (mem_sub (by decide) q))))⟩ hP hS dX8_orders_41
  · skip
    refine lv_iload_n hE.1 hE.2.1 dX8_orders_11 rfl (lv_at hl 0 rfl) ?_
    exact kr _ _ _ _ _ _ _ _ rfl ⟨⟨z1, by omega, rfl⟩, hI, fun i j h => (hq1 i j (fun q => h (mem_sub (by decide) q)))⟩ hP hS dX8_orders_12

theorem dX0_allows_0 : decode cX0_allows 0 = .ok (.iload_n 1, 1) := by decide +kernel
theorem dX0_allows_1 : decode cX0_allows 1 = .ok (.ifCond .lt 26, 3) := by decide +kernel
theorem dX0_allows_4 : decode cX0_allows 4 = .ok (.iload_n 1, 1) := by decide +kernel
theorem dX0_allows_5 : decode cX0_allows 5 = .ok (.bipush 9, 2) := by decide +kernel
theorem dX0_allows_7 : decode cX0_allows 7 = .ok (.if_icmp .ge 20, 3) := by decide +kernel
theorem dX0_allows_10 : decode cX0_allows 10 = .ok (.aload_n 0, 1) := by decide +kernel
theorem dX0_allows_11 : decode cX0_allows 11 = .ok (.getfield 15, 3) := by decide +kernel
theorem dX0_allows_14 : decode cX0_allows 14 = .ok (.iload_n 1, 1) := by decide +kernel
theorem dX0_allows_15 : decode cX0_allows 15 = .ok (.iaload, 1) := by decide +kernel
theorem dX0_allows_16 : decode cX0_allows 16 = .ok (.iload_n 2, 1) := by decide +kernel
theorem dX0_allows_17 : decode cX0_allows 17 = .ok (.iconst (-1), 1) := by decide +kernel
theorem dX0_allows_18 : decode cX0_allows 18 = .ok (.ixor, 1) := by decide +kernel
theorem dX0_allows_19 : decode cX0_allows 19 = .ok (.iand, 1) := by decide +kernel
theorem dX0_allows_20 : decode cX0_allows 20 = .ok (.ifCond .ne 7, 3) := by decide +kernel
theorem dX0_allows_23 : decode cX0_allows 23 = .ok (.iconst 1, 1) := by decide +kernel
theorem dX0_allows_24 : decode cX0_allows 24 = .ok (.goto 4, 3) := by decide +kernel
theorem dX0_allows_27 : decode cX0_allows 27 = .ok (.iconst 0, 1) := by decide +kernel
theorem dX0_allows_28 : decode cX0_allows 28 = .ok (.ireturn, 1) := by decide +kernel
set_option maxHeartbeats 4000000 in
set_option maxRecDepth 100000 in
theorem s_X0_allows_39 (l : Launch) (D : va_G) (K : Nat → ClassId) (ad : Nat → Nat) (mm : Option Nat) (N : Nat) (hNN : 132 ≤ N) (v ar : sI) (al : sL) (hI : XI v) (z_1 : Int) (hz_1 : -2147483648 ≤ z_1 ∧ z_1 ≤ 2147483647) (z_2 : Int) (hz_2 : -2147483648 ≤ z_2 ∧ z_2 ≤ 2147483647) : Met l yX0_allows (wM yX0_allows cX0_allows 3 (some .boolean)) (rmD 0) (va_Pc [.ref (ad 39), .int (iI (z_1)), .int (iI (z_2))] (wPre D K ad (xG ad K mm) N v ar al)) (vp_Si (fun r => ∃ z : Int, (0 ≤ z ∧ z ≤ 1) ∧ r = iI z)) 0 0 (fun _ => False) := by
  refine s_metP (by decide) (Nat.le_of_ble_eq_true rfl) ?_
  intro p e s m below meth c ls args Q hE hB hl kr
  have hE : CallFix p m c cX0_allows 3 s args tbG "TaleCourt$Claims" := hE
  obtain ⟨hP, hK, hN⟩ := hB
  have hl : lv_has ls 3 [(0, .ref (ad 39)), (1, .int (iI (z_1))), (2, .int (iI (z_2)))] := hl
  refine lv_iload_n hE.1 hE.2.1 dX0_allows_0 rfl (lv_at hl 1 rfl) ?_
  refine s_if_lt (a := z_1) (tgt := 27) hE.1 hE.2.1 (by omega) dX0_allows_1 (by decide) (fun c1 => ?_) (fun c1 => ?_)
  · skip
    refine lv_iconst (v := iI (0)) hE.1 hE.2.1 dX0_allows_27 (by decide) ?_
    exact kr _ _ _ (nar01 (by omega)) ⟨0, by omega, rfl⟩ dX0_allows_28
  · skip
    refine lv_iload_n hE.1 hE.2.1 dX0_allows_4 rfl (lv_at hl 1 rfl) ?_
    refine lv_bipush (v := iI (9)) hE.1 hE.2.1 dX0_allows_5 (by decide) ?_
    refine s_icmp_ge (a := z_1) (b := 9) (tgt := 27) hE.1 hE.2.1 (by omega) (by omega) dX0_allows_7 (by decide) (fun c2 => ?_) (fun c2 => ?_)
    · skip
      refine lv_iconst (v := iI (0)) hE.1 hE.2.1 dX0_allows_27 (by decide) ?_
      exact kr _ _ _ (nar01 (by omega)) ⟨0, by omega, rfl⟩ dX0_allows_28
    · skip
      refine lv_aload_n hE.1 hE.2.1 dX0_allows_10 rfl (lv_at hl 0 rfl) ?_
      refine x_get (x := .ref (ad 41)) hE hK hP 39 (Nat.lt_of_lt_of_le (by decide) hNN) (xG_0 rfl) rfl hin0 2 (by decide) mw_361 rfl dX0_allows_11 ?_
      refine lv_iload_n hE.1 hE.2.1 dX0_allows_14 rfl (lv_at hl 1 rfl) ?_
      refine x_iald (j := iI (z_1)) hE hK hP 41 (Nat.lt_of_lt_of_le (by decide) hNN) (xG_10 rfl) (iI_in (n := 9) (by omega)) dX0_allows_15 ?_
      obtain ⟨z4, hz4, ez4⟩ := iI_of (ar 41 (iI (z_1)).toNatClampNeg)
      refine x_top ez4 ?_
      refine lv_iload_n hE.1 hE.2.1 dX0_allows_16 rfl (lv_at hl 2 rfl) ?_
      refine lv_iconst (v := iI (-1)) hE.1 hE.2.1 dX0_allows_17 (by decide) ?_
      refine lv_ixor hE.1 hE.2.1 dX0_allows_18 ?_
      obtain ⟨z5, hz5, ez5⟩ := iI_of (iI (z_2) ^^^ iI (-1))
      refine x_top ez5 ?_
      refine lv_iand hE.1 hE.2.1 dX0_allows_19 ?_
      obtain ⟨z6, hz6, ez6⟩ := iI_of (iI (z4) &&& iI (z5))
      refine x_top ez6 ?_
      refine s_if_ne (a := z6) (tgt := 27) hE.1 hE.2.1 (by omega) dX0_allows_20 (by decide) (fun c7 => ?_) (fun c7 => ?_)
      · skip
        refine lv_iconst (v := iI (0)) hE.1 hE.2.1 dX0_allows_27 (by decide) ?_
        exact kr _ _ _ (nar01 (by omega)) ⟨0, by omega, rfl⟩ dX0_allows_28
      · skip
        refine lv_iconst (v := iI (1)) hE.1 hE.2.1 dX0_allows_23 (by decide) ?_
        refine lv_goto (tgt := 28) hE.1 hE.2.1 dX0_allows_24 (by decide) ?_
        exact kr _ _ _ (nar01 (by omega)) ⟨1, by omega, rfl⟩ dX0_allows_28

theorem dX0_canBeTrueWithout_0 : decode cX0_canBeTrueWithout 0 = .ok (.iconst 0, 1) := by decide +kernel
theorem dX0_canBeTrueWithout_1 : decode cX0_canBeTrueWithout 1 = .ok (.istore_n 2, 1) := by decide +kernel
theorem dX0_canBeTrueWithout_2 : decode cX0_canBeTrueWithout 2 = .ok (.iload_n 2, 1) := by decide +kernel
theorem dX0_canBeTrueWithout_3 : decode cX0_canBeTrueWithout 3 = .ok (.bipush 9, 2) := by decide +kernel
theorem dX0_canBeTrueWithout_5 : decode cX0_canBeTrueWithout 5 = .ok (.if_icmp .ge 58, 3) := by decide +kernel
theorem dX0_canBeTrueWithout_8 : decode cX0_canBeTrueWithout 8 = .ok (.aload_n 0, 1) := by decide +kernel
theorem dX0_canBeTrueWithout_9 : decode cX0_canBeTrueWithout 9 = .ok (.getfield 15, 3) := by decide +kernel
theorem dX0_canBeTrueWithout_12 : decode cX0_canBeTrueWithout 12 = .ok (.iload_n 2, 1) := by decide +kernel
theorem dX0_canBeTrueWithout_13 : decode cX0_canBeTrueWithout 13 = .ok (.iconst 0, 1) := by decide +kernel
theorem dX0_canBeTrueWithout_14 : decode cX0_canBeTrueWithout 14 = .ok (.iastore, 1) := by decide +kernel
theorem dX0_canBeTrueWithout_15 : decode cX0_canBeTrueWithout 15 = .ok (.iconst 0, 1) := by decide +kernel
theorem dX0_canBeTrueWithout_16 : decode cX0_canBeTrueWithout 16 = .ok (.istore_n 3, 1) := by decide +kernel
theorem dX0_canBeTrueWithout_17 : decode cX0_canBeTrueWithout 17 = .ok (.iload_n 3, 1) := by decide +kernel
theorem dX0_canBeTrueWithout_18 : decode cX0_canBeTrueWithout 18 = .ok (.bipush 8, 2) := by decide +kernel
theorem dX0_canBeTrueWithout_20 : decode cX0_canBeTrueWithout 20 = .ok (.if_icmp .ge 37, 3) := by decide +kernel
theorem dX0_canBeTrueWithout_23 : decode cX0_canBeTrueWithout 23 = .ok (.iload_n 1, 1) := by decide +kernel
theorem dX0_canBeTrueWithout_24 : decode cX0_canBeTrueWithout 24 = .ok (.iload_n 3, 1) := by decide +kernel
theorem dX0_canBeTrueWithout_25 : decode cX0_canBeTrueWithout 25 = .ok (.ishr, 1) := by decide +kernel
theorem dX0_canBeTrueWithout_26 : decode cX0_canBeTrueWithout 26 = .ok (.iconst 1, 1) := by decide +kernel
theorem dX0_canBeTrueWithout_27 : decode cX0_canBeTrueWithout 27 = .ok (.iand, 1) := by decide +kernel
theorem dX0_canBeTrueWithout_28 : decode cX0_canBeTrueWithout 28 = .ok (.ifCond .ne 23, 3) := by decide +kernel
theorem dX0_canBeTrueWithout_31 : decode cX0_canBeTrueWithout 31 = .ok (.aload_n 0, 1) := by decide +kernel
theorem dX0_canBeTrueWithout_32 : decode cX0_canBeTrueWithout 32 = .ok (.getfield 15, 3) := by decide +kernel
theorem dX0_canBeTrueWithout_35 : decode cX0_canBeTrueWithout 35 = .ok (.iload_n 2, 1) := by decide +kernel
theorem dX0_canBeTrueWithout_36 : decode cX0_canBeTrueWithout 36 = .ok (.dup2, 1) := by decide +kernel
theorem dX0_canBeTrueWithout_37 : decode cX0_canBeTrueWithout 37 = .ok (.iaload, 1) := by decide +kernel
theorem dX0_canBeTrueWithout_38 : decode cX0_canBeTrueWithout 38 = .ok (.aload_n 0, 1) := by decide +kernel
theorem dX0_canBeTrueWithout_39 : decode cX0_canBeTrueWithout 39 = .ok (.getfield 18, 3) := by decide +kernel
theorem dX0_canBeTrueWithout_42 : decode cX0_canBeTrueWithout 42 = .ok (.iload_n 3, 1) := by decide +kernel
theorem dX0_canBeTrueWithout_43 : decode cX0_canBeTrueWithout 43 = .ok (.bipush 9, 2) := by decide +kernel
theorem dX0_canBeTrueWithout_45 : decode cX0_canBeTrueWithout 45 = .ok (.imul, 1) := by decide +kernel
theorem dX0_canBeTrueWithout_46 : decode cX0_canBeTrueWithout 46 = .ok (.iload_n 2, 1) := by decide +kernel
theorem dX0_canBeTrueWithout_47 : decode cX0_canBeTrueWithout 47 = .ok (.iadd, 1) := by decide +kernel
theorem dX0_canBeTrueWithout_48 : decode cX0_canBeTrueWithout 48 = .ok (.iaload, 1) := by decide +kernel
theorem dX0_canBeTrueWithout_49 : decode cX0_canBeTrueWithout 49 = .ok (.ior, 1) := by decide +kernel
theorem dX0_canBeTrueWithout_50 : decode cX0_canBeTrueWithout 50 = .ok (.iastore, 1) := by decide +kernel
theorem dX0_canBeTrueWithout_51 : decode cX0_canBeTrueWithout 51 = .ok (.iinc 3 1, 3) := by decide +kernel
theorem dX0_canBeTrueWithout_54 : decode cX0_canBeTrueWithout 54 = .ok (.goto (-37), 3) := by decide +kernel
theorem dX0_canBeTrueWithout_57 : decode cX0_canBeTrueWithout 57 = .ok (.iinc 2 1, 3) := by decide +kernel
theorem dX0_canBeTrueWithout_60 : decode cX0_canBeTrueWithout 60 = .ok (.goto (-58), 3) := by decide +kernel
theorem dX0_canBeTrueWithout_63 : decode cX0_canBeTrueWithout 63 = .ok (.iconst 0, 1) := by decide +kernel
theorem dX0_canBeTrueWithout_64 : decode cX0_canBeTrueWithout 64 = .ok (.istore_n 2, 1) := by decide +kernel
theorem dX0_canBeTrueWithout_65 : decode cX0_canBeTrueWithout 65 = .ok (.iconst 0, 1) := by decide +kernel
theorem dX0_canBeTrueWithout_66 : decode cX0_canBeTrueWithout 66 = .ok (.istore_n 3, 1) := by decide +kernel
theorem dX0_canBeTrueWithout_67 : decode cX0_canBeTrueWithout 67 = .ok (.iload_n 3, 1) := by decide +kernel
theorem dX0_canBeTrueWithout_68 : decode cX0_canBeTrueWithout 68 = .ok (.bipush 9, 2) := by decide +kernel
theorem dX0_canBeTrueWithout_70 : decode cX0_canBeTrueWithout 70 = .ok (.if_icmp .ge 42, 3) := by decide +kernel
theorem dX0_canBeTrueWithout_73 : decode cX0_canBeTrueWithout 73 = .ok (.iconst 0, 1) := by decide +kernel
theorem dX0_canBeTrueWithout_74 : decode cX0_canBeTrueWithout 74 = .ok (.istore 4, 2) := by decide +kernel
theorem dX0_canBeTrueWithout_76 : decode cX0_canBeTrueWithout 76 = .ok (.iload 4, 2) := by decide +kernel
theorem dX0_canBeTrueWithout_78 : decode cX0_canBeTrueWithout 78 = .ok (.bipush 9, 2) := by decide +kernel
theorem dX0_canBeTrueWithout_80 : decode cX0_canBeTrueWithout 80 = .ok (.if_icmp .ge 26, 3) := by decide +kernel
theorem dX0_canBeTrueWithout_83 : decode cX0_canBeTrueWithout 83 = .ok (.aload_n 0, 1) := by decide +kernel
theorem dX0_canBeTrueWithout_84 : decode cX0_canBeTrueWithout 84 = .ok (.iload 4, 2) := by decide +kernel
theorem dX0_canBeTrueWithout_86 : decode cX0_canBeTrueWithout 86 = .ok (.iload_n 2, 1) := by decide +kernel
theorem dX0_canBeTrueWithout_87 : decode cX0_canBeTrueWithout 87 = .ok (.invokevirtual 59, 3) := by decide +kernel
theorem dX0_canBeTrueWithout_90 : decode cX0_canBeTrueWithout 90 = .ok (.ifCond .eq 10, 3) := by decide +kernel
theorem dX0_canBeTrueWithout_93 : decode cX0_canBeTrueWithout 93 = .ok (.iload_n 2, 1) := by decide +kernel
theorem dX0_canBeTrueWithout_94 : decode cX0_canBeTrueWithout 94 = .ok (.iconst 1, 1) := by decide +kernel
theorem dX0_canBeTrueWithout_95 : decode cX0_canBeTrueWithout 95 = .ok (.iload 4, 2) := by decide +kernel
theorem dX0_canBeTrueWithout_97 : decode cX0_canBeTrueWithout 97 = .ok (.ishl, 1) := by decide +kernel
theorem dX0_canBeTrueWithout_98 : decode cX0_canBeTrueWithout 98 = .ok (.ior, 1) := by decide +kernel
theorem dX0_canBeTrueWithout_99 : decode cX0_canBeTrueWithout 99 = .ok (.istore_n 2, 1) := by decide +kernel
theorem dX0_canBeTrueWithout_100 : decode cX0_canBeTrueWithout 100 = .ok (.iinc 4 1, 3) := by decide +kernel
theorem dX0_canBeTrueWithout_103 : decode cX0_canBeTrueWithout 103 = .ok (.goto (-27), 3) := by decide +kernel
theorem dX0_canBeTrueWithout_106 : decode cX0_canBeTrueWithout 106 = .ok (.iinc 3 1, 3) := by decide +kernel
theorem dX0_canBeTrueWithout_109 : decode cX0_canBeTrueWithout 109 = .ok (.goto (-42), 3) := by decide +kernel
theorem dX0_canBeTrueWithout_112 : decode cX0_canBeTrueWithout 112 = .ok (.iload_n 2, 1) := by decide +kernel
theorem dX0_canBeTrueWithout_113 : decode cX0_canBeTrueWithout 113 = .ok (.sipush 511, 3) := by decide +kernel
theorem dX0_canBeTrueWithout_116 : decode cX0_canBeTrueWithout 116 = .ok (.if_icmp .ne 7, 3) := by decide +kernel
theorem dX0_canBeTrueWithout_119 : decode cX0_canBeTrueWithout 119 = .ok (.iconst 1, 1) := by decide +kernel
theorem dX0_canBeTrueWithout_120 : decode cX0_canBeTrueWithout 120 = .ok (.goto 4, 3) := by decide +kernel
theorem dX0_canBeTrueWithout_123 : decode cX0_canBeTrueWithout 123 = .ok (.iconst 0, 1) := by decide +kernel
theorem dX0_canBeTrueWithout_124 : decode cX0_canBeTrueWithout 124 = .ok (.ireturn, 1) := by decide +kernel
set_option maxHeartbeats 4000000 in
set_option maxRecDepth 100000 in
theorem s_X0_canBeTrueWithout_39 (l : Launch) (D : va_G) (K : Nat → ClassId) (ad : Nat → Nat) (mm : Option Nat) (N : Nat) (hNN : 132 ≤ N) (v ar : sI) (al : sL) (hI : XI v) (z_1 : Int) (hz_1 : -2147483648 ≤ z_1 ∧ z_1 ≤ 2147483647) : Met l yX0_canBeTrueWithout (wM yX0_canBeTrueWithout cX0_canBeTrueWithout 5 (some .boolean)) (rmD 1) (va_Pc [.ref (ad 39), .int (iI (z_1))] (wPre D K ad (xG ad K mm) N v ar al)) (va_Qi (fun (r : Int32) (u : sT) => (∃ z : Int, (0 ≤ z ∧ z ≤ 1) ∧ r = iI z) ∧ XI u.1 ∧ (∀ i j : Nat, (i, j) ∉ ([] : List (Nat × Nat)) → u.1 i j = v i j)) (wB D ad (xG ad K mm) N) (inW ad N)) 0 0 (inW ad N) := by
  refine s_metI (by decide) (Nat.le_of_ble_eq_true rfl) ?_
  intro p e s m below meth c ls args Q hE hB hl kr
  have hE : CallFix p m c cX0_canBeTrueWithout 5 s args tbG "TaleCourt$Claims" := hE
  obtain ⟨hP, hK, hN⟩ := hB
  have hS : va_S (inW ad N) s.heap s.heap [] := va_S.rf
  have hl : lv_has ls 5 [(0, .ref (ad 39)), (1, .int (iI (z_1)))] := hl
  refine lv_iconst (v := iI (0)) hE.1 hE.2.1 dX0_canBeTrueWithout_0 (by decide) ?_
  refine lv_istore_n (lv' := [(2, .int (iI (0))), (0, .ref (ad 39)), (1, .int (iI (z_1)))]) hE.1 hE.2.1 dX0_canBeTrueWithout_1 rfl hl (by decide) rfl (fun ls hl => ?_)
  have loop1 : ∀ (k1 : Nat) (y1_2 : Int) (vl1 arl1 : sI) (all1 : sL) (H : Heap) (locs : List Loc) (ls : Array Slot), (9 - y1_2).toNat = k1 → (0 ≤ y1_2 ∧ y1_2 ≤ 9) → XI vl1 → (∀ i j : Nat, (i, j) ∉ ([] : List (Nat × Nat)) → vl1 i j = v i j) → va_P D xcl (wW ad (xG ad K mm) N vl1 arl1 all1) H → va_S (inW ad N) s.heap H locs → lv_has ls 5 [(2, .int (iI (y1_2))), (0, .ref (ad 39)), (1, .int (iI (z_1)))] → W p l e (rmD 1) s m args below meth c H locs 0 0 Q (F0 m 2 ls []) := by
    intro k1
    induction k1 using Nat.strongRecOn with
    | _ k1 ih1 =>
      intro y1_2 vl1 arl1 all1 H locs ls hk1 hb_y1_2 hI hfr1 hP hS hl
      refine lv_iload_n hE.1 hE.2.1 dX0_canBeTrueWithout_2 rfl (lv_at hl 0 rfl) ?_
      refine lv_bipush (v := iI (9)) hE.1 hE.2.1 dX0_canBeTrueWithout_3 (by decide) ?_
      refine s_icmp_ge (a := y1_2) (b := 9) (tgt := 63) hE.1 hE.2.1 (by omega) (by omega) dX0_canBeTrueWithout_5 (by decide) (fun c2 => ?_) (fun c2 => ?_)
      · skip
        refine lv_iconst (v := iI (0)) hE.1 hE.2.1 dX0_canBeTrueWithout_63 (by decide) ?_
        refine lv_istore_n (lv' := [(2, .int (iI (0))), (0, .ref (ad 39)), (1, .int (iI (z_1)))]) hE.1 hE.2.1 dX0_canBeTrueWithout_64 rfl hl (by decide) rfl (fun ls hl => ?_)
        refine lv_iconst (v := iI (0)) hE.1 hE.2.1 dX0_canBeTrueWithout_65 (by decide) ?_
        refine lv_istore_n (lv' := [(3, .int (iI (0))), (2, .int (iI (0))), (0, .ref (ad 39)), (1, .int (iI (z_1)))]) hE.1 hE.2.1 dX0_canBeTrueWithout_66 rfl hl (by decide) rfl (fun ls hl => ?_)
        have loop3 : ∀ (k3 : Nat) (y3_3 : Int) (y3_2 : Int) (vl3 arl3 : sI) (all3 : sL) (H : Heap) (locs : List Loc) (ls : Array Slot), (9 - y3_3).toNat = k3 → (0 ≤ y3_3 ∧ y3_3 ≤ 9) → (-2147483648 ≤ y3_2 ∧ y3_2 ≤ 2147483647) → XI vl3 → (∀ i j : Nat, (i, j) ∉ ([] : List (Nat × Nat)) → vl3 i j = vl1 i j) → va_P D xcl (wW ad (xG ad K mm) N vl3 arl3 all3) H → va_S (inW ad N) s.heap H locs → lv_has ls 5 [(3, .int (iI (y3_3))), (2, .int (iI (y3_2))), (0, .ref (ad 39)), (1, .int (iI (z_1)))] → W p l e (rmD 1) s m args below meth c H locs 0 0 Q (F0 m 67 ls []) := by
          intro k3
          induction k3 using Nat.strongRecOn with
          | _ k3 ih3 =>
            intro y3_3 y3_2 vl3 arl3 all3 H locs ls hk3 hb_y3_3 hb_y3_2 hI hfr3 hP hS hl
            refine lv_iload_n hE.1 hE.2.1 dX0_canBeTrueWithout_67 rfl (lv_at hl 0 rfl) ?_
            refine lv_bipush (v := iI (9)) hE.1 hE.2.1 dX0_canBeTrueWithout_68 (by decide) ?_
            refine s_icmp_ge (a := y3_3) (b := 9) (tgt := 112) hE.1 hE.2.1 (by omega) (by omega) dX0_canBeTrueWithout_70 (by decide) (fun c4 => ?_) (fun c4 => ?_)
            · skip
              refine lv_iload_n hE.1 hE.2.1 dX0_canBeTrueWithout_112 rfl (lv_at hl 1 rfl) ?_
              refine lv_sipush (v := iI (511)) hE.1 hE.2.1 dX0_canBeTrueWithout_113 (by decide) ?_
              refine s_icmp_ne (a := y3_2) (b := 511) (tgt := 123) hE.1 hE.2.1 (by omega) (by omega) dX0_canBeTrueWithout_116 (by decide) (fun c5 => ?_) (fun c5 => ?_)
              · skip
                refine lv_iconst (v := iI (0)) hE.1 hE.2.1 dX0_canBeTrueWithout_123 (by decide) ?_
                exact kr _ _ _ _ _ _ _ _ (nar01 (by omega)) ⟨⟨0, by omega, rfl⟩, hI, fun i j h => ((hfr3 i j (fun q => h (mem_sub (by decide) q))).trans (hfr1 i j (fun q => h (mem_sub (by decide) q))))⟩ hP hS dX0_canBeTrueWithout_124
              · skip
                refine lv_iconst (v := iI (1)) hE.1 hE.2.1 dX0_canBeTrueWithout_119 (by decide) ?_
                refine lv_goto (tgt := 124) hE.1 hE.2.1 dX0_canBeTrueWithout_120 (by decide) ?_
                exact kr _ _ _ _ _ _ _ _ (nar01 (by omega)) ⟨⟨1, by omega, rfl⟩, hI, fun i j h => ((hfr3 i j (fun q => h (mem_sub (by decide) q))).trans (hfr1 i j (fun q => h (mem_sub (by decide) q))))⟩ hP hS dX0_canBeTrueWithout_124
            · skip
              refine lv_iconst (v := iI (0)) hE.1 hE.2.1 dX0_canBeTrueWithout_73 (by decide) ?_
              refine lv_istore (lv' := [(4, .int (iI (0))), (3, .int (iI (y3_3))), (2, .int (iI (y3_2))), (0, .ref (ad 39)), (1, .int (iI (z_1)))]) hE.1 hE.2.1 dX0_canBeTrueWithout_74 hl (by decide) rfl (fun ls hl => ?_)
              have loop6 : ∀ (k6 : Nat) (y6_4 : Int) (y6_2 : Int) (vl6 arl6 : sI) (all6 : sL) (H : Heap) (locs : List Loc) (ls : Array Slot), (9 - y6_4).toNat = k6 → (0 ≤ y6_4 ∧ y6_4 ≤ 9) → (-2147483648 ≤ y6_2 ∧ y6_2 ≤ 2147483647) → XI vl6 → (∀ i j : Nat, (i, j) ∉ ([] : List (Nat × Nat)) → vl6 i j = vl3 i j) → va_P D xcl (wW ad (xG ad K mm) N vl6 arl6 all6) H → va_S (inW ad N) s.heap H locs → lv_has ls 5 [(4, .int (iI (y6_4))), (3, .int (iI (y3_3))), (2, .int (iI (y6_2))), (0, .ref (ad 39)), (1, .int (iI (z_1)))] → W p l e (rmD 1) s m args below meth c H locs 0 0 Q (F0 m 76 ls []) := by
                intro k6
                induction k6 using Nat.strongRecOn with
                | _ k6 ih6 =>
                  intro y6_4 y6_2 vl6 arl6 all6 H locs ls hk6 hb_y6_4 hb_y6_2 hI hfr6 hP hS hl
                  refine lv_iload hE.1 hE.2.1 dX0_canBeTrueWithout_76 (lv_at hl 0 rfl) ?_
                  refine lv_bipush (v := iI (9)) hE.1 hE.2.1 dX0_canBeTrueWithout_78 (by decide) ?_
                  refine s_icmp_ge (a := y6_4) (b := 9) (tgt := 106) hE.1 hE.2.1 (by omega) (by omega) dX0_canBeTrueWithout_80 (by decide) (fun c7 => ?_) (fun c7 => ?_)
                  · skip
                    refine lv_iinc (v := iI (y3_3 + 1)) (lv' := [(3, .int (iI (y3_3 + 1))), (4, .int (iI (y6_4))), (2, .int (iI (y6_2))), (0, .ref (ad 39)), (1, .int (iI (z_1)))]) hE.1 hE.2.1 dX0_canBeTrueWithout_106 hl (k := 1) rfl ((iI_add (y3_3) (1)).trans (congrArg iI (by omega))) (by decide) rfl (fun ls hl => ?_)
                    refine lv_goto (tgt := 67) hE.1 hE.2.1 dX0_canBeTrueWithout_109 (by decide) ?_
                    exact ih3 _ (by omega) (y3_3 + 1) (y6_2) vl6 arl6 all6 _ _ _ rfl (by omega) (by omega) hI (fun i j h => ((hfr6 i j (fun q => h (mem_sub (by decide) q))).trans (hfr3 i j h))) hP hS (lv_sub hl [0, 2, 3, 4] rfl)
                  · skip
                    refine lv_aload_n hE.1 hE.2.1 dX0_canBeTrueWithout_83 rfl (lv_at hl 3 rfl) ?_
                    refine lv_iload hE.1 hE.2.1 dX0_canBeTrueWithout_84 (lv_at hl 0 rfl) ?_
                    refine lv_iload_n hE.1 hE.2.1 dX0_canBeTrueWithout_86 rfl (lv_at hl 2 rfl) ?_
                    refine x_vp (nn := 2) (As := [.int (iI (y6_4)), .int (iI (y6_2))]) (rest := []) hE (s_X0_allows_39 l D K ad mm N hNN vl6 arl6 all6 hI  (y6_4) (by omega) (y6_2) (by omega)) wPre_blind (wPre_now hK hN hP) (x_recv hK hP 39 (Nat.lt_of_lt_of_le (by decide) hNN) (xG_0 rfl) rfl) rfl mw_941 mw_943 mw_26 mw_118 mw_944 (by decide +kernel) ⟨by decide, by decide⟩ hl.1 rfl (Nat.le_of_ble_eq_true rfl) ⟨Nat.zero_le _, Nat.zero_le _⟩ dX0_canBeTrueWithout_87 (fun r8 hr8 => ?_)
                    obtain ⟨z8, hz8, rfl⟩ := hr8
                    refine s_if_eq (a := z8) (tgt := 100) hE.1 hE.2.1 (by omega) dX0_canBeTrueWithout_90 (by decide) (fun c9 => ?_) (fun c9 => ?_)
                    · skip
                      refine lv_iinc (v := iI (y6_4 + 1)) (lv' := [(4, .int (iI (y6_4 + 1))), (3, .int (iI (y3_3))), (2, .int (iI (y6_2))), (0, .ref (ad 39)), (1, .int (iI (z_1)))]) hE.1 hE.2.1 dX0_canBeTrueWithout_100 hl (k := 0) rfl ((iI_add (y6_4) (1)).trans (congrArg iI (by omega))) (by decide) rfl (fun ls hl => ?_)
                      refine lv_goto (tgt := 76) hE.1 hE.2.1 dX0_canBeTrueWithout_103 (by decide) ?_
                      exact ih6 _ (by omega) (y6_4 + 1) (y6_2) vl6 arl6 all6 _ _ _ rfl (by omega) (by omega) hI (fun i j h => (hfr6 i j h)) hP hS (lv_sub hl [0, 1, 2, 3, 4] rfl)
                    · skip
                      refine lv_iload_n hE.1 hE.2.1 dX0_canBeTrueWithout_93 rfl (lv_at hl 2 rfl) ?_
                      refine lv_iconst (v := iI (1)) hE.1 hE.2.1 dX0_canBeTrueWithout_94 (by decide) ?_
                      refine lv_iload hE.1 hE.2.1 dX0_canBeTrueWithout_95 (lv_at hl 0 rfl) ?_
                      refine lv_ishl hE.1 hE.2.1 dX0_canBeTrueWithout_97 ?_
                      obtain ⟨z10, hz10, ez10⟩ := iI_shl1 (a := y6_4) (by omega)
                      refine x_top ez10 ?_
                      refine lv_ior hE.1 hE.2.1 dX0_canBeTrueWithout_98 ?_
                      obtain ⟨z11, hz11, ez11⟩ := iI_of (iI (y6_2) ||| iI (z10))
                      refine x_top ez11 ?_
                      refine lv_istore_n (lv' := [(2, .int (iI (z11))), (4, .int (iI (y6_4))), (3, .int (iI (y3_3))), (0, .ref (ad 39)), (1, .int (iI (z_1)))]) hE.1 hE.2.1 dX0_canBeTrueWithout_99 rfl hl (by decide) rfl (fun ls hl => ?_)
                      refine lv_iinc (v := iI (y6_4 + 1)) (lv' := [(4, .int (iI (y6_4 + 1))), (2, .int (iI (z11))), (3, .int (iI (y3_3))), (0, .ref (ad 39)), (1, .int (iI (z_1)))]) hE.1 hE.2.1 dX0_canBeTrueWithout_100 hl (k := 1) rfl ((iI_add (y6_4) (1)).trans (congrArg iI (by omega))) (by decide) rfl (fun ls hl => ?_)
                      refine lv_goto (tgt := 76) hE.1 hE.2.1 dX0_canBeTrueWithout_103 (by decide) ?_
                      exact ih6 _ (by omega) (y6_4 + 1) (z11) vl6 arl6 all6 _ _ _ rfl (by omega) (by omega) hI (fun i j h => (hfr6 i j h)) hP hS (lv_sub hl [0, 2, 1, 3, 4] rfl)
              exact loop6 _ (0) (y3_2) vl3 arl3 all3 _ _ _ rfl (by omega) (by omega) hI (fun _ _ _ => rfl) hP hS hl
        exact loop3 _ (0) (0) vl1 arl1 all1 _ _ _ rfl (by omega) (by omega) hI (fun _ _ _ => rfl) hP hS hl
      · skip
        refine lv_aload_n hE.1 hE.2.1 dX0_canBeTrueWithout_8 rfl (lv_at hl 1 rfl) ?_
        refine x_get (x := .ref (ad 41)) hE hK hP 39 (Nat.lt_of_lt_of_le (by decide) hNN) (xG_0 rfl) rfl hin0 2 (by decide) mw_361 rfl dX0_canBeTrueWithout_9 ?_
        refine lv_iload_n hE.1 hE.2.1 dX0_canBeTrueWithout_12 rfl (lv_at hl 0 rfl) ?_
        refine lv_iconst (v := iI (0)) hE.1 hE.2.1 dX0_canBeTrueWithout_13 (by decide) ?_
        refine x_iast (j := iI (y1_2)) hE hK hN hP hS 41 (Nat.lt_of_lt_of_le (by decide) hNN) (fun _ => xG_10 rfl) (iI_in (n := 9) (by omega)) dX0_canBeTrueWithout_14 (fun ar12 H locs ha12 hP hS => ?_)
        refine lv_iconst (v := iI (0)) hE.1 hE.2.1 dX0_canBeTrueWithout_15 (by decide) ?_
        refine lv_istore_n (lv' := [(3, .int (iI (0))), (2, .int (iI (y1_2))), (0, .ref (ad 39)), (1, .int (iI (z_1)))]) hE.1 hE.2.1 dX0_canBeTrueWithout_16 rfl hl (by decide) rfl (fun ls hl => ?_)
        have loop13 : ∀ (k13 : Nat) (y13_3 : Int) (vl13 arl13 : sI) (all13 : sL) (H : Heap) (locs : List Loc) (ls : Array Slot), (8 - y13_3).toNat = k13 → (0 ≤ y13_3 ∧ y13_3 ≤ 8) → XI vl13 → (∀ i j : Nat, (i, j) ∉ ([] : List (Nat × Nat)) → vl13 i j = vl1 i j) → va_P D xcl (wW ad (xG ad K mm) N vl13 arl13 all13) H → va_S (inW ad N) s.heap H locs → lv_has ls 5 [(3, .int (iI (y13_3))), (2, .int (iI (y1_2))), (0, .ref (ad 39)), (1, .int (iI (z_1)))] → W p l e (rmD 1) s m args below meth c H locs 0 0 Q (F0 m 17 ls []) := by
          intro k13
          induction k13 using Nat.strongRecOn with
          | _ k13 ih13 =>
            intro y13_3 vl13 arl13 all13 H locs ls hk13 hb_y13_3 hI hfr13 hP hS hl
            refine lv_iload_n hE.1 hE.2.1 dX0_canBeTrueWithout_17 rfl (lv_at hl 0 rfl) ?_
            refine lv_bipush (v := iI (8)) hE.1 hE.2.1 dX0_canBeTrueWithout_18 (by decide) ?_
            refine s_icmp_ge (a := y13_3) (b := 8) (tgt := 57) hE.1 hE.2.1 (by omega) (by omega) dX0_canBeTrueWithout_20 (by decide) (fun c14 => ?_) (fun c14 => ?_)
            · skip
              refine lv_iinc (v := iI (y1_2 + 1)) (lv' := [(2, .int (iI (y1_2 + 1))), (3, .int (iI (y13_3))), (0, .ref (ad 39)), (1, .int (iI (z_1)))]) hE.1 hE.2.1 dX0_canBeTrueWithout_57 hl (k := 1) rfl ((iI_add (y1_2) (1)).trans (congrArg iI (by omega))) (by decide) rfl (fun ls hl => ?_)
              refine lv_goto (tgt := 2) hE.1 hE.2.1 dX0_canBeTrueWithout_60 (by decide) ?_
              exact ih1 _ (by omega) (y1_2 + 1) vl13 arl13 all13 _ _ _ rfl (by omega) hI (fun i j h => ((hfr13 i j (fun q => h (mem_sub (by decide) q))).trans (hfr1 i j h))) hP hS (lv_sub hl [0, 2, 3] rfl)
            · skip
              refine lv_iload_n hE.1 hE.2.1 dX0_canBeTrueWithout_23 rfl (lv_at hl 3 rfl) ?_
              refine lv_iload_n hE.1 hE.2.1 dX0_canBeTrueWithout_24 rfl (lv_at hl 0 rfl) ?_
              refine lv_ishr hE.1 hE.2.1 dX0_canBeTrueWithout_25 ?_
              obtain ⟨z15, hz15, ez15⟩ := iI_of (iI (z_1) >>> (iI (y13_3) &&& 31))
              refine x_top ez15 ?_
              refine lv_iconst (v := iI (1)) hE.1 hE.2.1 dX0_canBeTrueWithout_26 (by decide) ?_
              refine lv_iand hE.1 hE.2.1 dX0_canBeTrueWithout_27 ?_
              obtain ⟨z16, hz16, ez16⟩ := iI_and (iI (z15)) (iI (1)) 1 (by decide)
              refine x_top ez16 ?_
              refine s_if_ne (a := z16) (tgt := 51) hE.1 hE.2.1 (by omega) dX0_canBeTrueWithout_28 (by decide) (fun c17 => ?_) (fun c17 => ?_)
              · skip
                refine lv_iinc (v := iI (y13_3 + 1)) (lv' := [(3, .int (iI (y13_3 + 1))), (2, .int (iI (y1_2))), (0, .ref (ad 39)), (1, .int (iI (z_1)))]) hE.1 hE.2.1 dX0_canBeTrueWithout_51 hl (k := 0) rfl ((iI_add (y13_3) (1)).trans (congrArg iI (by omega))) (by decide) rfl (fun ls hl => ?_)
                refine lv_goto (tgt := 17) hE.1 hE.2.1 dX0_canBeTrueWithout_54 (by decide) ?_
                exact ih13 _ (by omega) (y13_3 + 1) vl13 arl13 all13 _ _ _ rfl (by omega) hI (fun i j h => (hfr13 i j h)) hP hS (lv_sub hl [0, 1, 2, 3] rfl)
              · skip
                refine lv_aload_n hE.1 hE.2.1 dX0_canBeTrueWithout_31 rfl (lv_at hl 2 rfl) ?_
                refine x_get (x := .ref (ad 41)) hE hK hP 39 (Nat.lt_of_lt_of_le (by decide) hNN) (xG_0 rfl) rfl hin0 2 (by decide) mw_361 rfl dX0_canBeTrueWithout_32 ?_
                refine lv_iload_n hE.1 hE.2.1 dX0_canBeTrueWithout_35 rfl (lv_at hl 1 rfl) ?_
                refine lv_dup2_11 hE.1 hE.2.1 dX0_canBeTrueWithout_36 rfl rfl ?_
                refine x_iald (j := iI (y1_2)) hE hK hP 41 (Nat.lt_of_lt_of_le (by decide) hNN) (xG_10 rfl) (iI_in (n := 9) (by omega)) dX0_canBeTrueWithout_37 ?_
                obtain ⟨z19, hz19, ez19⟩ := iI_of (arl13 41 (iI (y1_2)).toNatClampNeg)
                refine x_top ez19 ?_
                refine lv_aload_n hE.1 hE.2.1 dX0_canBeTrueWithout_38 rfl (lv_at hl 2 rfl) ?_
                refine x_get (x := .ref (ad 42)) hE hK hP 39 (Nat.lt_of_lt_of_le (by decide) hNN) (xG_0 rfl) rfl hin0 3 (by decide) mw_362 rfl dX0_canBeTrueWithout_39 ?_
                refine lv_iload_n hE.1 hE.2.1 dX0_canBeTrueWithout_42 rfl (lv_at hl 0 rfl) ?_
                refine lv_bipush (v := iI (9)) hE.1 hE.2.1 dX0_canBeTrueWithout_43 (by decide) ?_
                refine lv_imul hE.1 hE.2.1 dX0_canBeTrueWithout_45 ?_
                refine x_top (y := iI (9 * y13_3)) ((iI_mul (y13_3) (9)).trans (congrArg iI (by omega))) ?_
                refine lv_iload_n hE.1 hE.2.1 dX0_canBeTrueWithout_46 rfl (lv_at hl 1 rfl) ?_
                refine lv_iadd hE.1 hE.2.1 dX0_canBeTrueWithout_47 ?_
                refine x_top (y := iI (9 * y13_3 + y1_2)) ((iI_add (9 * y13_3) (y1_2)).trans (congrArg iI (by omega))) ?_
                refine x_iald (j := iI (9 * y13_3 + y1_2)) hE hK hP 42 (Nat.lt_of_lt_of_le (by decide) hNN) (xG_10 rfl) (iI_in (n := 72) (by omega)) dX0_canBeTrueWithout_48 ?_
                obtain ⟨z21, hz21, ez21⟩ := iI_of (arl13 42 (iI (9 * y13_3 + y1_2)).toNatClampNeg)
                refine x_top ez21 ?_
                refine lv_ior hE.1 hE.2.1 dX0_canBeTrueWithout_49 ?_
                obtain ⟨z22, hz22, ez22⟩ := iI_of (iI (z19) ||| iI (z21))
                refine x_top ez22 ?_
                refine x_iast (j := iI (y1_2)) hE hK hN hP hS 41 (Nat.lt_of_lt_of_le (by decide) hNN) (fun _ => xG_10 rfl) (iI_in (n := 9) (by omega)) dX0_canBeTrueWithout_50 (fun ar23 H locs ha23 hP hS => ?_)
                refine lv_iinc (v := iI (y13_3 + 1)) (lv' := [(3, .int (iI (y13_3 + 1))), (2, .int (iI (y1_2))), (0, .ref (ad 39)), (1, .int (iI (z_1)))]) hE.1 hE.2.1 dX0_canBeTrueWithout_51 hl (k := 0) rfl ((iI_add (y13_3) (1)).trans (congrArg iI (by omega))) (by decide) rfl (fun ls hl => ?_)
                refine lv_goto (tgt := 17) hE.1 hE.2.1 dX0_canBeTrueWithout_54 (by decide) ?_
                exact ih13 _ (by omega) (y13_3 + 1) vl13 ar23 all13 _ _ _ rfl (by omega) hI (fun i j h => (hfr13 i j h)) hP hS (lv_sub hl [0, 1, 2, 3] rfl)
        exact loop13 _ (0) vl1 ar12 all1 _ _ _ rfl (by omega) hI (fun _ _ _ => rfl) hP hS hl
  exact loop1 _ (0) v ar al _ _ _ rfl (by omega) hI (fun _ _ _ => rfl) hP hS hl

theorem dX0_fewestLiars_0 : decode cX0_fewestLiars 0 = .ok (.sipush 255, 3) := by decide +kernel
theorem dX0_fewestLiars_3 : decode cX0_fewestLiars 3 = .ok (.istore_n 2, 1) := by decide +kernel
theorem dX0_fewestLiars_4 : decode cX0_fewestLiars 4 = .ok (.iconst 0, 1) := by decide +kernel
theorem dX0_fewestLiars_5 : decode cX0_fewestLiars 5 = .ok (.istore_n 3, 1) := by decide +kernel
theorem dX0_fewestLiars_6 : decode cX0_fewestLiars 6 = .ok (.iload_n 3, 1) := by decide +kernel
theorem dX0_fewestLiars_7 : decode cX0_fewestLiars 7 = .ok (.sipush 256, 3) := by decide +kernel
theorem dX0_fewestLiars_10 : decode cX0_fewestLiars 10 = .ok (.if_icmp .ge 37, 3) := by decide +kernel
theorem dX0_fewestLiars_13 : decode cX0_fewestLiars 13 = .ok (.iload_n 3, 1) := by decide +kernel
theorem dX0_fewestLiars_14 : decode cX0_fewestLiars 14 = .ok (.iconst 1, 1) := by decide +kernel
theorem dX0_fewestLiars_15 : decode cX0_fewestLiars 15 = .ok (.iload_n 1, 1) := by decide +kernel
theorem dX0_fewestLiars_16 : decode cX0_fewestLiars 16 = .ok (.ishl, 1) := by decide +kernel
theorem dX0_fewestLiars_17 : decode cX0_fewestLiars 17 = .ok (.if_icmp .ge 30, 3) := by decide +kernel
theorem dX0_fewestLiars_20 : decode cX0_fewestLiars 20 = .ok (.iload_n 3, 1) := by decide +kernel
theorem dX0_fewestLiars_21 : decode cX0_fewestLiars 21 = .ok (.invokestatic 82, 3) := by decide +kernel
theorem dX0_fewestLiars_24 : decode cX0_fewestLiars 24 = .ok (.iload_n 2, 1) := by decide +kernel
theorem dX0_fewestLiars_25 : decode cX0_fewestLiars 25 = .ok (.invokestatic 82, 3) := by decide +kernel
theorem dX0_fewestLiars_28 : decode cX0_fewestLiars 28 = .ok (.if_icmp .ge 13, 3) := by decide +kernel
theorem dX0_fewestLiars_31 : decode cX0_fewestLiars 31 = .ok (.aload_n 0, 1) := by decide +kernel
theorem dX0_fewestLiars_32 : decode cX0_fewestLiars 32 = .ok (.iload_n 3, 1) := by decide +kernel
theorem dX0_fewestLiars_33 : decode cX0_fewestLiars 33 = .ok (.invokevirtual 87, 3) := by decide +kernel
theorem dX0_fewestLiars_36 : decode cX0_fewestLiars 36 = .ok (.ifCond .eq 5, 3) := by decide +kernel
theorem dX0_fewestLiars_39 : decode cX0_fewestLiars 39 = .ok (.iload_n 3, 1) := by decide +kernel
theorem dX0_fewestLiars_40 : decode cX0_fewestLiars 40 = .ok (.istore_n 2, 1) := by decide +kernel
theorem dX0_fewestLiars_41 : decode cX0_fewestLiars 41 = .ok (.iinc 3 1, 3) := by decide +kernel
theorem dX0_fewestLiars_44 : decode cX0_fewestLiars 44 = .ok (.goto (-38), 3) := by decide +kernel
theorem dX0_fewestLiars_47 : decode cX0_fewestLiars 47 = .ok (.iload_n 2, 1) := by decide +kernel
theorem dX0_fewestLiars_48 : decode cX0_fewestLiars 48 = .ok (.ireturn, 1) := by decide +kernel
set_option maxHeartbeats 4000000 in
set_option maxRecDepth 100000 in
theorem s_X0_fewestLiars_39 (l : Launch) (D : va_G) (K : Nat → ClassId) (ad : Nat → Nat) (mm : Option Nat) (N : Nat) (hNN : 132 ≤ N) (v ar : sI) (al : sL) (hI : XI v) (z_1 : Int) (hz_1 : -2147483648 ≤ z_1 ∧ z_1 ≤ 2147483647) : Met l yX0_fewestLiars (wM yX0_fewestLiars cX0_fewestLiars 4 (some .int)) (rmD 2) (va_Pc [.ref (ad 39), .int (iI (z_1))] (wPre D K ad (xG ad K mm) N v ar al)) (va_Qi (fun (r : Int32) (u : sT) => (∃ z : Int, (-2147483648 ≤ z ∧ z ≤ 2147483647) ∧ r = iI z) ∧ XI u.1 ∧ (∀ i j : Nat, (i, j) ∉ ([] : List (Nat × Nat)) → u.1 i j = v i j)) (wB D ad (xG ad K mm) N) (inW ad N)) 0 0 (inW ad N) := by
  refine s_metI (by decide) (Nat.le_of_ble_eq_true rfl) ?_
  intro p e s m below meth c ls args Q hE hB hl kr
  have hE : CallFix p m c cX0_fewestLiars 4 s args tbG "TaleCourt$Claims" := hE
  obtain ⟨hP, hK, hN⟩ := hB
  have hS : va_S (inW ad N) s.heap s.heap [] := va_S.rf
  have hl : lv_has ls 4 [(0, .ref (ad 39)), (1, .int (iI (z_1)))] := hl
  refine lv_sipush (v := iI (255)) hE.1 hE.2.1 dX0_fewestLiars_0 (by decide) ?_
  refine lv_istore_n (lv' := [(2, .int (iI (255))), (0, .ref (ad 39)), (1, .int (iI (z_1)))]) hE.1 hE.2.1 dX0_fewestLiars_3 rfl hl (by decide) rfl (fun ls hl => ?_)
  refine lv_iconst (v := iI (0)) hE.1 hE.2.1 dX0_fewestLiars_4 (by decide) ?_
  refine lv_istore_n (lv' := [(3, .int (iI (0))), (2, .int (iI (255))), (0, .ref (ad 39)), (1, .int (iI (z_1)))]) hE.1 hE.2.1 dX0_fewestLiars_5 rfl hl (by decide) rfl (fun ls hl => ?_)
  have loop1 : ∀ (k1 : Nat) (y1_3 : Int) (y1_2 : Int) (vl1 arl1 : sI) (all1 : sL) (H : Heap) (locs : List Loc) (ls : Array Slot), (256 - y1_3).toNat = k1 → (0 ≤ y1_3 ∧ y1_3 ≤ 256) → (-2147483648 ≤ y1_2 ∧ y1_2 ≤ 2147483647) → XI vl1 → (∀ i j : Nat, (i, j) ∉ ([] : List (Nat × Nat)) → vl1 i j = v i j) → va_P D xcl (wW ad (xG ad K mm) N vl1 arl1 all1) H → va_S (inW ad N) s.heap H locs → lv_has ls 4 [(3, .int (iI (y1_3))), (2, .int (iI (y1_2))), (0, .ref (ad 39)), (1, .int (iI (z_1)))] → W p l e (rmD 2) s m args below meth c H locs 0 0 Q (F0 m 6 ls []) := by
    intro k1
    induction k1 using Nat.strongRecOn with
    | _ k1 ih1 =>
      intro y1_3 y1_2 vl1 arl1 all1 H locs ls hk1 hb_y1_3 hb_y1_2 hI hfr1 hP hS hl
      refine lv_iload_n hE.1 hE.2.1 dX0_fewestLiars_6 rfl (lv_at hl 0 rfl) ?_
      refine lv_sipush (v := iI (256)) hE.1 hE.2.1 dX0_fewestLiars_7 (by decide) ?_
      refine s_icmp_ge (a := y1_3) (b := 256) (tgt := 47) hE.1 hE.2.1 (by omega) (by omega) dX0_fewestLiars_10 (by decide) (fun c2 => ?_) (fun c2 => ?_)
      · skip
        refine lv_iload_n hE.1 hE.2.1 dX0_fewestLiars_47 rfl (lv_at hl 1 rfl) ?_
        exact kr _ _ _ _ _ _ _ _ rfl ⟨⟨y1_2, by omega, rfl⟩, hI, fun i j h => (hfr1 i j (fun q => h (mem_sub (by decide) q)))⟩ hP hS dX0_fewestLiars_48
      · skip
        refine lv_iload_n hE.1 hE.2.1 dX0_fewestLiars_13 rfl (lv_at hl 0 rfl) ?_
        refine lv_iconst (v := iI (1)) hE.1 hE.2.1 dX0_fewestLiars_14 (by decide) ?_
        refine lv_iload_n hE.1 hE.2.1 dX0_fewestLiars_15 rfl (lv_at hl 3 rfl) ?_
        refine lv_ishl hE.1 hE.2.1 dX0_fewestLiars_16 ?_
        obtain ⟨z3, hz3, ez3⟩ := iI_of (iI (1) <<< (iI (z_1) &&& 31))
        refine x_top ez3 ?_
        refine s_icmp_ge (a := y1_3) (b := z3) (tgt := 47) hE.1 hE.2.1 (by omega) (by omega) dX0_fewestLiars_17 (by decide) (fun c4 => ?_) (fun c4 => ?_)
        · skip
          refine lv_iload_n hE.1 hE.2.1 dX0_fewestLiars_47 rfl (lv_at hl 1 rfl) ?_
          exact kr _ _ _ _ _ _ _ _ rfl ⟨⟨y1_2, by omega, rfl⟩, hI, fun i j h => (hfr1 i j (fun q => h (mem_sub (by decide) q)))⟩ hP hS dX0_fewestLiars_48
        · skip
          refine lv_iload_n hE.1 hE.2.1 dX0_fewestLiars_20 rfl (lv_at hl 0 rfl) ?_
          refine x_sp (nn := 1) (As := [.int (iI (y1_3))]) (rest := []) hE (s_J6_bitCount_0f7a4 l (y1_3) (by omega)) tt_blind (fun _ _ _ => trivial) rfl mw_1221 mw_850 mw_131 mw_851 (by decide +kernel) ⟨by decide, by decide⟩ hl.1 rfl (Nat.le_of_ble_eq_true rfl) ⟨Nat.zero_le _, Nat.zero_le _⟩ dX0_fewestLiars_21 (fun r5 hr5 => ?_)
          obtain ⟨z5, hz5, rfl⟩ := hr5
          refine lv_iload_n hE.1 hE.2.1 dX0_fewestLiars_24 rfl (lv_at hl 1 rfl) ?_
          refine x_sp (nn := 1) (As := [.int (iI (y1_2))]) (rest := [.int (iI (z5))]) hE (s_J6_bitCount_0f7a4 l (y1_2) (by omega)) tt_blind (fun _ _ _ => trivial) rfl mw_1221 mw_850 mw_131 mw_851 (by decide +kernel) ⟨by decide, by decide⟩ hl.1 rfl (Nat.le_of_ble_eq_true rfl) ⟨Nat.zero_le _, Nat.zero_le _⟩ dX0_fewestLiars_25 (fun r6 hr6 => ?_)
          obtain ⟨z6, hz6, rfl⟩ := hr6
          refine s_icmp_ge (a := z5) (b := z6) (tgt := 41) hE.1 hE.2.1 (by omega) (by omega) dX0_fewestLiars_28 (by decide) (fun c7 => ?_) (fun c7 => ?_)
          · skip
            refine lv_iinc (v := iI (y1_3 + 1)) (lv' := [(3, .int (iI (y1_3 + 1))), (2, .int (iI (y1_2))), (0, .ref (ad 39)), (1, .int (iI (z_1)))]) hE.1 hE.2.1 dX0_fewestLiars_41 hl (k := 0) rfl ((iI_add (y1_3) (1)).trans (congrArg iI (by omega))) (by decide) rfl (fun ls hl => ?_)
            refine lv_goto (tgt := 6) hE.1 hE.2.1 dX0_fewestLiars_44 (by decide) ?_
            exact ih1 _ (by omega) (y1_3 + 1) (y1_2) vl1 arl1 all1 _ _ _ rfl (by omega) (by omega) hI (fun i j h => (hfr1 i j h)) hP hS (lv_sub hl [0, 1, 2, 3] rfl)
          · skip
            refine lv_aload_n hE.1 hE.2.1 dX0_fewestLiars_31 rfl (lv_at hl 2 rfl) ?_
            refine lv_iload_n hE.1 hE.2.1 dX0_fewestLiars_32 rfl (lv_at hl 0 rfl) ?_
            refine x_vi (nn := 1) (As := [.int (iI (y1_3))]) (rest := []) hE hK hN hP hS (s_X0_canBeTrueWithout_39 l D K ad mm N hNN vl1 arl1 all1 hI  (y1_3) (by omega)) (x_recv hK hP 39 (Nat.lt_of_lt_of_le (by decide) hNN) (xG_0 rfl) rfl) rfl mw_1222 mw_1224 mw_43 mw_118 mw_1225 (by decide +kernel) ⟨by decide, by decide⟩ hl.1 rfl (Nat.le_of_ble_eq_true rfl) ⟨Nat.zero_le _, Nat.zero_le _⟩ dX0_fewestLiars_33 (fun r8 v8 ar8 al8 H locs hq8 hP hS => ?_)
            obtain ⟨⟨z8, hz8, rfl⟩, hI, hq8⟩ := hq8
            have hI : XI v8 := hI
            refine s_if_eq (a := z8) (tgt := 41) hE.1 hE.2.1 (by omega) dX0_fewestLiars_36 (by decide) (fun c9 => ?_) (fun c9 => ?_)
            · skip
              refine lv_iinc (v := iI (y1_3 + 1)) (lv' := [(3, .int (iI (y1_3 + 1))), (2, .int (iI (y1_2))), (0, .ref (ad 39)), (1, .int (iI (z_1)))]) hE.1 hE.2.1 dX0_fewestLiars_41 hl (k := 0) rfl ((iI_add (y1_3) (1)).trans (congrArg iI (by omega))) (by decide) rfl (fun ls hl => ?_)
              refine lv_goto (tgt := 6) hE.1 hE.2.1 dX0_fewestLiars_44 (by decide) ?_
              exact ih1 _ (by omega) (y1_3 + 1) (y1_2) v8 ar8 al8 _ _ _ rfl (by omega) (by omega) hI (fun i j h => ((hq8 i j (fun q => h (mem_sub (by decide) q))).trans (hfr1 i j h))) hP hS (lv_sub hl [0, 1, 2, 3] rfl)
            · skip
              refine lv_iload_n hE.1 hE.2.1 dX0_fewestLiars_39 rfl (lv_at hl 0 rfl) ?_
              refine lv_istore_n (lv' := [(2, .int (iI (y1_3))), (3, .int (iI (y1_3))), (0, .ref (ad 39)), (1, .int (iI (z_1)))]) hE.1 hE.2.1 dX0_fewestLiars_40 rfl hl (by decide) rfl (fun ls hl => ?_)
              refine lv_iinc (v := iI (y1_3 + 1)) (lv' := [(3, .int (iI (y1_3 + 1))), (2, .int (iI (y1_3))), (0, .ref (ad 39)), (1, .int (iI (z_1)))]) hE.1 hE.2.1 dX0_fewestLiars_41 hl (k := 1) rfl ((iI_add (y1_3) (1)).trans (congrArg iI (by omega))) (by decide) rfl (fun ls hl => ?_)
              refine lv_goto (tgt := 6) hE.1 hE.2.1 dX0_fewestLiars_44 (by decide) ?_
              exact ih1 _ (by omega) (y1_3 + 1) (y1_3) v8 ar8 al8 _ _ _ rfl (by omega) (by omega) hI (fun i j h => ((hq8 i j (fun q => h (mem_sub (by decide) q))).trans (hfr1 i j h))) hP hS (lv_sub hl [0, 1, 2, 3] rfl)
  exact loop1 _ (0) (255) v ar al _ _ _ rfl (by omega) (by omega) hI (fun _ _ _ => rfl) hP hS hl

theorem dX8_liars_0 : decode cX8_liars 0 = .ok (.aload_n 0, 1) := by decide +kernel
theorem dX8_liars_1 : decode cX8_liars 1 = .ok (.iload_n 1, 1) := by decide +kernel
theorem dX8_liars_2 : decode cX8_liars 2 = .ok (.iconst 3, 1) := by decide +kernel
theorem dX8_liars_3 : decode cX8_liars 3 = .ok (.invokevirtual 289, 3) := by decide +kernel
theorem dX8_liars_6 : decode cX8_liars 6 = .ok (.istore_n 2, 1) := by decide +kernel
theorem dX8_liars_7 : decode cX8_liars 7 = .ok (.iload_n 2, 1) := by decide +kernel
theorem dX8_liars_8 : decode cX8_liars 8 = .ok (.ifCond .eq 7, 3) := by decide +kernel
theorem dX8_liars_11 : decode cX8_liars 11 = .ok (.iload_n 2, 1) := by decide +kernel
theorem dX8_liars_12 : decode cX8_liars 12 = .ok (.goto 20, 3) := by decide +kernel
theorem dX8_liars_15 : decode cX8_liars 15 = .ok (.aload_n 0, 1) := by decide +kernel
theorem dX8_liars_16 : decode cX8_liars 16 = .ok (.getfield 41, 3) := by decide +kernel
theorem dX8_liars_19 : decode cX8_liars 19 = .ok (.aload_n 0, 1) := by decide +kernel
theorem dX8_liars_20 : decode cX8_liars 20 = .ok (.getfield 19, 3) := by decide +kernel
theorem dX8_liars_23 : decode cX8_liars 23 = .ok (.getfield 305, 3) := by decide +kernel
theorem dX8_liars_26 : decode cX8_liars 26 = .ok (.invokevirtual 308, 3) := by decide +kernel
theorem dX8_liars_29 : decode cX8_liars 29 = .ok (.invokestatic 311, 3) := by decide +kernel
theorem dX8_liars_32 : decode cX8_liars 32 = .ok (.ireturn, 1) := by decide +kernel
set_option maxHeartbeats 4000000 in
set_option maxRecDepth 100000 in
theorem s_X8_liars_0 (l : Launch) (D : va_G) (K : Nat → ClassId) (ad : Nat → Nat) (mm : Option Nat) (N : Nat) (hNN : 132 ≤ N) (v ar : sI) (al : sL) (hI : XI v) (z_1 : Int) (hz_1 : -2147483648 ≤ z_1 ∧ z_1 ≤ 2147483647) : Met l yX8_liars (wM yX8_liars cX8_liars 3 (some .int)) (rmD 3) (va_Pc [.ref (ad 0), .int (iI (z_1))] (wPre D K ad (xG ad K mm) N v ar al)) (va_Qi (fun (r : Int32) (u : sT) => (∃ z : Int, (-2147483648 ≤ z ∧ z ≤ 2147483647) ∧ r = iI z) ∧ XI u.1 ∧ (∀ i j : Nat, (i, j) ∉ ([(39, 0)] : List (Nat × Nat)) → u.1 i j = v i j)) (wB D ad (xG ad K mm) N) (inW ad N)) 0 0 (inW ad N) := by
  refine s_metI (by decide) (Nat.le_of_ble_eq_true rfl) ?_
  intro p e s m below meth c ls args Q hE hB hl kr
  have hE : CallFix p m c cX8_liars 3 s args tbG "TaleCourt" := hE
  obtain ⟨hP, hK, hN⟩ := hB
  have hS : va_S (inW ad N) s.heap s.heap [] := va_S.rf
  have hl : lv_has ls 3 [(0, .ref (ad 0)), (1, .int (iI (z_1)))] := hl
  refine lv_aload_n hE.1 hE.2.1 dX8_liars_0 rfl (lv_at hl 0 rfl) ?_
  refine lv_iload_n hE.1 hE.2.1 dX8_liars_1 rfl (lv_at hl 1 rfl) ?_
  refine lv_iconst (v := iI (3)) hE.1 hE.2.1 dX8_liars_2 (by decide) ?_
  refine x_vi (nn := 2) (As := [.int (iI (z_1)), .int (iI (3))]) (rest := []) hE hK hN hP hS (s_X8_claimsBar_0 l D K ad mm N hNN v ar al hI  (z_1) (by omega) (3) (by omega)) (x_recv hK hP 0 (Nat.lt_of_lt_of_le (by decide) hNN) (xG_8 rfl) rfl) rfl mw_1159 mw_1161 mw_39 mw_114 mw_1162 (by decide +kernel) ⟨by decide, by decide⟩ hl.1 rfl (Nat.le_of_ble_eq_true rfl) ⟨Nat.zero_le _, Nat.zero_le _⟩ dX8_liars_3 (fun r1 v1 ar1 al1 H locs hq1 hP hS => ?_)
  obtain ⟨⟨z1, hz1, rfl⟩, hI, hq1⟩ := hq1
  have hI : XI v1 := hI
  refine lv_istore_n (lv' := [(2, .int (iI (z1))), (0, .ref (ad 0)), (1, .int (iI (z_1)))]) hE.1 hE.2.1 dX8_liars_6 rfl hl (by decide) rfl (fun ls hl => ?_)
  refine lv_iload_n hE.1 hE.2.1 dX8_liars_7 rfl (lv_at hl 0 rfl) ?_
  refine s_if_eq (a := z1) (tgt := 15) hE.1 hE.2.1 (by omega) dX8_liars_8 (by decide) (fun c2 => ?_) (fun c2 => ?_)
  · skip
    refine lv_aload_n hE.1 hE.2.1 dX8_liars_15 rfl (lv_at hl 1 rfl) ?_
    refine x_get (x := .ref (ad 39)) hE hK hP 0 (Nat.lt_of_lt_of_le (by decide) hNN) (xG_8 rfl) rfl hin8 5 (by decide) mw_485 rfl dX8_liars_16 ?_
    refine lv_aload_n hE.1 hE.2.1 dX8_liars_19 rfl (lv_at hl 1 rfl) ?_
    refine x_get (x := .ref (ad 3)) hE hK hP 0 (Nat.lt_of_lt_of_le (by decide) hNN) (xG_8 rfl) rfl hin8 1 (by decide) mw_481 rfl dX8_liars_20 ?_
    obtain ⟨z3, hz3, ez3⟩ := XI_get hI 3 3 0 8 (by decide)
    refine x_get (x := .int (v1 3 3)) hE hK hP 3 (Nat.lt_of_lt_of_le (by decide) hNN) (xG_1 rfl) rfl hin1 3 (by decide) mw_193 rfl dX8_liars_23 ?_
    refine x_top (y := iI (z3)) ez3 ?_
    refine x_vi (nn := 1) (As := [.int (iI (z3))]) (rest := []) hE hK hN hP hS (s_X0_fewestLiars_39 l D K ad mm N hNN v1 ar1 al1 hI  (z3) (by omega)) (x_recv hK hP 39 (Nat.lt_of_lt_of_le (by decide) hNN) (xG_0 rfl) rfl) rfl mw_1217 mw_1218 mw_1219 mw_118 mw_1220 (by decide +kernel) ⟨by decide, by decide⟩ hl.1 rfl (Nat.le_of_ble_eq_true rfl) ⟨Nat.zero_le _, Nat.zero_le _⟩ dX8_liars_26 (fun r4 v4 ar4 al4 H locs hq4 hP hS => ?_)
    obtain ⟨⟨z4, hz4, rfl⟩, hI, hq4⟩ := hq4
    have hI : XI v4 := hI
    refine x_sp (nn := 1) (As := [.int (iI (z4))]) (rest := []) hE (s_J6_bitCount_0f7a4 l (z4) (by omega)) tt_blind (fun _ _ _ => trivial) rfl mw_1226 mw_850 mw_131 mw_851 (by decide +kernel) ⟨by decide, by decide⟩ hl.1 rfl (Nat.le_of_ble_eq_true rfl) ⟨Nat.zero_le _, Nat.zero_le _⟩ dX8_liars_29 (fun r5 hr5 => ?_)
    obtain ⟨z5, hz5, rfl⟩ := hr5
    exact kr _ _ _ _ _ _ _ _ rfl ⟨⟨z5, by omega, rfl⟩, hI, fun i j h => ((hq4 i j (fun q => h (mem_sub (by decide) q))).trans (hq1 i j (fun q => h (mem_sub (by decide) q))))⟩ hP hS dX8_liars_32
  · skip
    refine lv_iload_n hE.1 hE.2.1 dX8_liars_11 rfl (lv_at hl 0 rfl) ?_
    refine lv_goto (tgt := 32) hE.1 hE.2.1 dX8_liars_12 (by decide) ?_
    exact kr _ _ _ _ _ _ _ _ rfl ⟨⟨z1, by omega, rfl⟩, hI, fun i j h => (hq1 i j (fun q => h (mem_sub (by decide) q)))⟩ hP hS dX8_liars_32

theorem dX8_who_0 : decode cX8_who 0 = .ok (.aload_n 0, 1) := by decide +kernel
theorem dX8_who_1 : decode cX8_who 1 = .ok (.iload_n 1, 1) := by decide +kernel
theorem dX8_who_2 : decode cX8_who 2 = .ok (.iconst 3, 1) := by decide +kernel
theorem dX8_who_3 : decode cX8_who 3 = .ok (.invokevirtual 289, 3) := by decide +kernel
theorem dX8_who_6 : decode cX8_who 6 = .ok (.istore_n 2, 1) := by decide +kernel
theorem dX8_who_7 : decode cX8_who 7 = .ok (.iload_n 2, 1) := by decide +kernel
theorem dX8_who_8 : decode cX8_who 8 = .ok (.ifCond .eq 7, 3) := by decide +kernel
theorem dX8_who_11 : decode cX8_who 11 = .ok (.iload_n 2, 1) := by decide +kernel
theorem dX8_who_12 : decode cX8_who 12 = .ok (.goto 17, 3) := by decide +kernel
theorem dX8_who_15 : decode cX8_who 15 = .ok (.aload_n 0, 1) := by decide +kernel
theorem dX8_who_16 : decode cX8_who 16 = .ok (.getfield 41, 3) := by decide +kernel
theorem dX8_who_19 : decode cX8_who 19 = .ok (.aload_n 0, 1) := by decide +kernel
theorem dX8_who_20 : decode cX8_who 20 = .ok (.getfield 19, 3) := by decide +kernel
theorem dX8_who_23 : decode cX8_who 23 = .ok (.getfield 305, 3) := by decide +kernel
theorem dX8_who_26 : decode cX8_who 26 = .ok (.invokevirtual 308, 3) := by decide +kernel
theorem dX8_who_29 : decode cX8_who 29 = .ok (.ireturn, 1) := by decide +kernel
set_option maxHeartbeats 4000000 in
set_option maxRecDepth 100000 in
theorem s_X8_who_0 (l : Launch) (D : va_G) (K : Nat → ClassId) (ad : Nat → Nat) (mm : Option Nat) (N : Nat) (hNN : 132 ≤ N) (v ar : sI) (al : sL) (hI : XI v) (z_1 : Int) (hz_1 : -2147483648 ≤ z_1 ∧ z_1 ≤ 2147483647) : Met l yX8_who (wM yX8_who cX8_who 3 (some .int)) (rmD 3) (va_Pc [.ref (ad 0), .int (iI (z_1))] (wPre D K ad (xG ad K mm) N v ar al)) (va_Qi (fun (r : Int32) (u : sT) => (∃ z : Int, (-2147483648 ≤ z ∧ z ≤ 2147483647) ∧ r = iI z) ∧ XI u.1 ∧ (∀ i j : Nat, (i, j) ∉ ([(39, 0)] : List (Nat × Nat)) → u.1 i j = v i j)) (wB D ad (xG ad K mm) N) (inW ad N)) 0 0 (inW ad N) := by
  refine s_metI (by decide) (Nat.le_of_ble_eq_true rfl) ?_
  intro p e s m below meth c ls args Q hE hB hl kr
  have hE : CallFix p m c cX8_who 3 s args tbG "TaleCourt" := hE
  obtain ⟨hP, hK, hN⟩ := hB
  have hS : va_S (inW ad N) s.heap s.heap [] := va_S.rf
  have hl : lv_has ls 3 [(0, .ref (ad 0)), (1, .int (iI (z_1)))] := hl
  refine lv_aload_n hE.1 hE.2.1 dX8_who_0 rfl (lv_at hl 0 rfl) ?_
  refine lv_iload_n hE.1 hE.2.1 dX8_who_1 rfl (lv_at hl 1 rfl) ?_
  refine lv_iconst (v := iI (3)) hE.1 hE.2.1 dX8_who_2 (by decide) ?_
  refine x_vi (nn := 2) (As := [.int (iI (z_1)), .int (iI (3))]) (rest := []) hE hK hN hP hS (s_X8_claimsBar_0 l D K ad mm N hNN v ar al hI  (z_1) (by omega) (3) (by omega)) (x_recv hK hP 0 (Nat.lt_of_lt_of_le (by decide) hNN) (xG_8 rfl) rfl) rfl mw_1159 mw_1161 mw_39 mw_114 mw_1162 (by decide +kernel) ⟨by decide, by decide⟩ hl.1 rfl (Nat.le_of_ble_eq_true rfl) ⟨Nat.zero_le _, Nat.zero_le _⟩ dX8_who_3 (fun r1 v1 ar1 al1 H locs hq1 hP hS => ?_)
  obtain ⟨⟨z1, hz1, rfl⟩, hI, hq1⟩ := hq1
  have hI : XI v1 := hI
  refine lv_istore_n (lv' := [(2, .int (iI (z1))), (0, .ref (ad 0)), (1, .int (iI (z_1)))]) hE.1 hE.2.1 dX8_who_6 rfl hl (by decide) rfl (fun ls hl => ?_)
  refine lv_iload_n hE.1 hE.2.1 dX8_who_7 rfl (lv_at hl 0 rfl) ?_
  refine s_if_eq (a := z1) (tgt := 15) hE.1 hE.2.1 (by omega) dX8_who_8 (by decide) (fun c2 => ?_) (fun c2 => ?_)
  · skip
    refine lv_aload_n hE.1 hE.2.1 dX8_who_15 rfl (lv_at hl 1 rfl) ?_
    refine x_get (x := .ref (ad 39)) hE hK hP 0 (Nat.lt_of_lt_of_le (by decide) hNN) (xG_8 rfl) rfl hin8 5 (by decide) mw_485 rfl dX8_who_16 ?_
    refine lv_aload_n hE.1 hE.2.1 dX8_who_19 rfl (lv_at hl 1 rfl) ?_
    refine x_get (x := .ref (ad 3)) hE hK hP 0 (Nat.lt_of_lt_of_le (by decide) hNN) (xG_8 rfl) rfl hin8 1 (by decide) mw_481 rfl dX8_who_20 ?_
    obtain ⟨z3, hz3, ez3⟩ := XI_get hI 3 3 0 8 (by decide)
    refine x_get (x := .int (v1 3 3)) hE hK hP 3 (Nat.lt_of_lt_of_le (by decide) hNN) (xG_1 rfl) rfl hin1 3 (by decide) mw_193 rfl dX8_who_23 ?_
    refine x_top (y := iI (z3)) ez3 ?_
    refine x_vi (nn := 1) (As := [.int (iI (z3))]) (rest := []) hE hK hN hP hS (s_X0_fewestLiars_39 l D K ad mm N hNN v1 ar1 al1 hI  (z3) (by omega)) (x_recv hK hP 39 (Nat.lt_of_lt_of_le (by decide) hNN) (xG_0 rfl) rfl) rfl mw_1217 mw_1218 mw_1219 mw_118 mw_1220 (by decide +kernel) ⟨by decide, by decide⟩ hl.1 rfl (Nat.le_of_ble_eq_true rfl) ⟨Nat.zero_le _, Nat.zero_le _⟩ dX8_who_26 (fun r4 v4 ar4 al4 H locs hq4 hP hS => ?_)
    obtain ⟨⟨z4, hz4, rfl⟩, hI, hq4⟩ := hq4
    have hI : XI v4 := hI
    exact kr _ _ _ _ _ _ _ _ rfl ⟨⟨z4, by omega, rfl⟩, hI, fun i j h => ((hq4 i j (fun q => h (mem_sub (by decide) q))).trans (hq1 i j (fun q => h (mem_sub (by decide) q))))⟩ hP hS dX8_who_29
  · skip
    refine lv_iload_n hE.1 hE.2.1 dX8_who_11 rfl (lv_at hl 0 rfl) ?_
    refine lv_goto (tgt := 29) hE.1 hE.2.1 dX8_who_12 (by decide) ?_
    exact kr _ _ _ _ _ _ _ _ rfl ⟨⟨z1, by omega, rfl⟩, hI, fun i j h => (hq1 i j (fun q => h (mem_sub (by decide) q)))⟩ hP hS dX8_who_29

theorem dX5_isOfMotifs_0 : decode cX5_isOfMotifs 0 = .ok (.iconst 0, 1) := by decide +kernel
theorem dX5_isOfMotifs_1 : decode cX5_isOfMotifs 1 = .ok (.istore_n 2, 1) := by decide +kernel
theorem dX5_isOfMotifs_2 : decode cX5_isOfMotifs 2 = .ok (.iload_n 2, 1) := by decide +kernel
theorem dX5_isOfMotifs_3 : decode cX5_isOfMotifs 3 = .ok (.aload_n 0, 1) := by decide +kernel
theorem dX5_isOfMotifs_4 : decode cX5_isOfMotifs 4 = .ok (.getfield 15, 3) := by decide +kernel
theorem dX5_isOfMotifs_7 : decode cX5_isOfMotifs 7 = .ok (.if_icmp .ge 30, 3) := by decide +kernel
theorem dX5_isOfMotifs_10 : decode cX5_isOfMotifs 10 = .ok (.iload_n 2, 1) := by decide +kernel
theorem dX5_isOfMotifs_11 : decode cX5_isOfMotifs 11 = .ok (.bipush 60, 2) := by decide +kernel
theorem dX5_isOfMotifs_13 : decode cX5_isOfMotifs 13 = .ok (.if_icmp .ge 24, 3) := by decide +kernel
theorem dX5_isOfMotifs_16 : decode cX5_isOfMotifs 16 = .ok (.aload_n 1, 1) := by decide +kernel
theorem dX5_isOfMotifs_17 : decode cX5_isOfMotifs 17 = .ok (.aload_n 0, 1) := by decide +kernel
theorem dX5_isOfMotifs_18 : decode cX5_isOfMotifs 18 = .ok (.getfield 9, 3) := by decide +kernel
theorem dX5_isOfMotifs_21 : decode cX5_isOfMotifs 21 = .ok (.iload_n 2, 1) := by decide +kernel
theorem dX5_isOfMotifs_22 : decode cX5_isOfMotifs 22 = .ok (.laload, 1) := by decide +kernel
theorem dX5_isOfMotifs_23 : decode cX5_isOfMotifs 23 = .ok (.invokevirtual 30, 3) := by decide +kernel
theorem dX5_isOfMotifs_26 : decode cX5_isOfMotifs 26 = .ok (.ifCond .ne 5, 3) := by decide +kernel
theorem dX5_isOfMotifs_29 : decode cX5_isOfMotifs 29 = .ok (.iconst 0, 1) := by decide +kernel
theorem dX5_isOfMotifs_30 : decode cX5_isOfMotifs 30 = .ok (.ireturn, 1) := by decide +kernel
theorem dX5_isOfMotifs_31 : decode cX5_isOfMotifs 31 = .ok (.iinc 2 1, 3) := by decide +kernel
theorem dX5_isOfMotifs_34 : decode cX5_isOfMotifs 34 = .ok (.goto (-32), 3) := by decide +kernel
theorem dX5_isOfMotifs_37 : decode cX5_isOfMotifs 37 = .ok (.iconst 1, 1) := by decide +kernel
theorem dX5_isOfMotifs_38 : decode cX5_isOfMotifs 38 = .ok (.ireturn, 1) := by decide +kernel
set_option maxHeartbeats 4000000 in
set_option maxRecDepth 100000 in
theorem s_X5_isOfMotifs_67_3 (l : Launch) (D : va_G) (K : Nat → ClassId) (ad : Nat → Nat) (mm : Option Nat) (N : Nat) (hNN : 132 ≤ N) (v ar : sI) (al : sL) (hI : XI v) : Met l yX5_isOfMotifs (wM yX5_isOfMotifs cX5_isOfMotifs 3 (some .boolean)) (rmD 1) (va_Pc [.ref (ad 67), .ref (ad 3)] (wPre D K ad (xG ad K mm) N v ar al)) (vp_Si (fun r => ∃ z : Int, (0 ≤ z ∧ z ≤ 1) ∧ r = iI z)) 0 0 (fun _ => False) := by
  refine s_metP (by decide) (Nat.le_of_ble_eq_true rfl) ?_
  intro p e s m below meth c ls args Q hE hB hl kr
  have hE : CallFix p m c cX5_isOfMotifs 3 s args tbG "TaleCourt$Row" := hE
  obtain ⟨hP, hK, hN⟩ := hB
  have hl : lv_has ls 3 [(0, .ref (ad 67)), (1, .ref (ad 3))] := hl
  refine lv_iconst (v := iI (0)) hE.1 hE.2.1 dX5_isOfMotifs_0 (by decide) ?_
  refine lv_istore_n (lv' := [(2, .int (iI (0))), (0, .ref (ad 67)), (1, .ref (ad 3))]) hE.1 hE.2.1 dX5_isOfMotifs_1 rfl hl (by decide) rfl (fun ls hl => ?_)
  have loop1 : ∀ (k1 : Nat) (y1_2 : Int) (ls : Array Slot), (60 - y1_2).toNat = k1 → (0 ≤ y1_2 ∧ y1_2 ≤ 60) → lv_has ls 3 [(2, .int (iI (y1_2))), (0, .ref (ad 67)), (1, .ref (ad 3))] → W p l e (rmD 1) s m args below meth c s.heap [] 0 0 Q (F0 m 2 ls []) := by
    intro k1
    induction k1 using Nat.strongRecOn with
    | _ k1 ih1 =>
      intro y1_2 ls hk1 hb_y1_2 hl
      refine lv_iload_n hE.1 hE.2.1 dX5_isOfMotifs_2 rfl (lv_at hl 0 rfl) ?_
      refine lv_aload_n hE.1 hE.2.1 dX5_isOfMotifs_3 rfl (lv_at hl 1 rfl) ?_
      obtain ⟨z2, hz2, ez2⟩ := XI_get hI 67 2 (-1) 60 (by decide)
      refine x_get (x := .int (v 67 2)) hE hK hP 67 (Nat.lt_of_lt_of_le (by decide) hNN) (xG_5 rfl) rfl hin5 2 (by decide) mw_449 rfl dX5_isOfMotifs_4 ?_
      refine x_top (y := iI (z2)) ez2 ?_
      refine s_icmp_ge (a := y1_2) (b := z2) (tgt := 37) hE.1 hE.2.1 (by omega) (by omega) dX5_isOfMotifs_7 (by decide) (fun c3 => ?_) (fun c3 => ?_)
      · skip
        refine lv_iconst (v := iI (1)) hE.1 hE.2.1 dX5_isOfMotifs_37 (by decide) ?_
        exact kr _ _ _ (nar01 (by omega)) ⟨1, by omega, rfl⟩ dX5_isOfMotifs_38
      · skip
        refine lv_iload_n hE.1 hE.2.1 dX5_isOfMotifs_10 rfl (lv_at hl 0 rfl) ?_
        refine lv_bipush (v := iI (60)) hE.1 hE.2.1 dX5_isOfMotifs_11 (by decide) ?_
        refine s_icmp_ge (a := y1_2) (b := 60) (tgt := 37) hE.1 hE.2.1 (by omega) (by omega) dX5_isOfMotifs_13 (by decide) (fun c4 => False.elim (by omega)) (fun _ => ?_)
        refine lv_aload_n hE.1 hE.2.1 dX5_isOfMotifs_16 rfl (lv_at hl 2 rfl) ?_
        refine lv_aload_n hE.1 hE.2.1 dX5_isOfMotifs_17 rfl (lv_at hl 1 rfl) ?_
        refine x_get (x := .ref (ad 68)) hE hK hP 67 (Nat.lt_of_lt_of_le (by decide) hNN) (xG_5 rfl) rfl hin5 0 (by decide) mw_445 rfl dX5_isOfMotifs_18 ?_
        refine lv_iload_n hE.1 hE.2.1 dX5_isOfMotifs_21 rfl (lv_at hl 0 rfl) ?_
        refine x_lald (j := iI (y1_2)) hE hK hP 68 (Nat.lt_of_lt_of_le (by decide) hNN) (xG_11 rfl) (iI_in (n := 60) (by omega)) dX5_isOfMotifs_22 ?_
        obtain ⟨z6, hz6, ez6⟩ := lI_of (al 68 (iI (y1_2)).toNatClampNeg)
        refine x_topl ez6 ?_
        refine x_vp (nn := 1) (As := [.long (lI (z6))]) (rest := []) hE (s_X1_hasNumber_3 l D K ad mm N hNN v ar al hI  (z6) (by omega)) wPre_blind (wPre_now hK hN hP) (x_recv hK hP 3 (Nat.lt_of_lt_of_le (by decide) hNN) (xG_1 rfl) rfl) rfl mw_1239 mw_1147 mw_1148 mw_116 mw_1149 (by decide +kernel) ⟨by decide, by decide⟩ hl.1 rfl (Nat.le_of_ble_eq_true rfl) ⟨Nat.zero_le _, Nat.zero_le _⟩ dX5_isOfMotifs_23 (fun r7 hr7 => ?_)
        obtain ⟨z7, hz7, rfl⟩ := hr7
        refine s_if_ne (a := z7) (tgt := 31) hE.1 hE.2.1 (by omega) dX5_isOfMotifs_26 (by decide) (fun c8 => ?_) (fun c8 => ?_)
        · skip
          refine lv_iinc (v := iI (y1_2 + 1)) (lv' := [(2, .int (iI (y1_2 + 1))), (0, .ref (ad 67)), (1, .ref (ad 3))]) hE.1 hE.2.1 dX5_isOfMotifs_31 hl (k := 0) rfl ((iI_add (y1_2) (1)).trans (congrArg iI (by omega))) (by decide) rfl (fun ls hl => ?_)
          refine lv_goto (tgt := 2) hE.1 hE.2.1 dX5_isOfMotifs_34 (by decide) ?_
          exact ih1 _ (by omega) (y1_2 + 1) _ rfl (by omega) (lv_sub hl [0, 1, 2] rfl)
        · skip
          refine lv_iconst (v := iI (0)) hE.1 hE.2.1 dX5_isOfMotifs_29 (by decide) ?_
          exact kr _ _ _ (nar01 (by omega)) ⟨0, by omega, rfl⟩ dX5_isOfMotifs_30
  exact loop1 _ (0) _ rfl (by omega) hl

theorem dX1_hasListener_0 : decode cX1_hasListener 0 = .ok (.iload_n 1, 1) := by decide +kernel
theorem dX1_hasListener_1 : decode cX1_hasListener 1 = .ok (.ifCond .lt 21, 3) := by decide +kernel
theorem dX1_hasListener_4 : decode cX1_hasListener 4 = .ok (.iload_n 1, 1) := by decide +kernel
theorem dX1_hasListener_5 : decode cX1_hasListener 5 = .ok (.aload_n 0, 1) := by decide +kernel
theorem dX1_hasListener_6 : decode cX1_hasListener 6 = .ok (.getfield 49, 3) := by decide +kernel
theorem dX1_hasListener_9 : decode cX1_hasListener 9 = .ok (.if_icmp .ge 13, 3) := by decide +kernel
theorem dX1_hasListener_12 : decode cX1_hasListener 12 = .ok (.iload_n 1, 1) := by decide +kernel
theorem dX1_hasListener_13 : decode cX1_hasListener 13 = .ok (.bipush 8, 2) := by decide +kernel
theorem dX1_hasListener_15 : decode cX1_hasListener 15 = .ok (.if_icmp .ge 7, 3) := by decide +kernel
theorem dX1_hasListener_18 : decode cX1_hasListener 18 = .ok (.iconst 1, 1) := by decide +kernel
theorem dX1_hasListener_19 : decode cX1_hasListener 19 = .ok (.goto 4, 3) := by decide +kernel
theorem dX1_hasListener_22 : decode cX1_hasListener 22 = .ok (.iconst 0, 1) := by decide +kernel
theorem dX1_hasListener_23 : decode cX1_hasListener 23 = .ok (.ireturn, 1) := by decide +kernel
set_option maxHeartbeats 4000000 in
set_option maxRecDepth 100000 in
theorem s_X1_hasListener_3 (l : Launch) (D : va_G) (K : Nat → ClassId) (ad : Nat → Nat) (mm : Option Nat) (N : Nat) (hNN : 132 ≤ N) (v ar : sI) (al : sL) (hI : XI v) (z_1 : Int) (hz_1 : -2147483648 ≤ z_1 ∧ z_1 ≤ 2147483647) : Met l yX1_hasListener (wM yX1_hasListener cX1_hasListener 2 (some .boolean)) (rmD 0) (va_Pc [.ref (ad 3), .int (iI (z_1))] (wPre D K ad (xG ad K mm) N v ar al)) (vp_Si (fun r => ∃ z : Int, (z = 0 ∨ (z = 1 ∧ 0 ≤ z_1 ∧ z_1 ≤ 7)) ∧ r = iI z)) 0 0 (fun _ => False) := by
  refine s_metP (by decide) (Nat.le_of_ble_eq_true rfl) ?_
  intro p e s m below meth c ls args Q hE hB hl kr
  have hE : CallFix p m c cX1_hasListener 2 s args tbG "TaleCourt$Court" := hE
  obtain ⟨hP, hK, hN⟩ := hB
  have hl : lv_has ls 2 [(0, .ref (ad 3)), (1, .int (iI (z_1)))] := hl
  refine lv_iload_n hE.1 hE.2.1 dX1_hasListener_0 rfl (lv_at hl 1 rfl) ?_
  refine s_if_lt (a := z_1) (tgt := 22) hE.1 hE.2.1 (by omega) dX1_hasListener_1 (by decide) (fun c1 => ?_) (fun c1 => ?_)
  · skip
    refine lv_iconst (v := iI (0)) hE.1 hE.2.1 dX1_hasListener_22 (by decide) ?_
    exact kr _ _ _ (nar01 (by omega)) ⟨0, by omega, rfl⟩ dX1_hasListener_23
  · skip
    refine lv_iload_n hE.1 hE.2.1 dX1_hasListener_4 rfl (lv_at hl 1 rfl) ?_
    refine lv_aload_n hE.1 hE.2.1 dX1_hasListener_5 rfl (lv_at hl 0 rfl) ?_
    obtain ⟨z2, hz2, ez2⟩ := XI_get hI 3 3 0 8 (by decide)
    refine x_get (x := .int (v 3 3)) hE hK hP 3 (Nat.lt_of_lt_of_le (by decide) hNN) (xG_1 rfl) rfl hin1 3 (by decide) mw_190 rfl dX1_hasListener_6 ?_
    refine x_top (y := iI (z2)) ez2 ?_
    refine s_icmp_ge (a := z_1) (b := z2) (tgt := 22) hE.1 hE.2.1 (by omega) (by omega) dX1_hasListener_9 (by decide) (fun c3 => ?_) (fun c3 => ?_)
    · skip
      refine lv_iconst (v := iI (0)) hE.1 hE.2.1 dX1_hasListener_22 (by decide) ?_
      exact kr _ _ _ (nar01 (by omega)) ⟨0, by omega, rfl⟩ dX1_hasListener_23
    · skip
      refine lv_iload_n hE.1 hE.2.1 dX1_hasListener_12 rfl (lv_at hl 1 rfl) ?_
      refine lv_bipush (v := iI (8)) hE.1 hE.2.1 dX1_hasListener_13 (by decide) ?_
      refine s_icmp_ge (a := z_1) (b := 8) (tgt := 22) hE.1 hE.2.1 (by omega) (by omega) dX1_hasListener_15 (by decide) (fun c4 => False.elim (by omega)) (fun _ => ?_)
      refine lv_iconst (v := iI (1)) hE.1 hE.2.1 dX1_hasListener_18 (by decide) ?_
      refine lv_goto (tgt := 23) hE.1 hE.2.1 dX1_hasListener_19 (by decide) ?_
      exact kr _ _ _ (nar01 (by omega)) ⟨1, by omega, rfl⟩ dX1_hasListener_23

theorem dX5_tasteFor_0 : decode cX5_tasteFor 0 = .ok (.aload_n 1, 1) := by decide +kernel
theorem dX5_tasteFor_1 : decode cX5_tasteFor 1 = .ok (.iload_n 2, 1) := by decide +kernel
theorem dX5_tasteFor_2 : decode cX5_tasteFor 2 = .ok (.invokevirtual 36, 3) := by decide +kernel
theorem dX5_tasteFor_5 : decode cX5_tasteFor 5 = .ok (.ifCond .ne 5, 3) := by decide +kernel
theorem dX5_tasteFor_8 : decode cX5_tasteFor 8 = .ok (.iconst 0, 1) := by decide +kernel
theorem dX5_tasteFor_9 : decode cX5_tasteFor 9 = .ok (.ireturn, 1) := by decide +kernel
theorem dX5_tasteFor_10 : decode cX5_tasteFor 10 = .ok (.iconst 0, 1) := by decide +kernel
theorem dX5_tasteFor_11 : decode cX5_tasteFor 11 = .ok (.istore_n 3, 1) := by decide +kernel
theorem dX5_tasteFor_12 : decode cX5_tasteFor 12 = .ok (.iconst 0, 1) := by decide +kernel
theorem dX5_tasteFor_13 : decode cX5_tasteFor 13 = .ok (.istore 4, 2) := by decide +kernel
theorem dX5_tasteFor_15 : decode cX5_tasteFor 15 = .ok (.iload 4, 2) := by decide +kernel
theorem dX5_tasteFor_17 : decode cX5_tasteFor 17 = .ok (.aload_n 0, 1) := by decide +kernel
theorem dX5_tasteFor_18 : decode cX5_tasteFor 18 = .ok (.getfield 15, 3) := by decide +kernel
theorem dX5_tasteFor_21 : decode cX5_tasteFor 21 = .ok (.if_icmp .ge 76, 3) := by decide +kernel
theorem dX5_tasteFor_24 : decode cX5_tasteFor 24 = .ok (.iload 4, 2) := by decide +kernel
theorem dX5_tasteFor_26 : decode cX5_tasteFor 26 = .ok (.bipush 60, 2) := by decide +kernel
theorem dX5_tasteFor_28 : decode cX5_tasteFor 28 = .ok (.if_icmp .ge 69, 3) := by decide +kernel
theorem dX5_tasteFor_31 : decode cX5_tasteFor 31 = .ok (.aload_n 1, 1) := by decide +kernel
theorem dX5_tasteFor_32 : decode cX5_tasteFor 32 = .ok (.aload_n 0, 1) := by decide +kernel
theorem dX5_tasteFor_33 : decode cX5_tasteFor 33 = .ok (.getfield 9, 3) := by decide +kernel
theorem dX5_tasteFor_36 : decode cX5_tasteFor 36 = .ok (.iload 4, 2) := by decide +kernel
theorem dX5_tasteFor_38 : decode cX5_tasteFor 38 = .ok (.laload, 1) := by decide +kernel
theorem dX5_tasteFor_39 : decode cX5_tasteFor 39 = .ok (.invokevirtual 30, 3) := by decide +kernel
theorem dX5_tasteFor_42 : decode cX5_tasteFor 42 = .ok (.ifCond .eq 49, 3) := by decide +kernel
theorem dX5_tasteFor_45 : decode cX5_tasteFor 45 = .ok (.aload_n 0, 1) := by decide +kernel
theorem dX5_tasteFor_46 : decode cX5_tasteFor 46 = .ok (.getfield 9, 3) := by decide +kernel
theorem dX5_tasteFor_49 : decode cX5_tasteFor 49 = .ok (.iload 4, 2) := by decide +kernel
theorem dX5_tasteFor_51 : decode cX5_tasteFor 51 = .ok (.laload, 1) := by decide +kernel
theorem dX5_tasteFor_52 : decode cX5_tasteFor 52 = .ok (.l2i, 1) := by decide +kernel
theorem dX5_tasteFor_53 : decode cX5_tasteFor 53 = .ok (.istore 5, 2) := by decide +kernel
theorem dX5_tasteFor_55 : decode cX5_tasteFor 55 = .ok (.iload_n 3, 1) := by decide +kernel
theorem dX5_tasteFor_56 : decode cX5_tasteFor 56 = .ok (.aload_n 1, 1) := by decide +kernel
theorem dX5_tasteFor_57 : decode cX5_tasteFor 57 = .ok (.iload 5, 2) := by decide +kernel
theorem dX5_tasteFor_59 : decode cX5_tasteFor 59 = .ok (.invokevirtual 40, 3) := by decide +kernel
theorem dX5_tasteFor_62 : decode cX5_tasteFor 62 = .ok (.iadd, 1) := by decide +kernel
theorem dX5_tasteFor_63 : decode cX5_tasteFor 63 = .ok (.istore_n 3, 1) := by decide +kernel
theorem dX5_tasteFor_64 : decode cX5_tasteFor 64 = .ok (.iload_n 3, 1) := by decide +kernel
theorem dX5_tasteFor_65 : decode cX5_tasteFor 65 = .ok (.aload_n 1, 1) := by decide +kernel
theorem dX5_tasteFor_66 : decode cX5_tasteFor 66 = .ok (.getfield 44, 3) := by decide +kernel
theorem dX5_tasteFor_69 : decode cX5_tasteFor 69 = .ok (.iload_n 2, 1) := by decide +kernel
theorem dX5_tasteFor_70 : decode cX5_tasteFor 70 = .ok (.iaload, 1) := by decide +kernel
theorem dX5_tasteFor_71 : decode cX5_tasteFor 71 = .ok (.iload 5, 2) := by decide +kernel
theorem dX5_tasteFor_73 : decode cX5_tasteFor 73 = .ok (.ishr, 1) := by decide +kernel
theorem dX5_tasteFor_74 : decode cX5_tasteFor 74 = .ok (.iconst 1, 1) := by decide +kernel
theorem dX5_tasteFor_75 : decode cX5_tasteFor 75 = .ok (.iand, 1) := by decide +kernel
theorem dX5_tasteFor_76 : decode cX5_tasteFor 76 = .ok (.ifCond .eq 12, 3) := by decide +kernel
theorem dX5_tasteFor_79 : decode cX5_tasteFor 79 = .ok (.aload_n 1, 1) := by decide +kernel
theorem dX5_tasteFor_80 : decode cX5_tasteFor 80 = .ok (.getfield 48, 3) := by decide +kernel
theorem dX5_tasteFor_83 : decode cX5_tasteFor 83 = .ok (.iload_n 2, 1) := by decide +kernel
theorem dX5_tasteFor_84 : decode cX5_tasteFor 84 = .ok (.iaload, 1) := by decide +kernel
theorem dX5_tasteFor_85 : decode cX5_tasteFor 85 = .ok (.goto 4, 3) := by decide +kernel
theorem dX5_tasteFor_88 : decode cX5_tasteFor 88 = .ok (.iconst 0, 1) := by decide +kernel
theorem dX5_tasteFor_89 : decode cX5_tasteFor 89 = .ok (.iadd, 1) := by decide +kernel
theorem dX5_tasteFor_90 : decode cX5_tasteFor 90 = .ok (.istore_n 3, 1) := by decide +kernel
theorem dX5_tasteFor_91 : decode cX5_tasteFor 91 = .ok (.iinc 4 1, 3) := by decide +kernel
theorem dX5_tasteFor_94 : decode cX5_tasteFor 94 = .ok (.goto (-79), 3) := by decide +kernel
theorem dX5_tasteFor_97 : decode cX5_tasteFor 97 = .ok (.iload_n 3, 1) := by decide +kernel
theorem dX5_tasteFor_98 : decode cX5_tasteFor 98 = .ok (.ireturn, 1) := by decide +kernel
set_option maxHeartbeats 4000000 in
set_option maxRecDepth 100000 in
theorem s_X5_tasteFor_67_3 (l : Launch) (D : va_G) (K : Nat → ClassId) (ad : Nat → Nat) (mm : Option Nat) (N : Nat) (hNN : 132 ≤ N) (v ar : sI) (al : sL) (hI : XI v) (z_1 : Int) (hz_1 : -2147483648 ≤ z_1 ∧ z_1 ≤ 2147483647) : Met l yX5_tasteFor (wM yX5_tasteFor cX5_tasteFor 6 (some .int)) (rmD 1) (va_Pc [.ref (ad 67), .ref (ad 3), .int (iI (z_1))] (wPre D K ad (xG ad K mm) N v ar al)) (vp_Si (fun r => ∃ z : Int, (-2147483648 ≤ z ∧ z ≤ 2147483647) ∧ r = iI z)) 0 0 (fun _ => False) := by
  refine s_metP (by decide) (Nat.le_of_ble_eq_true rfl) ?_
  intro p e s m below meth c ls args Q hE hB hl kr
  have hE : CallFix p m c cX5_tasteFor 6 s args tbG "TaleCourt$Row" := hE
  obtain ⟨hP, hK, hN⟩ := hB
  have hl : lv_has ls 6 [(0, .ref (ad 67)), (1, .ref (ad 3)), (2, .int (iI (z_1)))] := hl
  refine lv_aload_n hE.1 hE.2.1 dX5_tasteFor_0 rfl (lv_at hl 1 rfl) ?_
  refine lv_iload_n hE.1 hE.2.1 dX5_tasteFor_1 rfl (lv_at hl 2 rfl) ?_
  refine x_vp (nn := 1) (As := [.int (iI (z_1))]) (rest := []) hE (s_X1_hasListener_3 l D K ad mm N hNN v ar al hI  (z_1) (by omega)) wPre_blind (wPre_now hK hN hP) (x_recv hK hP 3 (Nat.lt_of_lt_of_le (by decide) hNN) (xG_1 rfl) rfl) rfl mw_1244 mw_1245 mw_1246 mw_116 mw_1247 (by decide +kernel) ⟨by decide, by decide⟩ hl.1 rfl (Nat.le_of_ble_eq_true rfl) ⟨Nat.zero_le _, Nat.zero_le _⟩ dX5_tasteFor_2 (fun r1 hr1 => ?_)
  obtain ⟨z1, hz1, rfl⟩ := hr1
  refine s_if_ne (a := z1) (tgt := 10) hE.1 hE.2.1 (by omega) dX5_tasteFor_5 (by decide) (fun c2 => ?_) (fun c2 => ?_)
  · skip
    refine lv_iconst (v := iI (0)) hE.1 hE.2.1 dX5_tasteFor_10 (by decide) ?_
    refine lv_istore_n (lv' := [(3, .int (iI (0))), (0, .ref (ad 67)), (1, .ref (ad 3)), (2, .int (iI (z_1)))]) hE.1 hE.2.1 dX5_tasteFor_11 rfl hl (by decide) rfl (fun ls hl => ?_)
    refine lv_iconst (v := iI (0)) hE.1 hE.2.1 dX5_tasteFor_12 (by decide) ?_
    refine lv_istore (lv' := [(4, .int (iI (0))), (3, .int (iI (0))), (0, .ref (ad 67)), (1, .ref (ad 3)), (2, .int (iI (z_1)))]) hE.1 hE.2.1 dX5_tasteFor_13 hl (by decide) rfl (fun ls hl => ?_)
    have loop3 : ∀ (k3 : Nat) (y3_4 : Int) (y3_3 : Int) (ls : Array Slot), (60 - y3_4).toNat = k3 → (0 ≤ y3_4 ∧ y3_4 ≤ 60) → (-2147483648 ≤ y3_3 ∧ y3_3 ≤ 2147483647) → lv_has ls 6 [(4, .int (iI (y3_4))), (3, .int (iI (y3_3))), (0, .ref (ad 67)), (1, .ref (ad 3)), (2, .int (iI (z_1)))] → W p l e (rmD 1) s m args below meth c s.heap [] 0 0 Q (F0 m 15 ls []) := by
      intro k3
      induction k3 using Nat.strongRecOn with
      | _ k3 ih3 =>
        intro y3_4 y3_3 ls hk3 hb_y3_4 hb_y3_3 hl
        refine lv_iload hE.1 hE.2.1 dX5_tasteFor_15 (lv_at hl 0 rfl) ?_
        refine lv_aload_n hE.1 hE.2.1 dX5_tasteFor_17 rfl (lv_at hl 2 rfl) ?_
        obtain ⟨z4, hz4, ez4⟩ := XI_get hI 67 2 (-1) 60 (by decide)
        refine x_get (x := .int (v 67 2)) hE hK hP 67 (Nat.lt_of_lt_of_le (by decide) hNN) (xG_5 rfl) rfl hin5 2 (by decide) mw_449 rfl dX5_tasteFor_18 ?_
        refine x_top (y := iI (z4)) ez4 ?_
        refine s_icmp_ge (a := y3_4) (b := z4) (tgt := 97) hE.1 hE.2.1 (by omega) (by omega) dX5_tasteFor_21 (by decide) (fun c5 => ?_) (fun c5 => ?_)
        · skip
          refine lv_iload_n hE.1 hE.2.1 dX5_tasteFor_97 rfl (lv_at hl 1 rfl) ?_
          exact kr _ _ _ rfl ⟨y3_3, by omega, rfl⟩ dX5_tasteFor_98
        · skip
          refine lv_iload hE.1 hE.2.1 dX5_tasteFor_24 (lv_at hl 0 rfl) ?_
          refine lv_bipush (v := iI (60)) hE.1 hE.2.1 dX5_tasteFor_26 (by decide) ?_
          refine s_icmp_ge (a := y3_4) (b := 60) (tgt := 97) hE.1 hE.2.1 (by omega) (by omega) dX5_tasteFor_28 (by decide) (fun c6 => False.elim (by omega)) (fun _ => ?_)
          refine lv_aload_n hE.1 hE.2.1 dX5_tasteFor_31 rfl (lv_at hl 3 rfl) ?_
          refine lv_aload_n hE.1 hE.2.1 dX5_tasteFor_32 rfl (lv_at hl 2 rfl) ?_
          refine x_get (x := .ref (ad 68)) hE hK hP 67 (Nat.lt_of_lt_of_le (by decide) hNN) (xG_5 rfl) rfl hin5 0 (by decide) mw_445 rfl dX5_tasteFor_33 ?_
          refine lv_iload hE.1 hE.2.1 dX5_tasteFor_36 (lv_at hl 0 rfl) ?_
          refine x_lald (j := iI (y3_4)) hE hK hP 68 (Nat.lt_of_lt_of_le (by decide) hNN) (xG_11 rfl) (iI_in (n := 60) (by omega)) dX5_tasteFor_38 ?_
          obtain ⟨z8, hz8, ez8⟩ := lI_of (al 68 (iI (y3_4)).toNatClampNeg)
          refine x_topl ez8 ?_
          refine x_vp (nn := 1) (As := [.long (lI (z8))]) (rest := []) hE (s_X1_hasNumber_3 l D K ad mm N hNN v ar al hI  (z8) (by omega)) wPre_blind (wPre_now hK hN hP) (x_recv hK hP 3 (Nat.lt_of_lt_of_le (by decide) hNN) (xG_1 rfl) rfl) rfl mw_1239 mw_1147 mw_1148 mw_116 mw_1149 (by decide +kernel) ⟨by decide, by decide⟩ hl.1 rfl (Nat.le_of_ble_eq_true rfl) ⟨Nat.zero_le _, Nat.zero_le _⟩ dX5_tasteFor_39 (fun r9 hr9 => ?_)
          obtain ⟨z9, hz9, rfl⟩ := hr9
          refine s_if_eq (a := z9) (tgt := 91) hE.1 hE.2.1 (by omega) dX5_tasteFor_42 (by decide) (fun c10 => ?_) (fun c10 => ?_)
          · skip
            refine lv_iinc (v := iI (y3_4 + 1)) (lv' := [(4, .int (iI (y3_4 + 1))), (3, .int (iI (y3_3))), (0, .ref (ad 67)), (1, .ref (ad 3)), (2, .int (iI (z_1)))]) hE.1 hE.2.1 dX5_tasteFor_91 hl (k := 0) rfl ((iI_add (y3_4) (1)).trans (congrArg iI (by omega))) (by decide) rfl (fun ls hl => ?_)
            refine lv_goto (tgt := 15) hE.1 hE.2.1 dX5_tasteFor_94 (by decide) ?_
            exact ih3 _ (by omega) (y3_4 + 1) (y3_3) _ rfl (by omega) (by omega) (lv_sub hl [0, 1, 2, 3, 4] rfl)
          · skip
            refine lv_aload_n hE.1 hE.2.1 dX5_tasteFor_45 rfl (lv_at hl 2 rfl) ?_
            refine x_get (x := .ref (ad 68)) hE hK hP 67 (Nat.lt_of_lt_of_le (by decide) hNN) (xG_5 rfl) rfl hin5 0 (by decide) mw_445 rfl dX5_tasteFor_46 ?_
            refine lv_iload hE.1 hE.2.1 dX5_tasteFor_49 (lv_at hl 0 rfl) ?_
            refine x_lald (j := iI (y3_4)) hE hK hP 68 (Nat.lt_of_lt_of_le (by decide) hNN) (xG_11 rfl) (iI_in (n := 60) (by omega)) dX5_tasteFor_51 ?_
            obtain ⟨z12, hz12, ez12⟩ := lI_of (al 68 (iI (y3_4)).toNatClampNeg)
            refine x_topl ez12 ?_
            refine lv_l2i (v := iI (z12)) hE.1 hE.2.1 dX5_tasteFor_52 (lI_l2i _) ?_
            obtain ⟨z13, hz13, ez13⟩ := iI_of (iI (z12))
            refine x_top ez13 ?_
            refine lv_istore (lv' := [(5, .int (iI (z13))), (4, .int (iI (y3_4))), (3, .int (iI (y3_3))), (0, .ref (ad 67)), (1, .ref (ad 3)), (2, .int (iI (z_1)))]) hE.1 hE.2.1 dX5_tasteFor_53 hl (by decide) rfl (fun ls hl => ?_)
            refine lv_iload_n hE.1 hE.2.1 dX5_tasteFor_55 rfl (lv_at hl 2 rfl) ?_
            refine lv_aload_n hE.1 hE.2.1 dX5_tasteFor_56 rfl (lv_at hl 4 rfl) ?_
            refine lv_iload hE.1 hE.2.1 dX5_tasteFor_57 (lv_at hl 0 rfl) ?_
            refine x_vp (nn := 1) (As := [.int (iI (z13))]) (rest := [.int (iI (y3_3))]) hE (s_X1_value_3 l D K ad mm N hNN v ar al hI  (z13) (by omega)) wPre_blind (wPre_now hK hN hP) (x_recv hK hP 3 (Nat.lt_of_lt_of_le (by decide) hNN) (xG_1 rfl) rfl) rfl mw_1248 mw_776 mw_777 mw_116 mw_778 (by decide +kernel) ⟨by decide, by decide⟩ hl.1 rfl (Nat.le_of_ble_eq_true rfl) ⟨Nat.zero_le _, Nat.zero_le _⟩ dX5_tasteFor_59 (fun r14 hr14 => ?_)
            obtain ⟨z14, hz14, rfl⟩ := hr14
            refine lv_iadd hE.1 hE.2.1 dX5_tasteFor_62 ?_
            obtain ⟨z15, hz15, ez15⟩ := iI_of (iI (y3_3) + iI (z14))
            refine x_top ez15 ?_
            refine lv_istore_n (lv' := [(3, .int (iI (z15))), (5, .int (iI (z13))), (4, .int (iI (y3_4))), (0, .ref (ad 67)), (1, .ref (ad 3)), (2, .int (iI (z_1)))]) hE.1 hE.2.1 dX5_tasteFor_63 rfl hl (by decide) rfl (fun ls hl => ?_)
            refine lv_iload_n hE.1 hE.2.1 dX5_tasteFor_64 rfl (lv_at hl 0 rfl) ?_
            refine lv_aload_n hE.1 hE.2.1 dX5_tasteFor_65 rfl (lv_at hl 4 rfl) ?_
            refine x_get (x := .ref (ad 12)) hE hK hP 3 (Nat.lt_of_lt_of_le (by decide) hNN) (xG_1 rfl) rfl hin1 19 (by decide) mw_245 rfl dX5_tasteFor_66 ?_
            refine lv_iload_n hE.1 hE.2.1 dX5_tasteFor_69 rfl (lv_at hl 5 rfl) ?_
            refine x_iald (j := iI (z_1)) hE hK hP 12 (Nat.lt_of_lt_of_le (by decide) hNN) (xG_10 rfl) (iI_in (n := 8) (by omega)) dX5_tasteFor_70 ?_
            obtain ⟨z17, hz17, ez17⟩ := iI_of (ar 12 (iI (z_1)).toNatClampNeg)
            refine x_top ez17 ?_
            refine lv_iload hE.1 hE.2.1 dX5_tasteFor_71 (lv_at hl 1 rfl) ?_
            refine lv_ishr hE.1 hE.2.1 dX5_tasteFor_73 ?_
            obtain ⟨z18, hz18, ez18⟩ := iI_of (iI (z17) >>> (iI (z13) &&& 31))
            refine x_top ez18 ?_
            refine lv_iconst (v := iI (1)) hE.1 hE.2.1 dX5_tasteFor_74 (by decide) ?_
            refine lv_iand hE.1 hE.2.1 dX5_tasteFor_75 ?_
            obtain ⟨z19, hz19, ez19⟩ := iI_and (iI (z18)) (iI (1)) 1 (by decide)
            refine x_top ez19 ?_
            refine s_if_eq (a := z19) (tgt := 88) hE.1 hE.2.1 (by omega) dX5_tasteFor_76 (by decide) (fun c20 => ?_) (fun c20 => ?_)
            · skip
              refine lv_iconst (v := iI (0)) hE.1 hE.2.1 dX5_tasteFor_88 (by decide) ?_
              refine lv_iadd hE.1 hE.2.1 dX5_tasteFor_89 ?_
              refine x_top (y := iI (z15)) ((iI_add (z15) (0)).trans (congrArg iI (by omega))) ?_
              refine lv_istore_n (lv' := [(3, .int (iI (z15))), (5, .int (iI (z13))), (4, .int (iI (y3_4))), (0, .ref (ad 67)), (1, .ref (ad 3)), (2, .int (iI (z_1)))]) hE.1 hE.2.1 dX5_tasteFor_90 rfl hl (by decide) rfl (fun ls hl => ?_)
              refine lv_iinc (v := iI (y3_4 + 1)) (lv' := [(4, .int (iI (y3_4 + 1))), (3, .int (iI (z15))), (5, .int (iI (z13))), (0, .ref (ad 67)), (1, .ref (ad 3)), (2, .int (iI (z_1)))]) hE.1 hE.2.1 dX5_tasteFor_91 hl (k := 2) rfl ((iI_add (y3_4) (1)).trans (congrArg iI (by omega))) (by decide) rfl (fun ls hl => ?_)
              refine lv_goto (tgt := 15) hE.1 hE.2.1 dX5_tasteFor_94 (by decide) ?_
              exact ih3 _ (by omega) (y3_4 + 1) (z15) _ rfl (by omega) (by omega) (lv_sub hl [0, 1, 3, 4, 5] rfl)
            · skip
              refine lv_aload_n hE.1 hE.2.1 dX5_tasteFor_79 rfl (lv_at hl 4 rfl) ?_
              refine x_get (x := .ref (ad 11)) hE hK hP 3 (Nat.lt_of_lt_of_le (by decide) hNN) (xG_1 rfl) rfl hin1 18 (by decide) mw_242 rfl dX5_tasteFor_80 ?_
              refine lv_iload_n hE.1 hE.2.1 dX5_tasteFor_83 rfl (lv_at hl 5 rfl) ?_
              refine x_iald (j := iI (z_1)) hE hK hP 11 (Nat.lt_of_lt_of_le (by decide) hNN) (xG_10 rfl) (iI_in (n := 8) (by omega)) dX5_tasteFor_84 ?_
              obtain ⟨z22, hz22, ez22⟩ := iI_of (ar 11 (iI (z_1)).toNatClampNeg)
              refine x_top ez22 ?_
              refine lv_goto (tgt := 89) hE.1 hE.2.1 dX5_tasteFor_85 (by decide) ?_
              refine lv_iadd hE.1 hE.2.1 dX5_tasteFor_89 ?_
              obtain ⟨z23, hz23, ez23⟩ := iI_of (iI (z15) + iI (z22))
              refine x_top ez23 ?_
              refine lv_istore_n (lv' := [(3, .int (iI (z23))), (5, .int (iI (z13))), (4, .int (iI (y3_4))), (0, .ref (ad 67)), (1, .ref (ad 3)), (2, .int (iI (z_1)))]) hE.1 hE.2.1 dX5_tasteFor_90 rfl hl (by decide) rfl (fun ls hl => ?_)
              refine lv_iinc (v := iI (y3_4 + 1)) (lv' := [(4, .int (iI (y3_4 + 1))), (3, .int (iI (z23))), (5, .int (iI (z13))), (0, .ref (ad 67)), (1, .ref (ad 3)), (2, .int (iI (z_1)))]) hE.1 hE.2.1 dX5_tasteFor_91 hl (k := 2) rfl ((iI_add (y3_4) (1)).trans (congrArg iI (by omega))) (by decide) rfl (fun ls hl => ?_)
              refine lv_goto (tgt := 15) hE.1 hE.2.1 dX5_tasteFor_94 (by decide) ?_
              exact ih3 _ (by omega) (y3_4 + 1) (z23) _ rfl (by omega) (by omega) (lv_sub hl [0, 1, 3, 4, 5] rfl)
    exact loop3 _ (0) (0) _ rfl (by omega) (by omega) hl
  · skip
    refine lv_iconst (v := iI (0)) hE.1 hE.2.1 dX5_tasteFor_8 (by decide) ?_
    exact kr _ _ _ rfl ⟨0, by omega, rfl⟩ dX5_tasteFor_9

set_option maxHeartbeats 4000000 in
set_option maxRecDepth 100000 in
theorem s_X5_isOfMotifs_69_3 (l : Launch) (D : va_G) (K : Nat → ClassId) (ad : Nat → Nat) (mm : Option Nat) (N : Nat) (hNN : 132 ≤ N) (v ar : sI) (al : sL) (hI : XI v) : Met l yX5_isOfMotifs (wM yX5_isOfMotifs cX5_isOfMotifs 3 (some .boolean)) (rmD 1) (va_Pc [.ref (ad 69), .ref (ad 3)] (wPre D K ad (xG ad K mm) N v ar al)) (vp_Si (fun r => ∃ z : Int, (0 ≤ z ∧ z ≤ 1) ∧ r = iI z)) 0 0 (fun _ => False) := by
  refine s_metP (by decide) (Nat.le_of_ble_eq_true rfl) ?_
  intro p e s m below meth c ls args Q hE hB hl kr
  have hE : CallFix p m c cX5_isOfMotifs 3 s args tbG "TaleCourt$Row" := hE
  obtain ⟨hP, hK, hN⟩ := hB
  have hl : lv_has ls 3 [(0, .ref (ad 69)), (1, .ref (ad 3))] := hl
  refine lv_iconst (v := iI (0)) hE.1 hE.2.1 dX5_isOfMotifs_0 (by decide) ?_
  refine lv_istore_n (lv' := [(2, .int (iI (0))), (0, .ref (ad 69)), (1, .ref (ad 3))]) hE.1 hE.2.1 dX5_isOfMotifs_1 rfl hl (by decide) rfl (fun ls hl => ?_)
  have loop1 : ∀ (k1 : Nat) (y1_2 : Int) (ls : Array Slot), (60 - y1_2).toNat = k1 → (0 ≤ y1_2 ∧ y1_2 ≤ 60) → lv_has ls 3 [(2, .int (iI (y1_2))), (0, .ref (ad 69)), (1, .ref (ad 3))] → W p l e (rmD 1) s m args below meth c s.heap [] 0 0 Q (F0 m 2 ls []) := by
    intro k1
    induction k1 using Nat.strongRecOn with
    | _ k1 ih1 =>
      intro y1_2 ls hk1 hb_y1_2 hl
      refine lv_iload_n hE.1 hE.2.1 dX5_isOfMotifs_2 rfl (lv_at hl 0 rfl) ?_
      refine lv_aload_n hE.1 hE.2.1 dX5_isOfMotifs_3 rfl (lv_at hl 1 rfl) ?_
      obtain ⟨z2, hz2, ez2⟩ := XI_get hI 69 2 (-1) 60 (by decide)
      refine x_get (x := .int (v 69 2)) hE hK hP 69 (Nat.lt_of_lt_of_le (by decide) hNN) (xG_5 rfl) rfl hin5 2 (by decide) mw_449 rfl dX5_isOfMotifs_4 ?_
      refine x_top (y := iI (z2)) ez2 ?_
      refine s_icmp_ge (a := y1_2) (b := z2) (tgt := 37) hE.1 hE.2.1 (by omega) (by omega) dX5_isOfMotifs_7 (by decide) (fun c3 => ?_) (fun c3 => ?_)
      · skip
        refine lv_iconst (v := iI (1)) hE.1 hE.2.1 dX5_isOfMotifs_37 (by decide) ?_
        exact kr _ _ _ (nar01 (by omega)) ⟨1, by omega, rfl⟩ dX5_isOfMotifs_38
      · skip
        refine lv_iload_n hE.1 hE.2.1 dX5_isOfMotifs_10 rfl (lv_at hl 0 rfl) ?_
        refine lv_bipush (v := iI (60)) hE.1 hE.2.1 dX5_isOfMotifs_11 (by decide) ?_
        refine s_icmp_ge (a := y1_2) (b := 60) (tgt := 37) hE.1 hE.2.1 (by omega) (by omega) dX5_isOfMotifs_13 (by decide) (fun c4 => False.elim (by omega)) (fun _ => ?_)
        refine lv_aload_n hE.1 hE.2.1 dX5_isOfMotifs_16 rfl (lv_at hl 2 rfl) ?_
        refine lv_aload_n hE.1 hE.2.1 dX5_isOfMotifs_17 rfl (lv_at hl 1 rfl) ?_
        refine x_get (x := .ref (ad 70)) hE hK hP 69 (Nat.lt_of_lt_of_le (by decide) hNN) (xG_5 rfl) rfl hin5 0 (by decide) mw_445 rfl dX5_isOfMotifs_18 ?_
        refine lv_iload_n hE.1 hE.2.1 dX5_isOfMotifs_21 rfl (lv_at hl 0 rfl) ?_
        refine x_lald (j := iI (y1_2)) hE hK hP 70 (Nat.lt_of_lt_of_le (by decide) hNN) (xG_11 rfl) (iI_in (n := 60) (by omega)) dX5_isOfMotifs_22 ?_
        obtain ⟨z6, hz6, ez6⟩ := lI_of (al 70 (iI (y1_2)).toNatClampNeg)
        refine x_topl ez6 ?_
        refine x_vp (nn := 1) (As := [.long (lI (z6))]) (rest := []) hE (s_X1_hasNumber_3 l D K ad mm N hNN v ar al hI  (z6) (by omega)) wPre_blind (wPre_now hK hN hP) (x_recv hK hP 3 (Nat.lt_of_lt_of_le (by decide) hNN) (xG_1 rfl) rfl) rfl mw_1239 mw_1147 mw_1148 mw_116 mw_1149 (by decide +kernel) ⟨by decide, by decide⟩ hl.1 rfl (Nat.le_of_ble_eq_true rfl) ⟨Nat.zero_le _, Nat.zero_le _⟩ dX5_isOfMotifs_23 (fun r7 hr7 => ?_)
        obtain ⟨z7, hz7, rfl⟩ := hr7
        refine s_if_ne (a := z7) (tgt := 31) hE.1 hE.2.1 (by omega) dX5_isOfMotifs_26 (by decide) (fun c8 => ?_) (fun c8 => ?_)
        · skip
          refine lv_iinc (v := iI (y1_2 + 1)) (lv' := [(2, .int (iI (y1_2 + 1))), (0, .ref (ad 69)), (1, .ref (ad 3))]) hE.1 hE.2.1 dX5_isOfMotifs_31 hl (k := 0) rfl ((iI_add (y1_2) (1)).trans (congrArg iI (by omega))) (by decide) rfl (fun ls hl => ?_)
          refine lv_goto (tgt := 2) hE.1 hE.2.1 dX5_isOfMotifs_34 (by decide) ?_
          exact ih1 _ (by omega) (y1_2 + 1) _ rfl (by omega) (lv_sub hl [0, 1, 2] rfl)
        · skip
          refine lv_iconst (v := iI (0)) hE.1 hE.2.1 dX5_isOfMotifs_29 (by decide) ?_
          exact kr _ _ _ (nar01 (by omega)) ⟨0, by omega, rfl⟩ dX5_isOfMotifs_30
  exact loop1 _ (0) _ rfl (by omega) hl

set_option maxHeartbeats 4000000 in
set_option maxRecDepth 100000 in
theorem s_X5_tasteFor_69_3 (l : Launch) (D : va_G) (K : Nat → ClassId) (ad : Nat → Nat) (mm : Option Nat) (N : Nat) (hNN : 132 ≤ N) (v ar : sI) (al : sL) (hI : XI v) (z_1 : Int) (hz_1 : -2147483648 ≤ z_1 ∧ z_1 ≤ 2147483647) : Met l yX5_tasteFor (wM yX5_tasteFor cX5_tasteFor 6 (some .int)) (rmD 1) (va_Pc [.ref (ad 69), .ref (ad 3), .int (iI (z_1))] (wPre D K ad (xG ad K mm) N v ar al)) (vp_Si (fun r => ∃ z : Int, (-2147483648 ≤ z ∧ z ≤ 2147483647) ∧ r = iI z)) 0 0 (fun _ => False) := by
  refine s_metP (by decide) (Nat.le_of_ble_eq_true rfl) ?_
  intro p e s m below meth c ls args Q hE hB hl kr
  have hE : CallFix p m c cX5_tasteFor 6 s args tbG "TaleCourt$Row" := hE
  obtain ⟨hP, hK, hN⟩ := hB
  have hl : lv_has ls 6 [(0, .ref (ad 69)), (1, .ref (ad 3)), (2, .int (iI (z_1)))] := hl
  refine lv_aload_n hE.1 hE.2.1 dX5_tasteFor_0 rfl (lv_at hl 1 rfl) ?_
  refine lv_iload_n hE.1 hE.2.1 dX5_tasteFor_1 rfl (lv_at hl 2 rfl) ?_
  refine x_vp (nn := 1) (As := [.int (iI (z_1))]) (rest := []) hE (s_X1_hasListener_3 l D K ad mm N hNN v ar al hI  (z_1) (by omega)) wPre_blind (wPre_now hK hN hP) (x_recv hK hP 3 (Nat.lt_of_lt_of_le (by decide) hNN) (xG_1 rfl) rfl) rfl mw_1244 mw_1245 mw_1246 mw_116 mw_1247 (by decide +kernel) ⟨by decide, by decide⟩ hl.1 rfl (Nat.le_of_ble_eq_true rfl) ⟨Nat.zero_le _, Nat.zero_le _⟩ dX5_tasteFor_2 (fun r1 hr1 => ?_)
  obtain ⟨z1, hz1, rfl⟩ := hr1
  refine s_if_ne (a := z1) (tgt := 10) hE.1 hE.2.1 (by omega) dX5_tasteFor_5 (by decide) (fun c2 => ?_) (fun c2 => ?_)
  · skip
    refine lv_iconst (v := iI (0)) hE.1 hE.2.1 dX5_tasteFor_10 (by decide) ?_
    refine lv_istore_n (lv' := [(3, .int (iI (0))), (0, .ref (ad 69)), (1, .ref (ad 3)), (2, .int (iI (z_1)))]) hE.1 hE.2.1 dX5_tasteFor_11 rfl hl (by decide) rfl (fun ls hl => ?_)
    refine lv_iconst (v := iI (0)) hE.1 hE.2.1 dX5_tasteFor_12 (by decide) ?_
    refine lv_istore (lv' := [(4, .int (iI (0))), (3, .int (iI (0))), (0, .ref (ad 69)), (1, .ref (ad 3)), (2, .int (iI (z_1)))]) hE.1 hE.2.1 dX5_tasteFor_13 hl (by decide) rfl (fun ls hl => ?_)
    have loop3 : ∀ (k3 : Nat) (y3_4 : Int) (y3_3 : Int) (ls : Array Slot), (60 - y3_4).toNat = k3 → (0 ≤ y3_4 ∧ y3_4 ≤ 60) → (-2147483648 ≤ y3_3 ∧ y3_3 ≤ 2147483647) → lv_has ls 6 [(4, .int (iI (y3_4))), (3, .int (iI (y3_3))), (0, .ref (ad 69)), (1, .ref (ad 3)), (2, .int (iI (z_1)))] → W p l e (rmD 1) s m args below meth c s.heap [] 0 0 Q (F0 m 15 ls []) := by
      intro k3
      induction k3 using Nat.strongRecOn with
      | _ k3 ih3 =>
        intro y3_4 y3_3 ls hk3 hb_y3_4 hb_y3_3 hl
        refine lv_iload hE.1 hE.2.1 dX5_tasteFor_15 (lv_at hl 0 rfl) ?_
        refine lv_aload_n hE.1 hE.2.1 dX5_tasteFor_17 rfl (lv_at hl 2 rfl) ?_
        obtain ⟨z4, hz4, ez4⟩ := XI_get hI 69 2 (-1) 60 (by decide)
        refine x_get (x := .int (v 69 2)) hE hK hP 69 (Nat.lt_of_lt_of_le (by decide) hNN) (xG_5 rfl) rfl hin5 2 (by decide) mw_449 rfl dX5_tasteFor_18 ?_
        refine x_top (y := iI (z4)) ez4 ?_
        refine s_icmp_ge (a := y3_4) (b := z4) (tgt := 97) hE.1 hE.2.1 (by omega) (by omega) dX5_tasteFor_21 (by decide) (fun c5 => ?_) (fun c5 => ?_)
        · skip
          refine lv_iload_n hE.1 hE.2.1 dX5_tasteFor_97 rfl (lv_at hl 1 rfl) ?_
          exact kr _ _ _ rfl ⟨y3_3, by omega, rfl⟩ dX5_tasteFor_98
        · skip
          refine lv_iload hE.1 hE.2.1 dX5_tasteFor_24 (lv_at hl 0 rfl) ?_
          refine lv_bipush (v := iI (60)) hE.1 hE.2.1 dX5_tasteFor_26 (by decide) ?_
          refine s_icmp_ge (a := y3_4) (b := 60) (tgt := 97) hE.1 hE.2.1 (by omega) (by omega) dX5_tasteFor_28 (by decide) (fun c6 => False.elim (by omega)) (fun _ => ?_)
          refine lv_aload_n hE.1 hE.2.1 dX5_tasteFor_31 rfl (lv_at hl 3 rfl) ?_
          refine lv_aload_n hE.1 hE.2.1 dX5_tasteFor_32 rfl (lv_at hl 2 rfl) ?_
          refine x_get (x := .ref (ad 70)) hE hK hP 69 (Nat.lt_of_lt_of_le (by decide) hNN) (xG_5 rfl) rfl hin5 0 (by decide) mw_445 rfl dX5_tasteFor_33 ?_
          refine lv_iload hE.1 hE.2.1 dX5_tasteFor_36 (lv_at hl 0 rfl) ?_
          refine x_lald (j := iI (y3_4)) hE hK hP 70 (Nat.lt_of_lt_of_le (by decide) hNN) (xG_11 rfl) (iI_in (n := 60) (by omega)) dX5_tasteFor_38 ?_
          obtain ⟨z8, hz8, ez8⟩ := lI_of (al 70 (iI (y3_4)).toNatClampNeg)
          refine x_topl ez8 ?_
          refine x_vp (nn := 1) (As := [.long (lI (z8))]) (rest := []) hE (s_X1_hasNumber_3 l D K ad mm N hNN v ar al hI  (z8) (by omega)) wPre_blind (wPre_now hK hN hP) (x_recv hK hP 3 (Nat.lt_of_lt_of_le (by decide) hNN) (xG_1 rfl) rfl) rfl mw_1239 mw_1147 mw_1148 mw_116 mw_1149 (by decide +kernel) ⟨by decide, by decide⟩ hl.1 rfl (Nat.le_of_ble_eq_true rfl) ⟨Nat.zero_le _, Nat.zero_le _⟩ dX5_tasteFor_39 (fun r9 hr9 => ?_)
          obtain ⟨z9, hz9, rfl⟩ := hr9
          refine s_if_eq (a := z9) (tgt := 91) hE.1 hE.2.1 (by omega) dX5_tasteFor_42 (by decide) (fun c10 => ?_) (fun c10 => ?_)
          · skip
            refine lv_iinc (v := iI (y3_4 + 1)) (lv' := [(4, .int (iI (y3_4 + 1))), (3, .int (iI (y3_3))), (0, .ref (ad 69)), (1, .ref (ad 3)), (2, .int (iI (z_1)))]) hE.1 hE.2.1 dX5_tasteFor_91 hl (k := 0) rfl ((iI_add (y3_4) (1)).trans (congrArg iI (by omega))) (by decide) rfl (fun ls hl => ?_)
            refine lv_goto (tgt := 15) hE.1 hE.2.1 dX5_tasteFor_94 (by decide) ?_
            exact ih3 _ (by omega) (y3_4 + 1) (y3_3) _ rfl (by omega) (by omega) (lv_sub hl [0, 1, 2, 3, 4] rfl)
          · skip
            refine lv_aload_n hE.1 hE.2.1 dX5_tasteFor_45 rfl (lv_at hl 2 rfl) ?_
            refine x_get (x := .ref (ad 70)) hE hK hP 69 (Nat.lt_of_lt_of_le (by decide) hNN) (xG_5 rfl) rfl hin5 0 (by decide) mw_445 rfl dX5_tasteFor_46 ?_
            refine lv_iload hE.1 hE.2.1 dX5_tasteFor_49 (lv_at hl 0 rfl) ?_
            refine x_lald (j := iI (y3_4)) hE hK hP 70 (Nat.lt_of_lt_of_le (by decide) hNN) (xG_11 rfl) (iI_in (n := 60) (by omega)) dX5_tasteFor_51 ?_
            obtain ⟨z12, hz12, ez12⟩ := lI_of (al 70 (iI (y3_4)).toNatClampNeg)
            refine x_topl ez12 ?_
            refine lv_l2i (v := iI (z12)) hE.1 hE.2.1 dX5_tasteFor_52 (lI_l2i _) ?_
            obtain ⟨z13, hz13, ez13⟩ := iI_of (iI (z12))
            refine x_top ez13 ?_
            refine lv_istore (lv' := [(5, .int (iI (z13))), (4, .int (iI (y3_4))), (3, .int (iI (y3_3))), (0, .ref (ad 69)), (1, .ref (ad 3)), (2, .int (iI (z_1)))]) hE.1 hE.2.1 dX5_tasteFor_53 hl (by decide) rfl (fun ls hl => ?_)
            refine lv_iload_n hE.1 hE.2.1 dX5_tasteFor_55 rfl (lv_at hl 2 rfl) ?_
            refine lv_aload_n hE.1 hE.2.1 dX5_tasteFor_56 rfl (lv_at hl 4 rfl) ?_
            refine lv_iload hE.1 hE.2.1 dX5_tasteFor_57 (lv_at hl 0 rfl) ?_
            refine x_vp (nn := 1) (As := [.int (iI (z13))]) (rest := [.int (iI (y3_3))]) hE (s_X1_value_3 l D K ad mm N hNN v ar al hI  (z13) (by omega)) wPre_blind (wPre_now hK hN hP) (x_recv hK hP 3 (Nat.lt_of_lt_of_le (by decide) hNN) (xG_1 rfl) rfl) rfl mw_1248 mw_776 mw_777 mw_116 mw_778 (by decide +kernel) ⟨by decide, by decide⟩ hl.1 rfl (Nat.le_of_ble_eq_true rfl) ⟨Nat.zero_le _, Nat.zero_le _⟩ dX5_tasteFor_59 (fun r14 hr14 => ?_)
            obtain ⟨z14, hz14, rfl⟩ := hr14
            refine lv_iadd hE.1 hE.2.1 dX5_tasteFor_62 ?_
            obtain ⟨z15, hz15, ez15⟩ := iI_of (iI (y3_3) + iI (z14))
            refine x_top ez15 ?_
            refine lv_istore_n (lv' := [(3, .int (iI (z15))), (5, .int (iI (z13))), (4, .int (iI (y3_4))), (0, .ref (ad 69)), (1, .ref (ad 3)), (2, .int (iI (z_1)))]) hE.1 hE.2.1 dX5_tasteFor_63 rfl hl (by decide) rfl (fun ls hl => ?_)
            refine lv_iload_n hE.1 hE.2.1 dX5_tasteFor_64 rfl (lv_at hl 0 rfl) ?_
            refine lv_aload_n hE.1 hE.2.1 dX5_tasteFor_65 rfl (lv_at hl 4 rfl) ?_
            refine x_get (x := .ref (ad 12)) hE hK hP 3 (Nat.lt_of_lt_of_le (by decide) hNN) (xG_1 rfl) rfl hin1 19 (by decide) mw_245 rfl dX5_tasteFor_66 ?_
            refine lv_iload_n hE.1 hE.2.1 dX5_tasteFor_69 rfl (lv_at hl 5 rfl) ?_
            refine x_iald (j := iI (z_1)) hE hK hP 12 (Nat.lt_of_lt_of_le (by decide) hNN) (xG_10 rfl) (iI_in (n := 8) (by omega)) dX5_tasteFor_70 ?_
            obtain ⟨z17, hz17, ez17⟩ := iI_of (ar 12 (iI (z_1)).toNatClampNeg)
            refine x_top ez17 ?_
            refine lv_iload hE.1 hE.2.1 dX5_tasteFor_71 (lv_at hl 1 rfl) ?_
            refine lv_ishr hE.1 hE.2.1 dX5_tasteFor_73 ?_
            obtain ⟨z18, hz18, ez18⟩ := iI_of (iI (z17) >>> (iI (z13) &&& 31))
            refine x_top ez18 ?_
            refine lv_iconst (v := iI (1)) hE.1 hE.2.1 dX5_tasteFor_74 (by decide) ?_
            refine lv_iand hE.1 hE.2.1 dX5_tasteFor_75 ?_
            obtain ⟨z19, hz19, ez19⟩ := iI_and (iI (z18)) (iI (1)) 1 (by decide)
            refine x_top ez19 ?_
            refine s_if_eq (a := z19) (tgt := 88) hE.1 hE.2.1 (by omega) dX5_tasteFor_76 (by decide) (fun c20 => ?_) (fun c20 => ?_)
            · skip
              refine lv_iconst (v := iI (0)) hE.1 hE.2.1 dX5_tasteFor_88 (by decide) ?_
              refine lv_iadd hE.1 hE.2.1 dX5_tasteFor_89 ?_
              refine x_top (y := iI (z15)) ((iI_add (z15) (0)).trans (congrArg iI (by omega))) ?_
              refine lv_istore_n (lv' := [(3, .int (iI (z15))), (5, .int (iI (z13))), (4, .int (iI (y3_4))), (0, .ref (ad 69)), (1, .ref (ad 3)), (2, .int (iI (z_1)))]) hE.1 hE.2.1 dX5_tasteFor_90 rfl hl (by decide) rfl (fun ls hl => ?_)
              refine lv_iinc (v := iI (y3_4 + 1)) (lv' := [(4, .int (iI (y3_4 + 1))), (3, .int (iI (z15))), (5, .int (iI (z13))), (0, .ref (ad 69)), (1, .ref (ad 3)), (2, .int (iI (z_1)))]) hE.1 hE.2.1 dX5_tasteFor_91 hl (k := 2) rfl ((iI_add (y3_4) (1)).trans (congrArg iI (by omega))) (by decide) rfl (fun ls hl => ?_)
              refine lv_goto (tgt := 15) hE.1 hE.2.1 dX5_tasteFor_94 (by decide) ?_
              exact ih3 _ (by omega) (y3_4 + 1) (z15) _ rfl (by omega) (by omega) (lv_sub hl [0, 1, 3, 4, 5] rfl)
            · skip
              refine lv_aload_n hE.1 hE.2.1 dX5_tasteFor_79 rfl (lv_at hl 4 rfl) ?_
              refine x_get (x := .ref (ad 11)) hE hK hP 3 (Nat.lt_of_lt_of_le (by decide) hNN) (xG_1 rfl) rfl hin1 18 (by decide) mw_242 rfl dX5_tasteFor_80 ?_
              refine lv_iload_n hE.1 hE.2.1 dX5_tasteFor_83 rfl (lv_at hl 5 rfl) ?_
              refine x_iald (j := iI (z_1)) hE hK hP 11 (Nat.lt_of_lt_of_le (by decide) hNN) (xG_10 rfl) (iI_in (n := 8) (by omega)) dX5_tasteFor_84 ?_
              obtain ⟨z22, hz22, ez22⟩ := iI_of (ar 11 (iI (z_1)).toNatClampNeg)
              refine x_top ez22 ?_
              refine lv_goto (tgt := 89) hE.1 hE.2.1 dX5_tasteFor_85 (by decide) ?_
              refine lv_iadd hE.1 hE.2.1 dX5_tasteFor_89 ?_
              obtain ⟨z23, hz23, ez23⟩ := iI_of (iI (z15) + iI (z22))
              refine x_top ez23 ?_
              refine lv_istore_n (lv' := [(3, .int (iI (z23))), (5, .int (iI (z13))), (4, .int (iI (y3_4))), (0, .ref (ad 69)), (1, .ref (ad 3)), (2, .int (iI (z_1)))]) hE.1 hE.2.1 dX5_tasteFor_90 rfl hl (by decide) rfl (fun ls hl => ?_)
              refine lv_iinc (v := iI (y3_4 + 1)) (lv' := [(4, .int (iI (y3_4 + 1))), (3, .int (iI (z23))), (5, .int (iI (z13))), (0, .ref (ad 69)), (1, .ref (ad 3)), (2, .int (iI (z_1)))]) hE.1 hE.2.1 dX5_tasteFor_91 hl (k := 2) rfl ((iI_add (y3_4) (1)).trans (congrArg iI (by omega))) (by decide) rfl (fun ls hl => ?_)
              refine lv_goto (tgt := 15) hE.1 hE.2.1 dX5_tasteFor_94 (by decide) ?_
              exact ih3 _ (by omega) (y3_4 + 1) (z23) _ rfl (by omega) (by omega) (lv_sub hl [0, 1, 3, 4, 5] rfl)
    exact loop3 _ (0) (0) _ rfl (by omega) (by omega) hl
  · skip
    refine lv_iconst (v := iI (0)) hE.1 hE.2.1 dX5_tasteFor_8 (by decide) ?_
    exact kr _ _ _ rfl ⟨0, by omega, rfl⟩ dX5_tasteFor_9

set_option maxHeartbeats 4000000 in
set_option maxRecDepth 100000 in
theorem s_X5_isOfMotifs_71_3 (l : Launch) (D : va_G) (K : Nat → ClassId) (ad : Nat → Nat) (mm : Option Nat) (N : Nat) (hNN : 132 ≤ N) (v ar : sI) (al : sL) (hI : XI v) : Met l yX5_isOfMotifs (wM yX5_isOfMotifs cX5_isOfMotifs 3 (some .boolean)) (rmD 1) (va_Pc [.ref (ad 71), .ref (ad 3)] (wPre D K ad (xG ad K mm) N v ar al)) (vp_Si (fun r => ∃ z : Int, (0 ≤ z ∧ z ≤ 1) ∧ r = iI z)) 0 0 (fun _ => False) := by
  refine s_metP (by decide) (Nat.le_of_ble_eq_true rfl) ?_
  intro p e s m below meth c ls args Q hE hB hl kr
  have hE : CallFix p m c cX5_isOfMotifs 3 s args tbG "TaleCourt$Row" := hE
  obtain ⟨hP, hK, hN⟩ := hB
  have hl : lv_has ls 3 [(0, .ref (ad 71)), (1, .ref (ad 3))] := hl
  refine lv_iconst (v := iI (0)) hE.1 hE.2.1 dX5_isOfMotifs_0 (by decide) ?_
  refine lv_istore_n (lv' := [(2, .int (iI (0))), (0, .ref (ad 71)), (1, .ref (ad 3))]) hE.1 hE.2.1 dX5_isOfMotifs_1 rfl hl (by decide) rfl (fun ls hl => ?_)
  have loop1 : ∀ (k1 : Nat) (y1_2 : Int) (ls : Array Slot), (60 - y1_2).toNat = k1 → (0 ≤ y1_2 ∧ y1_2 ≤ 60) → lv_has ls 3 [(2, .int (iI (y1_2))), (0, .ref (ad 71)), (1, .ref (ad 3))] → W p l e (rmD 1) s m args below meth c s.heap [] 0 0 Q (F0 m 2 ls []) := by
    intro k1
    induction k1 using Nat.strongRecOn with
    | _ k1 ih1 =>
      intro y1_2 ls hk1 hb_y1_2 hl
      refine lv_iload_n hE.1 hE.2.1 dX5_isOfMotifs_2 rfl (lv_at hl 0 rfl) ?_
      refine lv_aload_n hE.1 hE.2.1 dX5_isOfMotifs_3 rfl (lv_at hl 1 rfl) ?_
      obtain ⟨z2, hz2, ez2⟩ := XI_get hI 71 2 (-1) 60 (by decide)
      refine x_get (x := .int (v 71 2)) hE hK hP 71 (Nat.lt_of_lt_of_le (by decide) hNN) (xG_5 rfl) rfl hin5 2 (by decide) mw_449 rfl dX5_isOfMotifs_4 ?_
      refine x_top (y := iI (z2)) ez2 ?_
      refine s_icmp_ge (a := y1_2) (b := z2) (tgt := 37) hE.1 hE.2.1 (by omega) (by omega) dX5_isOfMotifs_7 (by decide) (fun c3 => ?_) (fun c3 => ?_)
      · skip
        refine lv_iconst (v := iI (1)) hE.1 hE.2.1 dX5_isOfMotifs_37 (by decide) ?_
        exact kr _ _ _ (nar01 (by omega)) ⟨1, by omega, rfl⟩ dX5_isOfMotifs_38
      · skip
        refine lv_iload_n hE.1 hE.2.1 dX5_isOfMotifs_10 rfl (lv_at hl 0 rfl) ?_
        refine lv_bipush (v := iI (60)) hE.1 hE.2.1 dX5_isOfMotifs_11 (by decide) ?_
        refine s_icmp_ge (a := y1_2) (b := 60) (tgt := 37) hE.1 hE.2.1 (by omega) (by omega) dX5_isOfMotifs_13 (by decide) (fun c4 => False.elim (by omega)) (fun _ => ?_)
        refine lv_aload_n hE.1 hE.2.1 dX5_isOfMotifs_16 rfl (lv_at hl 2 rfl) ?_
        refine lv_aload_n hE.1 hE.2.1 dX5_isOfMotifs_17 rfl (lv_at hl 1 rfl) ?_
        refine x_get (x := .ref (ad 72)) hE hK hP 71 (Nat.lt_of_lt_of_le (by decide) hNN) (xG_5 rfl) rfl hin5 0 (by decide) mw_445 rfl dX5_isOfMotifs_18 ?_
        refine lv_iload_n hE.1 hE.2.1 dX5_isOfMotifs_21 rfl (lv_at hl 0 rfl) ?_
        refine x_lald (j := iI (y1_2)) hE hK hP 72 (Nat.lt_of_lt_of_le (by decide) hNN) (xG_11 rfl) (iI_in (n := 60) (by omega)) dX5_isOfMotifs_22 ?_
        obtain ⟨z6, hz6, ez6⟩ := lI_of (al 72 (iI (y1_2)).toNatClampNeg)
        refine x_topl ez6 ?_
        refine x_vp (nn := 1) (As := [.long (lI (z6))]) (rest := []) hE (s_X1_hasNumber_3 l D K ad mm N hNN v ar al hI  (z6) (by omega)) wPre_blind (wPre_now hK hN hP) (x_recv hK hP 3 (Nat.lt_of_lt_of_le (by decide) hNN) (xG_1 rfl) rfl) rfl mw_1239 mw_1147 mw_1148 mw_116 mw_1149 (by decide +kernel) ⟨by decide, by decide⟩ hl.1 rfl (Nat.le_of_ble_eq_true rfl) ⟨Nat.zero_le _, Nat.zero_le _⟩ dX5_isOfMotifs_23 (fun r7 hr7 => ?_)
        obtain ⟨z7, hz7, rfl⟩ := hr7
        refine s_if_ne (a := z7) (tgt := 31) hE.1 hE.2.1 (by omega) dX5_isOfMotifs_26 (by decide) (fun c8 => ?_) (fun c8 => ?_)
        · skip
          refine lv_iinc (v := iI (y1_2 + 1)) (lv' := [(2, .int (iI (y1_2 + 1))), (0, .ref (ad 71)), (1, .ref (ad 3))]) hE.1 hE.2.1 dX5_isOfMotifs_31 hl (k := 0) rfl ((iI_add (y1_2) (1)).trans (congrArg iI (by omega))) (by decide) rfl (fun ls hl => ?_)
          refine lv_goto (tgt := 2) hE.1 hE.2.1 dX5_isOfMotifs_34 (by decide) ?_
          exact ih1 _ (by omega) (y1_2 + 1) _ rfl (by omega) (lv_sub hl [0, 1, 2] rfl)
        · skip
          refine lv_iconst (v := iI (0)) hE.1 hE.2.1 dX5_isOfMotifs_29 (by decide) ?_
          exact kr _ _ _ (nar01 (by omega)) ⟨0, by omega, rfl⟩ dX5_isOfMotifs_30
  exact loop1 _ (0) _ rfl (by omega) hl

set_option maxHeartbeats 4000000 in
set_option maxRecDepth 100000 in
theorem s_X5_tasteFor_71_3 (l : Launch) (D : va_G) (K : Nat → ClassId) (ad : Nat → Nat) (mm : Option Nat) (N : Nat) (hNN : 132 ≤ N) (v ar : sI) (al : sL) (hI : XI v) (z_1 : Int) (hz_1 : -2147483648 ≤ z_1 ∧ z_1 ≤ 2147483647) : Met l yX5_tasteFor (wM yX5_tasteFor cX5_tasteFor 6 (some .int)) (rmD 1) (va_Pc [.ref (ad 71), .ref (ad 3), .int (iI (z_1))] (wPre D K ad (xG ad K mm) N v ar al)) (vp_Si (fun r => ∃ z : Int, (-2147483648 ≤ z ∧ z ≤ 2147483647) ∧ r = iI z)) 0 0 (fun _ => False) := by
  refine s_metP (by decide) (Nat.le_of_ble_eq_true rfl) ?_
  intro p e s m below meth c ls args Q hE hB hl kr
  have hE : CallFix p m c cX5_tasteFor 6 s args tbG "TaleCourt$Row" := hE
  obtain ⟨hP, hK, hN⟩ := hB
  have hl : lv_has ls 6 [(0, .ref (ad 71)), (1, .ref (ad 3)), (2, .int (iI (z_1)))] := hl
  refine lv_aload_n hE.1 hE.2.1 dX5_tasteFor_0 rfl (lv_at hl 1 rfl) ?_
  refine lv_iload_n hE.1 hE.2.1 dX5_tasteFor_1 rfl (lv_at hl 2 rfl) ?_
  refine x_vp (nn := 1) (As := [.int (iI (z_1))]) (rest := []) hE (s_X1_hasListener_3 l D K ad mm N hNN v ar al hI  (z_1) (by omega)) wPre_blind (wPre_now hK hN hP) (x_recv hK hP 3 (Nat.lt_of_lt_of_le (by decide) hNN) (xG_1 rfl) rfl) rfl mw_1244 mw_1245 mw_1246 mw_116 mw_1247 (by decide +kernel) ⟨by decide, by decide⟩ hl.1 rfl (Nat.le_of_ble_eq_true rfl) ⟨Nat.zero_le _, Nat.zero_le _⟩ dX5_tasteFor_2 (fun r1 hr1 => ?_)
  obtain ⟨z1, hz1, rfl⟩ := hr1
  refine s_if_ne (a := z1) (tgt := 10) hE.1 hE.2.1 (by omega) dX5_tasteFor_5 (by decide) (fun c2 => ?_) (fun c2 => ?_)
  · skip
    refine lv_iconst (v := iI (0)) hE.1 hE.2.1 dX5_tasteFor_10 (by decide) ?_
    refine lv_istore_n (lv' := [(3, .int (iI (0))), (0, .ref (ad 71)), (1, .ref (ad 3)), (2, .int (iI (z_1)))]) hE.1 hE.2.1 dX5_tasteFor_11 rfl hl (by decide) rfl (fun ls hl => ?_)
    refine lv_iconst (v := iI (0)) hE.1 hE.2.1 dX5_tasteFor_12 (by decide) ?_
    refine lv_istore (lv' := [(4, .int (iI (0))), (3, .int (iI (0))), (0, .ref (ad 71)), (1, .ref (ad 3)), (2, .int (iI (z_1)))]) hE.1 hE.2.1 dX5_tasteFor_13 hl (by decide) rfl (fun ls hl => ?_)
    have loop3 : ∀ (k3 : Nat) (y3_4 : Int) (y3_3 : Int) (ls : Array Slot), (60 - y3_4).toNat = k3 → (0 ≤ y3_4 ∧ y3_4 ≤ 60) → (-2147483648 ≤ y3_3 ∧ y3_3 ≤ 2147483647) → lv_has ls 6 [(4, .int (iI (y3_4))), (3, .int (iI (y3_3))), (0, .ref (ad 71)), (1, .ref (ad 3)), (2, .int (iI (z_1)))] → W p l e (rmD 1) s m args below meth c s.heap [] 0 0 Q (F0 m 15 ls []) := by
      intro k3
      induction k3 using Nat.strongRecOn with
      | _ k3 ih3 =>
        intro y3_4 y3_3 ls hk3 hb_y3_4 hb_y3_3 hl
        refine lv_iload hE.1 hE.2.1 dX5_tasteFor_15 (lv_at hl 0 rfl) ?_
        refine lv_aload_n hE.1 hE.2.1 dX5_tasteFor_17 rfl (lv_at hl 2 rfl) ?_
        obtain ⟨z4, hz4, ez4⟩ := XI_get hI 71 2 (-1) 60 (by decide)
        refine x_get (x := .int (v 71 2)) hE hK hP 71 (Nat.lt_of_lt_of_le (by decide) hNN) (xG_5 rfl) rfl hin5 2 (by decide) mw_449 rfl dX5_tasteFor_18 ?_
        refine x_top (y := iI (z4)) ez4 ?_
        refine s_icmp_ge (a := y3_4) (b := z4) (tgt := 97) hE.1 hE.2.1 (by omega) (by omega) dX5_tasteFor_21 (by decide) (fun c5 => ?_) (fun c5 => ?_)
        · skip
          refine lv_iload_n hE.1 hE.2.1 dX5_tasteFor_97 rfl (lv_at hl 1 rfl) ?_
          exact kr _ _ _ rfl ⟨y3_3, by omega, rfl⟩ dX5_tasteFor_98
        · skip
          refine lv_iload hE.1 hE.2.1 dX5_tasteFor_24 (lv_at hl 0 rfl) ?_
          refine lv_bipush (v := iI (60)) hE.1 hE.2.1 dX5_tasteFor_26 (by decide) ?_
          refine s_icmp_ge (a := y3_4) (b := 60) (tgt := 97) hE.1 hE.2.1 (by omega) (by omega) dX5_tasteFor_28 (by decide) (fun c6 => False.elim (by omega)) (fun _ => ?_)
          refine lv_aload_n hE.1 hE.2.1 dX5_tasteFor_31 rfl (lv_at hl 3 rfl) ?_
          refine lv_aload_n hE.1 hE.2.1 dX5_tasteFor_32 rfl (lv_at hl 2 rfl) ?_
          refine x_get (x := .ref (ad 72)) hE hK hP 71 (Nat.lt_of_lt_of_le (by decide) hNN) (xG_5 rfl) rfl hin5 0 (by decide) mw_445 rfl dX5_tasteFor_33 ?_
          refine lv_iload hE.1 hE.2.1 dX5_tasteFor_36 (lv_at hl 0 rfl) ?_
          refine x_lald (j := iI (y3_4)) hE hK hP 72 (Nat.lt_of_lt_of_le (by decide) hNN) (xG_11 rfl) (iI_in (n := 60) (by omega)) dX5_tasteFor_38 ?_
          obtain ⟨z8, hz8, ez8⟩ := lI_of (al 72 (iI (y3_4)).toNatClampNeg)
          refine x_topl ez8 ?_
          refine x_vp (nn := 1) (As := [.long (lI (z8))]) (rest := []) hE (s_X1_hasNumber_3 l D K ad mm N hNN v ar al hI  (z8) (by omega)) wPre_blind (wPre_now hK hN hP) (x_recv hK hP 3 (Nat.lt_of_lt_of_le (by decide) hNN) (xG_1 rfl) rfl) rfl mw_1239 mw_1147 mw_1148 mw_116 mw_1149 (by decide +kernel) ⟨by decide, by decide⟩ hl.1 rfl (Nat.le_of_ble_eq_true rfl) ⟨Nat.zero_le _, Nat.zero_le _⟩ dX5_tasteFor_39 (fun r9 hr9 => ?_)
          obtain ⟨z9, hz9, rfl⟩ := hr9
          refine s_if_eq (a := z9) (tgt := 91) hE.1 hE.2.1 (by omega) dX5_tasteFor_42 (by decide) (fun c10 => ?_) (fun c10 => ?_)
          · skip
            refine lv_iinc (v := iI (y3_4 + 1)) (lv' := [(4, .int (iI (y3_4 + 1))), (3, .int (iI (y3_3))), (0, .ref (ad 71)), (1, .ref (ad 3)), (2, .int (iI (z_1)))]) hE.1 hE.2.1 dX5_tasteFor_91 hl (k := 0) rfl ((iI_add (y3_4) (1)).trans (congrArg iI (by omega))) (by decide) rfl (fun ls hl => ?_)
            refine lv_goto (tgt := 15) hE.1 hE.2.1 dX5_tasteFor_94 (by decide) ?_
            exact ih3 _ (by omega) (y3_4 + 1) (y3_3) _ rfl (by omega) (by omega) (lv_sub hl [0, 1, 2, 3, 4] rfl)
          · skip
            refine lv_aload_n hE.1 hE.2.1 dX5_tasteFor_45 rfl (lv_at hl 2 rfl) ?_
            refine x_get (x := .ref (ad 72)) hE hK hP 71 (Nat.lt_of_lt_of_le (by decide) hNN) (xG_5 rfl) rfl hin5 0 (by decide) mw_445 rfl dX5_tasteFor_46 ?_
            refine lv_iload hE.1 hE.2.1 dX5_tasteFor_49 (lv_at hl 0 rfl) ?_
            refine x_lald (j := iI (y3_4)) hE hK hP 72 (Nat.lt_of_lt_of_le (by decide) hNN) (xG_11 rfl) (iI_in (n := 60) (by omega)) dX5_tasteFor_51 ?_
            obtain ⟨z12, hz12, ez12⟩ := lI_of (al 72 (iI (y3_4)).toNatClampNeg)
            refine x_topl ez12 ?_
            refine lv_l2i (v := iI (z12)) hE.1 hE.2.1 dX5_tasteFor_52 (lI_l2i _) ?_
            obtain ⟨z13, hz13, ez13⟩ := iI_of (iI (z12))
            refine x_top ez13 ?_
            refine lv_istore (lv' := [(5, .int (iI (z13))), (4, .int (iI (y3_4))), (3, .int (iI (y3_3))), (0, .ref (ad 71)), (1, .ref (ad 3)), (2, .int (iI (z_1)))]) hE.1 hE.2.1 dX5_tasteFor_53 hl (by decide) rfl (fun ls hl => ?_)
            refine lv_iload_n hE.1 hE.2.1 dX5_tasteFor_55 rfl (lv_at hl 2 rfl) ?_
            refine lv_aload_n hE.1 hE.2.1 dX5_tasteFor_56 rfl (lv_at hl 4 rfl) ?_
            refine lv_iload hE.1 hE.2.1 dX5_tasteFor_57 (lv_at hl 0 rfl) ?_
            refine x_vp (nn := 1) (As := [.int (iI (z13))]) (rest := [.int (iI (y3_3))]) hE (s_X1_value_3 l D K ad mm N hNN v ar al hI  (z13) (by omega)) wPre_blind (wPre_now hK hN hP) (x_recv hK hP 3 (Nat.lt_of_lt_of_le (by decide) hNN) (xG_1 rfl) rfl) rfl mw_1248 mw_776 mw_777 mw_116 mw_778 (by decide +kernel) ⟨by decide, by decide⟩ hl.1 rfl (Nat.le_of_ble_eq_true rfl) ⟨Nat.zero_le _, Nat.zero_le _⟩ dX5_tasteFor_59 (fun r14 hr14 => ?_)
            obtain ⟨z14, hz14, rfl⟩ := hr14
            refine lv_iadd hE.1 hE.2.1 dX5_tasteFor_62 ?_
            obtain ⟨z15, hz15, ez15⟩ := iI_of (iI (y3_3) + iI (z14))
            refine x_top ez15 ?_
            refine lv_istore_n (lv' := [(3, .int (iI (z15))), (5, .int (iI (z13))), (4, .int (iI (y3_4))), (0, .ref (ad 71)), (1, .ref (ad 3)), (2, .int (iI (z_1)))]) hE.1 hE.2.1 dX5_tasteFor_63 rfl hl (by decide) rfl (fun ls hl => ?_)
            refine lv_iload_n hE.1 hE.2.1 dX5_tasteFor_64 rfl (lv_at hl 0 rfl) ?_
            refine lv_aload_n hE.1 hE.2.1 dX5_tasteFor_65 rfl (lv_at hl 4 rfl) ?_
            refine x_get (x := .ref (ad 12)) hE hK hP 3 (Nat.lt_of_lt_of_le (by decide) hNN) (xG_1 rfl) rfl hin1 19 (by decide) mw_245 rfl dX5_tasteFor_66 ?_
            refine lv_iload_n hE.1 hE.2.1 dX5_tasteFor_69 rfl (lv_at hl 5 rfl) ?_
            refine x_iald (j := iI (z_1)) hE hK hP 12 (Nat.lt_of_lt_of_le (by decide) hNN) (xG_10 rfl) (iI_in (n := 8) (by omega)) dX5_tasteFor_70 ?_
            obtain ⟨z17, hz17, ez17⟩ := iI_of (ar 12 (iI (z_1)).toNatClampNeg)
            refine x_top ez17 ?_
            refine lv_iload hE.1 hE.2.1 dX5_tasteFor_71 (lv_at hl 1 rfl) ?_
            refine lv_ishr hE.1 hE.2.1 dX5_tasteFor_73 ?_
            obtain ⟨z18, hz18, ez18⟩ := iI_of (iI (z17) >>> (iI (z13) &&& 31))
            refine x_top ez18 ?_
            refine lv_iconst (v := iI (1)) hE.1 hE.2.1 dX5_tasteFor_74 (by decide) ?_
            refine lv_iand hE.1 hE.2.1 dX5_tasteFor_75 ?_
            obtain ⟨z19, hz19, ez19⟩ := iI_and (iI (z18)) (iI (1)) 1 (by decide)
            refine x_top ez19 ?_
            refine s_if_eq (a := z19) (tgt := 88) hE.1 hE.2.1 (by omega) dX5_tasteFor_76 (by decide) (fun c20 => ?_) (fun c20 => ?_)
            · skip
              refine lv_iconst (v := iI (0)) hE.1 hE.2.1 dX5_tasteFor_88 (by decide) ?_
              refine lv_iadd hE.1 hE.2.1 dX5_tasteFor_89 ?_
              refine x_top (y := iI (z15)) ((iI_add (z15) (0)).trans (congrArg iI (by omega))) ?_
              refine lv_istore_n (lv' := [(3, .int (iI (z15))), (5, .int (iI (z13))), (4, .int (iI (y3_4))), (0, .ref (ad 71)), (1, .ref (ad 3)), (2, .int (iI (z_1)))]) hE.1 hE.2.1 dX5_tasteFor_90 rfl hl (by decide) rfl (fun ls hl => ?_)
              refine lv_iinc (v := iI (y3_4 + 1)) (lv' := [(4, .int (iI (y3_4 + 1))), (3, .int (iI (z15))), (5, .int (iI (z13))), (0, .ref (ad 71)), (1, .ref (ad 3)), (2, .int (iI (z_1)))]) hE.1 hE.2.1 dX5_tasteFor_91 hl (k := 2) rfl ((iI_add (y3_4) (1)).trans (congrArg iI (by omega))) (by decide) rfl (fun ls hl => ?_)
              refine lv_goto (tgt := 15) hE.1 hE.2.1 dX5_tasteFor_94 (by decide) ?_
              exact ih3 _ (by omega) (y3_4 + 1) (z15) _ rfl (by omega) (by omega) (lv_sub hl [0, 1, 3, 4, 5] rfl)
            · skip
              refine lv_aload_n hE.1 hE.2.1 dX5_tasteFor_79 rfl (lv_at hl 4 rfl) ?_
              refine x_get (x := .ref (ad 11)) hE hK hP 3 (Nat.lt_of_lt_of_le (by decide) hNN) (xG_1 rfl) rfl hin1 18 (by decide) mw_242 rfl dX5_tasteFor_80 ?_
              refine lv_iload_n hE.1 hE.2.1 dX5_tasteFor_83 rfl (lv_at hl 5 rfl) ?_
              refine x_iald (j := iI (z_1)) hE hK hP 11 (Nat.lt_of_lt_of_le (by decide) hNN) (xG_10 rfl) (iI_in (n := 8) (by omega)) dX5_tasteFor_84 ?_
              obtain ⟨z22, hz22, ez22⟩ := iI_of (ar 11 (iI (z_1)).toNatClampNeg)
              refine x_top ez22 ?_
              refine lv_goto (tgt := 89) hE.1 hE.2.1 dX5_tasteFor_85 (by decide) ?_
              refine lv_iadd hE.1 hE.2.1 dX5_tasteFor_89 ?_
              obtain ⟨z23, hz23, ez23⟩ := iI_of (iI (z15) + iI (z22))
              refine x_top ez23 ?_
              refine lv_istore_n (lv' := [(3, .int (iI (z23))), (5, .int (iI (z13))), (4, .int (iI (y3_4))), (0, .ref (ad 71)), (1, .ref (ad 3)), (2, .int (iI (z_1)))]) hE.1 hE.2.1 dX5_tasteFor_90 rfl hl (by decide) rfl (fun ls hl => ?_)
              refine lv_iinc (v := iI (y3_4 + 1)) (lv' := [(4, .int (iI (y3_4 + 1))), (3, .int (iI (z23))), (5, .int (iI (z13))), (0, .ref (ad 71)), (1, .ref (ad 3)), (2, .int (iI (z_1)))]) hE.1 hE.2.1 dX5_tasteFor_91 hl (k := 2) rfl ((iI_add (y3_4) (1)).trans (congrArg iI (by omega))) (by decide) rfl (fun ls hl => ?_)
              refine lv_goto (tgt := 15) hE.1 hE.2.1 dX5_tasteFor_94 (by decide) ?_
              exact ih3 _ (by omega) (y3_4 + 1) (z23) _ rfl (by omega) (by omega) (lv_sub hl [0, 1, 3, 4, 5] rfl)
    exact loop3 _ (0) (0) _ rfl (by omega) (by omega) hl
  · skip
    refine lv_iconst (v := iI (0)) hE.1 hE.2.1 dX5_tasteFor_8 (by decide) ?_
    exact kr _ _ _ rfl ⟨0, by omega, rfl⟩ dX5_tasteFor_9

set_option maxHeartbeats 4000000 in
set_option maxRecDepth 100000 in
theorem s_X5_isOfMotifs_73_3 (l : Launch) (D : va_G) (K : Nat → ClassId) (ad : Nat → Nat) (mm : Option Nat) (N : Nat) (hNN : 132 ≤ N) (v ar : sI) (al : sL) (hI : XI v) : Met l yX5_isOfMotifs (wM yX5_isOfMotifs cX5_isOfMotifs 3 (some .boolean)) (rmD 1) (va_Pc [.ref (ad 73), .ref (ad 3)] (wPre D K ad (xG ad K mm) N v ar al)) (vp_Si (fun r => ∃ z : Int, (0 ≤ z ∧ z ≤ 1) ∧ r = iI z)) 0 0 (fun _ => False) := by
  refine s_metP (by decide) (Nat.le_of_ble_eq_true rfl) ?_
  intro p e s m below meth c ls args Q hE hB hl kr
  have hE : CallFix p m c cX5_isOfMotifs 3 s args tbG "TaleCourt$Row" := hE
  obtain ⟨hP, hK, hN⟩ := hB
  have hl : lv_has ls 3 [(0, .ref (ad 73)), (1, .ref (ad 3))] := hl
  refine lv_iconst (v := iI (0)) hE.1 hE.2.1 dX5_isOfMotifs_0 (by decide) ?_
  refine lv_istore_n (lv' := [(2, .int (iI (0))), (0, .ref (ad 73)), (1, .ref (ad 3))]) hE.1 hE.2.1 dX5_isOfMotifs_1 rfl hl (by decide) rfl (fun ls hl => ?_)
  have loop1 : ∀ (k1 : Nat) (y1_2 : Int) (ls : Array Slot), (60 - y1_2).toNat = k1 → (0 ≤ y1_2 ∧ y1_2 ≤ 60) → lv_has ls 3 [(2, .int (iI (y1_2))), (0, .ref (ad 73)), (1, .ref (ad 3))] → W p l e (rmD 1) s m args below meth c s.heap [] 0 0 Q (F0 m 2 ls []) := by
    intro k1
    induction k1 using Nat.strongRecOn with
    | _ k1 ih1 =>
      intro y1_2 ls hk1 hb_y1_2 hl
      refine lv_iload_n hE.1 hE.2.1 dX5_isOfMotifs_2 rfl (lv_at hl 0 rfl) ?_
      refine lv_aload_n hE.1 hE.2.1 dX5_isOfMotifs_3 rfl (lv_at hl 1 rfl) ?_
      obtain ⟨z2, hz2, ez2⟩ := XI_get hI 73 2 (-1) 60 (by decide)
      refine x_get (x := .int (v 73 2)) hE hK hP 73 (Nat.lt_of_lt_of_le (by decide) hNN) (xG_5 rfl) rfl hin5 2 (by decide) mw_449 rfl dX5_isOfMotifs_4 ?_
      refine x_top (y := iI (z2)) ez2 ?_
      refine s_icmp_ge (a := y1_2) (b := z2) (tgt := 37) hE.1 hE.2.1 (by omega) (by omega) dX5_isOfMotifs_7 (by decide) (fun c3 => ?_) (fun c3 => ?_)
      · skip
        refine lv_iconst (v := iI (1)) hE.1 hE.2.1 dX5_isOfMotifs_37 (by decide) ?_
        exact kr _ _ _ (nar01 (by omega)) ⟨1, by omega, rfl⟩ dX5_isOfMotifs_38
      · skip
        refine lv_iload_n hE.1 hE.2.1 dX5_isOfMotifs_10 rfl (lv_at hl 0 rfl) ?_
        refine lv_bipush (v := iI (60)) hE.1 hE.2.1 dX5_isOfMotifs_11 (by decide) ?_
        refine s_icmp_ge (a := y1_2) (b := 60) (tgt := 37) hE.1 hE.2.1 (by omega) (by omega) dX5_isOfMotifs_13 (by decide) (fun c4 => False.elim (by omega)) (fun _ => ?_)
        refine lv_aload_n hE.1 hE.2.1 dX5_isOfMotifs_16 rfl (lv_at hl 2 rfl) ?_
        refine lv_aload_n hE.1 hE.2.1 dX5_isOfMotifs_17 rfl (lv_at hl 1 rfl) ?_
        refine x_get (x := .ref (ad 74)) hE hK hP 73 (Nat.lt_of_lt_of_le (by decide) hNN) (xG_5 rfl) rfl hin5 0 (by decide) mw_445 rfl dX5_isOfMotifs_18 ?_
        refine lv_iload_n hE.1 hE.2.1 dX5_isOfMotifs_21 rfl (lv_at hl 0 rfl) ?_
        refine x_lald (j := iI (y1_2)) hE hK hP 74 (Nat.lt_of_lt_of_le (by decide) hNN) (xG_11 rfl) (iI_in (n := 60) (by omega)) dX5_isOfMotifs_22 ?_
        obtain ⟨z6, hz6, ez6⟩ := lI_of (al 74 (iI (y1_2)).toNatClampNeg)
        refine x_topl ez6 ?_
        refine x_vp (nn := 1) (As := [.long (lI (z6))]) (rest := []) hE (s_X1_hasNumber_3 l D K ad mm N hNN v ar al hI  (z6) (by omega)) wPre_blind (wPre_now hK hN hP) (x_recv hK hP 3 (Nat.lt_of_lt_of_le (by decide) hNN) (xG_1 rfl) rfl) rfl mw_1239 mw_1147 mw_1148 mw_116 mw_1149 (by decide +kernel) ⟨by decide, by decide⟩ hl.1 rfl (Nat.le_of_ble_eq_true rfl) ⟨Nat.zero_le _, Nat.zero_le _⟩ dX5_isOfMotifs_23 (fun r7 hr7 => ?_)
        obtain ⟨z7, hz7, rfl⟩ := hr7
        refine s_if_ne (a := z7) (tgt := 31) hE.1 hE.2.1 (by omega) dX5_isOfMotifs_26 (by decide) (fun c8 => ?_) (fun c8 => ?_)
        · skip
          refine lv_iinc (v := iI (y1_2 + 1)) (lv' := [(2, .int (iI (y1_2 + 1))), (0, .ref (ad 73)), (1, .ref (ad 3))]) hE.1 hE.2.1 dX5_isOfMotifs_31 hl (k := 0) rfl ((iI_add (y1_2) (1)).trans (congrArg iI (by omega))) (by decide) rfl (fun ls hl => ?_)
          refine lv_goto (tgt := 2) hE.1 hE.2.1 dX5_isOfMotifs_34 (by decide) ?_
          exact ih1 _ (by omega) (y1_2 + 1) _ rfl (by omega) (lv_sub hl [0, 1, 2] rfl)
        · skip
          refine lv_iconst (v := iI (0)) hE.1 hE.2.1 dX5_isOfMotifs_29 (by decide) ?_
          exact kr _ _ _ (nar01 (by omega)) ⟨0, by omega, rfl⟩ dX5_isOfMotifs_30
  exact loop1 _ (0) _ rfl (by omega) hl

set_option maxHeartbeats 4000000 in
set_option maxRecDepth 100000 in
theorem s_X5_tasteFor_73_3 (l : Launch) (D : va_G) (K : Nat → ClassId) (ad : Nat → Nat) (mm : Option Nat) (N : Nat) (hNN : 132 ≤ N) (v ar : sI) (al : sL) (hI : XI v) (z_1 : Int) (hz_1 : -2147483648 ≤ z_1 ∧ z_1 ≤ 2147483647) : Met l yX5_tasteFor (wM yX5_tasteFor cX5_tasteFor 6 (some .int)) (rmD 1) (va_Pc [.ref (ad 73), .ref (ad 3), .int (iI (z_1))] (wPre D K ad (xG ad K mm) N v ar al)) (vp_Si (fun r => ∃ z : Int, (-2147483648 ≤ z ∧ z ≤ 2147483647) ∧ r = iI z)) 0 0 (fun _ => False) := by
  refine s_metP (by decide) (Nat.le_of_ble_eq_true rfl) ?_
  intro p e s m below meth c ls args Q hE hB hl kr
  have hE : CallFix p m c cX5_tasteFor 6 s args tbG "TaleCourt$Row" := hE
  obtain ⟨hP, hK, hN⟩ := hB
  have hl : lv_has ls 6 [(0, .ref (ad 73)), (1, .ref (ad 3)), (2, .int (iI (z_1)))] := hl
  refine lv_aload_n hE.1 hE.2.1 dX5_tasteFor_0 rfl (lv_at hl 1 rfl) ?_
  refine lv_iload_n hE.1 hE.2.1 dX5_tasteFor_1 rfl (lv_at hl 2 rfl) ?_
  refine x_vp (nn := 1) (As := [.int (iI (z_1))]) (rest := []) hE (s_X1_hasListener_3 l D K ad mm N hNN v ar al hI  (z_1) (by omega)) wPre_blind (wPre_now hK hN hP) (x_recv hK hP 3 (Nat.lt_of_lt_of_le (by decide) hNN) (xG_1 rfl) rfl) rfl mw_1244 mw_1245 mw_1246 mw_116 mw_1247 (by decide +kernel) ⟨by decide, by decide⟩ hl.1 rfl (Nat.le_of_ble_eq_true rfl) ⟨Nat.zero_le _, Nat.zero_le _⟩ dX5_tasteFor_2 (fun r1 hr1 => ?_)
  obtain ⟨z1, hz1, rfl⟩ := hr1
  refine s_if_ne (a := z1) (tgt := 10) hE.1 hE.2.1 (by omega) dX5_tasteFor_5 (by decide) (fun c2 => ?_) (fun c2 => ?_)
  · skip
    refine lv_iconst (v := iI (0)) hE.1 hE.2.1 dX5_tasteFor_10 (by decide) ?_
    refine lv_istore_n (lv' := [(3, .int (iI (0))), (0, .ref (ad 73)), (1, .ref (ad 3)), (2, .int (iI (z_1)))]) hE.1 hE.2.1 dX5_tasteFor_11 rfl hl (by decide) rfl (fun ls hl => ?_)
    refine lv_iconst (v := iI (0)) hE.1 hE.2.1 dX5_tasteFor_12 (by decide) ?_
    refine lv_istore (lv' := [(4, .int (iI (0))), (3, .int (iI (0))), (0, .ref (ad 73)), (1, .ref (ad 3)), (2, .int (iI (z_1)))]) hE.1 hE.2.1 dX5_tasteFor_13 hl (by decide) rfl (fun ls hl => ?_)
    have loop3 : ∀ (k3 : Nat) (y3_4 : Int) (y3_3 : Int) (ls : Array Slot), (60 - y3_4).toNat = k3 → (0 ≤ y3_4 ∧ y3_4 ≤ 60) → (-2147483648 ≤ y3_3 ∧ y3_3 ≤ 2147483647) → lv_has ls 6 [(4, .int (iI (y3_4))), (3, .int (iI (y3_3))), (0, .ref (ad 73)), (1, .ref (ad 3)), (2, .int (iI (z_1)))] → W p l e (rmD 1) s m args below meth c s.heap [] 0 0 Q (F0 m 15 ls []) := by
      intro k3
      induction k3 using Nat.strongRecOn with
      | _ k3 ih3 =>
        intro y3_4 y3_3 ls hk3 hb_y3_4 hb_y3_3 hl
        refine lv_iload hE.1 hE.2.1 dX5_tasteFor_15 (lv_at hl 0 rfl) ?_
        refine lv_aload_n hE.1 hE.2.1 dX5_tasteFor_17 rfl (lv_at hl 2 rfl) ?_
        obtain ⟨z4, hz4, ez4⟩ := XI_get hI 73 2 (-1) 60 (by decide)
        refine x_get (x := .int (v 73 2)) hE hK hP 73 (Nat.lt_of_lt_of_le (by decide) hNN) (xG_5 rfl) rfl hin5 2 (by decide) mw_449 rfl dX5_tasteFor_18 ?_
        refine x_top (y := iI (z4)) ez4 ?_
        refine s_icmp_ge (a := y3_4) (b := z4) (tgt := 97) hE.1 hE.2.1 (by omega) (by omega) dX5_tasteFor_21 (by decide) (fun c5 => ?_) (fun c5 => ?_)
        · skip
          refine lv_iload_n hE.1 hE.2.1 dX5_tasteFor_97 rfl (lv_at hl 1 rfl) ?_
          exact kr _ _ _ rfl ⟨y3_3, by omega, rfl⟩ dX5_tasteFor_98
        · skip
          refine lv_iload hE.1 hE.2.1 dX5_tasteFor_24 (lv_at hl 0 rfl) ?_
          refine lv_bipush (v := iI (60)) hE.1 hE.2.1 dX5_tasteFor_26 (by decide) ?_
          refine s_icmp_ge (a := y3_4) (b := 60) (tgt := 97) hE.1 hE.2.1 (by omega) (by omega) dX5_tasteFor_28 (by decide) (fun c6 => False.elim (by omega)) (fun _ => ?_)
          refine lv_aload_n hE.1 hE.2.1 dX5_tasteFor_31 rfl (lv_at hl 3 rfl) ?_
          refine lv_aload_n hE.1 hE.2.1 dX5_tasteFor_32 rfl (lv_at hl 2 rfl) ?_
          refine x_get (x := .ref (ad 74)) hE hK hP 73 (Nat.lt_of_lt_of_le (by decide) hNN) (xG_5 rfl) rfl hin5 0 (by decide) mw_445 rfl dX5_tasteFor_33 ?_
          refine lv_iload hE.1 hE.2.1 dX5_tasteFor_36 (lv_at hl 0 rfl) ?_
          refine x_lald (j := iI (y3_4)) hE hK hP 74 (Nat.lt_of_lt_of_le (by decide) hNN) (xG_11 rfl) (iI_in (n := 60) (by omega)) dX5_tasteFor_38 ?_
          obtain ⟨z8, hz8, ez8⟩ := lI_of (al 74 (iI (y3_4)).toNatClampNeg)
          refine x_topl ez8 ?_
          refine x_vp (nn := 1) (As := [.long (lI (z8))]) (rest := []) hE (s_X1_hasNumber_3 l D K ad mm N hNN v ar al hI  (z8) (by omega)) wPre_blind (wPre_now hK hN hP) (x_recv hK hP 3 (Nat.lt_of_lt_of_le (by decide) hNN) (xG_1 rfl) rfl) rfl mw_1239 mw_1147 mw_1148 mw_116 mw_1149 (by decide +kernel) ⟨by decide, by decide⟩ hl.1 rfl (Nat.le_of_ble_eq_true rfl) ⟨Nat.zero_le _, Nat.zero_le _⟩ dX5_tasteFor_39 (fun r9 hr9 => ?_)
          obtain ⟨z9, hz9, rfl⟩ := hr9
          refine s_if_eq (a := z9) (tgt := 91) hE.1 hE.2.1 (by omega) dX5_tasteFor_42 (by decide) (fun c10 => ?_) (fun c10 => ?_)
          · skip
            refine lv_iinc (v := iI (y3_4 + 1)) (lv' := [(4, .int (iI (y3_4 + 1))), (3, .int (iI (y3_3))), (0, .ref (ad 73)), (1, .ref (ad 3)), (2, .int (iI (z_1)))]) hE.1 hE.2.1 dX5_tasteFor_91 hl (k := 0) rfl ((iI_add (y3_4) (1)).trans (congrArg iI (by omega))) (by decide) rfl (fun ls hl => ?_)
            refine lv_goto (tgt := 15) hE.1 hE.2.1 dX5_tasteFor_94 (by decide) ?_
            exact ih3 _ (by omega) (y3_4 + 1) (y3_3) _ rfl (by omega) (by omega) (lv_sub hl [0, 1, 2, 3, 4] rfl)
          · skip
            refine lv_aload_n hE.1 hE.2.1 dX5_tasteFor_45 rfl (lv_at hl 2 rfl) ?_
            refine x_get (x := .ref (ad 74)) hE hK hP 73 (Nat.lt_of_lt_of_le (by decide) hNN) (xG_5 rfl) rfl hin5 0 (by decide) mw_445 rfl dX5_tasteFor_46 ?_
            refine lv_iload hE.1 hE.2.1 dX5_tasteFor_49 (lv_at hl 0 rfl) ?_
            refine x_lald (j := iI (y3_4)) hE hK hP 74 (Nat.lt_of_lt_of_le (by decide) hNN) (xG_11 rfl) (iI_in (n := 60) (by omega)) dX5_tasteFor_51 ?_
            obtain ⟨z12, hz12, ez12⟩ := lI_of (al 74 (iI (y3_4)).toNatClampNeg)
            refine x_topl ez12 ?_
            refine lv_l2i (v := iI (z12)) hE.1 hE.2.1 dX5_tasteFor_52 (lI_l2i _) ?_
            obtain ⟨z13, hz13, ez13⟩ := iI_of (iI (z12))
            refine x_top ez13 ?_
            refine lv_istore (lv' := [(5, .int (iI (z13))), (4, .int (iI (y3_4))), (3, .int (iI (y3_3))), (0, .ref (ad 73)), (1, .ref (ad 3)), (2, .int (iI (z_1)))]) hE.1 hE.2.1 dX5_tasteFor_53 hl (by decide) rfl (fun ls hl => ?_)
            refine lv_iload_n hE.1 hE.2.1 dX5_tasteFor_55 rfl (lv_at hl 2 rfl) ?_
            refine lv_aload_n hE.1 hE.2.1 dX5_tasteFor_56 rfl (lv_at hl 4 rfl) ?_
            refine lv_iload hE.1 hE.2.1 dX5_tasteFor_57 (lv_at hl 0 rfl) ?_
            refine x_vp (nn := 1) (As := [.int (iI (z13))]) (rest := [.int (iI (y3_3))]) hE (s_X1_value_3 l D K ad mm N hNN v ar al hI  (z13) (by omega)) wPre_blind (wPre_now hK hN hP) (x_recv hK hP 3 (Nat.lt_of_lt_of_le (by decide) hNN) (xG_1 rfl) rfl) rfl mw_1248 mw_776 mw_777 mw_116 mw_778 (by decide +kernel) ⟨by decide, by decide⟩ hl.1 rfl (Nat.le_of_ble_eq_true rfl) ⟨Nat.zero_le _, Nat.zero_le _⟩ dX5_tasteFor_59 (fun r14 hr14 => ?_)
            obtain ⟨z14, hz14, rfl⟩ := hr14
            refine lv_iadd hE.1 hE.2.1 dX5_tasteFor_62 ?_
            obtain ⟨z15, hz15, ez15⟩ := iI_of (iI (y3_3) + iI (z14))
            refine x_top ez15 ?_
            refine lv_istore_n (lv' := [(3, .int (iI (z15))), (5, .int (iI (z13))), (4, .int (iI (y3_4))), (0, .ref (ad 73)), (1, .ref (ad 3)), (2, .int (iI (z_1)))]) hE.1 hE.2.1 dX5_tasteFor_63 rfl hl (by decide) rfl (fun ls hl => ?_)
            refine lv_iload_n hE.1 hE.2.1 dX5_tasteFor_64 rfl (lv_at hl 0 rfl) ?_
            refine lv_aload_n hE.1 hE.2.1 dX5_tasteFor_65 rfl (lv_at hl 4 rfl) ?_
            refine x_get (x := .ref (ad 12)) hE hK hP 3 (Nat.lt_of_lt_of_le (by decide) hNN) (xG_1 rfl) rfl hin1 19 (by decide) mw_245 rfl dX5_tasteFor_66 ?_
            refine lv_iload_n hE.1 hE.2.1 dX5_tasteFor_69 rfl (lv_at hl 5 rfl) ?_
            refine x_iald (j := iI (z_1)) hE hK hP 12 (Nat.lt_of_lt_of_le (by decide) hNN) (xG_10 rfl) (iI_in (n := 8) (by omega)) dX5_tasteFor_70 ?_
            obtain ⟨z17, hz17, ez17⟩ := iI_of (ar 12 (iI (z_1)).toNatClampNeg)
            refine x_top ez17 ?_
            refine lv_iload hE.1 hE.2.1 dX5_tasteFor_71 (lv_at hl 1 rfl) ?_
            refine lv_ishr hE.1 hE.2.1 dX5_tasteFor_73 ?_
            obtain ⟨z18, hz18, ez18⟩ := iI_of (iI (z17) >>> (iI (z13) &&& 31))
            refine x_top ez18 ?_
            refine lv_iconst (v := iI (1)) hE.1 hE.2.1 dX5_tasteFor_74 (by decide) ?_
            refine lv_iand hE.1 hE.2.1 dX5_tasteFor_75 ?_
            obtain ⟨z19, hz19, ez19⟩ := iI_and (iI (z18)) (iI (1)) 1 (by decide)
            refine x_top ez19 ?_
            refine s_if_eq (a := z19) (tgt := 88) hE.1 hE.2.1 (by omega) dX5_tasteFor_76 (by decide) (fun c20 => ?_) (fun c20 => ?_)
            · skip
              refine lv_iconst (v := iI (0)) hE.1 hE.2.1 dX5_tasteFor_88 (by decide) ?_
              refine lv_iadd hE.1 hE.2.1 dX5_tasteFor_89 ?_
              refine x_top (y := iI (z15)) ((iI_add (z15) (0)).trans (congrArg iI (by omega))) ?_
              refine lv_istore_n (lv' := [(3, .int (iI (z15))), (5, .int (iI (z13))), (4, .int (iI (y3_4))), (0, .ref (ad 73)), (1, .ref (ad 3)), (2, .int (iI (z_1)))]) hE.1 hE.2.1 dX5_tasteFor_90 rfl hl (by decide) rfl (fun ls hl => ?_)
              refine lv_iinc (v := iI (y3_4 + 1)) (lv' := [(4, .int (iI (y3_4 + 1))), (3, .int (iI (z15))), (5, .int (iI (z13))), (0, .ref (ad 73)), (1, .ref (ad 3)), (2, .int (iI (z_1)))]) hE.1 hE.2.1 dX5_tasteFor_91 hl (k := 2) rfl ((iI_add (y3_4) (1)).trans (congrArg iI (by omega))) (by decide) rfl (fun ls hl => ?_)
              refine lv_goto (tgt := 15) hE.1 hE.2.1 dX5_tasteFor_94 (by decide) ?_
              exact ih3 _ (by omega) (y3_4 + 1) (z15) _ rfl (by omega) (by omega) (lv_sub hl [0, 1, 3, 4, 5] rfl)
            · skip
              refine lv_aload_n hE.1 hE.2.1 dX5_tasteFor_79 rfl (lv_at hl 4 rfl) ?_
              refine x_get (x := .ref (ad 11)) hE hK hP 3 (Nat.lt_of_lt_of_le (by decide) hNN) (xG_1 rfl) rfl hin1 18 (by decide) mw_242 rfl dX5_tasteFor_80 ?_
              refine lv_iload_n hE.1 hE.2.1 dX5_tasteFor_83 rfl (lv_at hl 5 rfl) ?_
              refine x_iald (j := iI (z_1)) hE hK hP 11 (Nat.lt_of_lt_of_le (by decide) hNN) (xG_10 rfl) (iI_in (n := 8) (by omega)) dX5_tasteFor_84 ?_
              obtain ⟨z22, hz22, ez22⟩ := iI_of (ar 11 (iI (z_1)).toNatClampNeg)
              refine x_top ez22 ?_
              refine lv_goto (tgt := 89) hE.1 hE.2.1 dX5_tasteFor_85 (by decide) ?_
              refine lv_iadd hE.1 hE.2.1 dX5_tasteFor_89 ?_
              obtain ⟨z23, hz23, ez23⟩ := iI_of (iI (z15) + iI (z22))
              refine x_top ez23 ?_
              refine lv_istore_n (lv' := [(3, .int (iI (z23))), (5, .int (iI (z13))), (4, .int (iI (y3_4))), (0, .ref (ad 73)), (1, .ref (ad 3)), (2, .int (iI (z_1)))]) hE.1 hE.2.1 dX5_tasteFor_90 rfl hl (by decide) rfl (fun ls hl => ?_)
              refine lv_iinc (v := iI (y3_4 + 1)) (lv' := [(4, .int (iI (y3_4 + 1))), (3, .int (iI (z23))), (5, .int (iI (z13))), (0, .ref (ad 73)), (1, .ref (ad 3)), (2, .int (iI (z_1)))]) hE.1 hE.2.1 dX5_tasteFor_91 hl (k := 2) rfl ((iI_add (y3_4) (1)).trans (congrArg iI (by omega))) (by decide) rfl (fun ls hl => ?_)
              refine lv_goto (tgt := 15) hE.1 hE.2.1 dX5_tasteFor_94 (by decide) ?_
              exact ih3 _ (by omega) (y3_4 + 1) (z23) _ rfl (by omega) (by omega) (lv_sub hl [0, 1, 3, 4, 5] rfl)
    exact loop3 _ (0) (0) _ rfl (by omega) (by omega) hl
  · skip
    refine lv_iconst (v := iI (0)) hE.1 hE.2.1 dX5_tasteFor_8 (by decide) ?_
    exact kr _ _ _ rfl ⟨0, by omega, rfl⟩ dX5_tasteFor_9

theorem dX8_votes_0 : decode cX8_votes 0 = .ok (.iload_n 1, 1) := by decide +kernel
theorem dX8_votes_1 : decode cX8_votes 1 = .ok (.invokestatic 260, 3) := by decide +kernel
theorem dX8_votes_4 : decode cX8_votes 4 = .ok (.ifCond .eq 20, 3) := by decide +kernel
theorem dX8_votes_7 : decode cX8_votes 7 = .ok (.iload_n 2, 1) := by decide +kernel
theorem dX8_votes_8 : decode cX8_votes 8 = .ok (.invokestatic 260, 3) := by decide +kernel
theorem dX8_votes_11 : decode cX8_votes 11 = .ok (.ifCond .eq 13, 3) := by decide +kernel
theorem dX8_votes_14 : decode cX8_votes 14 = .ok (.aload_n 0, 1) := by decide +kernel
theorem dX8_votes_15 : decode cX8_votes 15 = .ok (.getfield 19, 3) := by decide +kernel
theorem dX8_votes_18 : decode cX8_votes 18 = .ok (.invokevirtual 157, 3) := by decide +kernel
theorem dX8_votes_21 : decode cX8_votes 21 = .ok (.ifCond .ne 6, 3) := by decide +kernel
theorem dX8_votes_24 : decode cX8_votes 24 = .ok (.bipush (-2), 2) := by decide +kernel
theorem dX8_votes_26 : decode cX8_votes 26 = .ok (.ireturn, 1) := by decide +kernel
theorem dX8_votes_27 : decode cX8_votes 27 = .ok (.aload_n 0, 1) := by decide +kernel
theorem dX8_votes_28 : decode cX8_votes 28 = .ok (.getfield 63, 3) := by decide +kernel
theorem dX8_votes_31 : decode cX8_votes 31 = .ok (.iload_n 1, 1) := by decide +kernel
theorem dX8_votes_32 : decode cX8_votes 32 = .ok (.aaload, 1) := by decide +kernel
theorem dX8_votes_33 : decode cX8_votes 33 = .ok (.astore_n 3, 1) := by decide +kernel
theorem dX8_votes_34 : decode cX8_votes 34 = .ok (.aload_n 0, 1) := by decide +kernel
theorem dX8_votes_35 : decode cX8_votes 35 = .ok (.getfield 63, 3) := by decide +kernel
theorem dX8_votes_38 : decode cX8_votes 38 = .ok (.iload_n 2, 1) := by decide +kernel
theorem dX8_votes_39 : decode cX8_votes 39 = .ok (.aaload, 1) := by decide +kernel
theorem dX8_votes_40 : decode cX8_votes 40 = .ok (.astore 4, 2) := by decide +kernel
theorem dX8_votes_42 : decode cX8_votes 42 = .ok (.aload_n 3, 1) := by decide +kernel
theorem dX8_votes_43 : decode cX8_votes 43 = .ok (.getfield 263, 3) := by decide +kernel
theorem dX8_votes_46 : decode cX8_votes 46 = .ok (.ifCond .lt 11, 3) := by decide +kernel
theorem dX8_votes_49 : decode cX8_votes 49 = .ok (.aload 4, 2) := by decide +kernel
theorem dX8_votes_51 : decode cX8_votes 51 = .ok (.getfield 263, 3) := by decide +kernel
theorem dX8_votes_54 : decode cX8_votes 54 = .ok (.ifCond .ge 6, 3) := by decide +kernel
theorem dX8_votes_57 : decode cX8_votes 57 = .ok (.bipush (-6), 2) := by decide +kernel
theorem dX8_votes_59 : decode cX8_votes 59 = .ok (.ireturn, 1) := by decide +kernel
theorem dX8_votes_60 : decode cX8_votes 60 = .ok (.aload_n 3, 1) := by decide +kernel
theorem dX8_votes_61 : decode cX8_votes 61 = .ok (.aload_n 0, 1) := by decide +kernel
theorem dX8_votes_62 : decode cX8_votes 62 = .ok (.getfield 19, 3) := by decide +kernel
theorem dX8_votes_65 : decode cX8_votes 65 = .ok (.invokevirtual 316, 3) := by decide +kernel
theorem dX8_votes_68 : decode cX8_votes 68 = .ok (.ifCond .eq 15, 3) := by decide +kernel
theorem dX8_votes_71 : decode cX8_votes 71 = .ok (.aload 4, 2) := by decide +kernel
theorem dX8_votes_73 : decode cX8_votes 73 = .ok (.aload_n 0, 1) := by decide +kernel
theorem dX8_votes_74 : decode cX8_votes 74 = .ok (.getfield 19, 3) := by decide +kernel
theorem dX8_votes_77 : decode cX8_votes 77 = .ok (.invokevirtual 316, 3) := by decide +kernel
theorem dX8_votes_80 : decode cX8_votes 80 = .ok (.ifCond .ne 6, 3) := by decide +kernel
theorem dX8_votes_83 : decode cX8_votes 83 = .ok (.bipush (-2), 2) := by decide +kernel
theorem dX8_votes_85 : decode cX8_votes 85 = .ok (.ireturn, 1) := by decide +kernel
theorem dX8_votes_86 : decode cX8_votes 86 = .ok (.iconst 0, 1) := by decide +kernel
theorem dX8_votes_87 : decode cX8_votes 87 = .ok (.istore 5, 2) := by decide +kernel
theorem dX8_votes_89 : decode cX8_votes 89 = .ok (.iconst 0, 1) := by decide +kernel
theorem dX8_votes_90 : decode cX8_votes 90 = .ok (.istore 6, 2) := by decide +kernel
theorem dX8_votes_92 : decode cX8_votes 92 = .ok (.iload 6, 2) := by decide +kernel
theorem dX8_votes_94 : decode cX8_votes 94 = .ok (.aload_n 0, 1) := by decide +kernel
theorem dX8_votes_95 : decode cX8_votes 95 = .ok (.getfield 19, 3) := by decide +kernel
theorem dX8_votes_98 : decode cX8_votes 98 = .ok (.getfield 305, 3) := by decide +kernel
theorem dX8_votes_101 : decode cX8_votes 101 = .ok (.if_icmp .ge 36, 3) := by decide +kernel
theorem dX8_votes_104 : decode cX8_votes 104 = .ok (.aload_n 3, 1) := by decide +kernel
theorem dX8_votes_105 : decode cX8_votes 105 = .ok (.aload_n 0, 1) := by decide +kernel
theorem dX8_votes_106 : decode cX8_votes 106 = .ok (.getfield 19, 3) := by decide +kernel
theorem dX8_votes_109 : decode cX8_votes 109 = .ok (.iload 6, 2) := by decide +kernel
theorem dX8_votes_111 : decode cX8_votes 111 = .ok (.invokevirtual 319, 3) := by decide +kernel
theorem dX8_votes_114 : decode cX8_votes 114 = .ok (.aload 4, 2) := by decide +kernel
theorem dX8_votes_116 : decode cX8_votes 116 = .ok (.aload_n 0, 1) := by decide +kernel
theorem dX8_votes_117 : decode cX8_votes 117 = .ok (.getfield 19, 3) := by decide +kernel
theorem dX8_votes_120 : decode cX8_votes 120 = .ok (.iload 6, 2) := by decide +kernel
theorem dX8_votes_122 : decode cX8_votes 122 = .ok (.invokevirtual 319, 3) := by decide +kernel
theorem dX8_votes_125 : decode cX8_votes 125 = .ok (.if_icmp .le 6, 3) := by decide +kernel
theorem dX8_votes_128 : decode cX8_votes 128 = .ok (.iinc 5 1, 3) := by decide +kernel
theorem dX8_votes_131 : decode cX8_votes 131 = .ok (.iinc 6 1, 3) := by decide +kernel
theorem dX8_votes_134 : decode cX8_votes 134 = .ok (.goto (-42), 3) := by decide +kernel
theorem dX8_votes_137 : decode cX8_votes 137 = .ok (.iload 5, 2) := by decide +kernel
theorem dX8_votes_139 : decode cX8_votes 139 = .ok (.ireturn, 1) := by decide +kernel
set_option maxHeartbeats 4000000 in
set_option maxRecDepth 100000 in
theorem s_X8_votes_0 (l : Launch) (D : va_G) (K : Nat → ClassId) (ad : Nat → Nat) (mm : Option Nat) (N : Nat) (hNN : 132 ≤ N) (v ar : sI) (al : sL) (hI : XI v) (z_1 : Int) (hz_1 : -2147483648 ≤ z_1 ∧ z_1 ≤ 2147483647) (z_2 : Int) (hz_2 : -2147483648 ≤ z_2 ∧ z_2 ≤ 2147483647) : Met l yX8_votes (wM yX8_votes cX8_votes 7 (some .int)) (rmD 2) (va_Pc [.ref (ad 0), .int (iI (z_1)), .int (iI (z_2))] (wPre D K ad (xG ad K mm) N v ar al)) (vp_Si (fun r => ∃ z : Int, (-2147483648 ≤ z ∧ z ≤ 2147483647) ∧ r = iI z)) 0 0 (fun _ => False) := by
  refine s_metP (by decide) (Nat.le_of_ble_eq_true rfl) ?_
  intro p e s m below meth c ls args Q hE hB hl kr
  have hE : CallFix p m c cX8_votes 7 s args tbG "TaleCourt" := hE
  obtain ⟨hP, hK, hN⟩ := hB
  have hl : lv_has ls 7 [(0, .ref (ad 0)), (1, .int (iI (z_1))), (2, .int (iI (z_2)))] := hl
  refine lv_iload_n hE.1 hE.2.1 dX8_votes_0 rfl (lv_at hl 1 rfl) ?_
  refine x_sp (nn := 1) (As := [.int (iI (z_1))]) (rest := []) hE (s_X8_isSlot l (z_1) (by omega)) tt_blind (fun _ _ _ => trivial) rfl mw_1134 mw_1135 mw_114 mw_1136 (by decide +kernel) ⟨by decide, by decide⟩ hl.1 rfl (Nat.le_of_ble_eq_true rfl) ⟨Nat.zero_le _, Nat.zero_le _⟩ dX8_votes_1 (fun r1 hr1 => ?_)
  obtain ⟨z1, hz1, rfl⟩ := hr1
  refine s_if_eq (a := z1) (tgt := 24) hE.1 hE.2.1 (by omega) dX8_votes_4 (by decide) (fun c2 => ?_) (fun c2 => ?_)
  · skip
    refine lv_bipush (v := iI (-2)) hE.1 hE.2.1 dX8_votes_24 (by decide) ?_
    exact kr _ _ _ rfl ⟨-2, by omega, rfl⟩ dX8_votes_26
  · skip
    refine lv_iload_n hE.1 hE.2.1 dX8_votes_7 rfl (lv_at hl 2 rfl) ?_
    refine x_sp (nn := 1) (As := [.int (iI (z_2))]) (rest := []) hE (s_X8_isSlot l (z_2) (by omega)) tt_blind (fun _ _ _ => trivial) rfl mw_1134 mw_1135 mw_114 mw_1136 (by decide +kernel) ⟨by decide, by decide⟩ hl.1 rfl (Nat.le_of_ble_eq_true rfl) ⟨Nat.zero_le _, Nat.zero_le _⟩ dX8_votes_8 (fun r3 hr3 => ?_)
    obtain ⟨z3, hz3, rfl⟩ := hr3
    refine s_if_eq (a := z3) (tgt := 24) hE.1 hE.2.1 (by omega) dX8_votes_11 (by decide) (fun c4 => ?_) (fun c4 => ?_)
    · skip
      refine lv_bipush (v := iI (-2)) hE.1 hE.2.1 dX8_votes_24 (by decide) ?_
      exact kr _ _ _ rfl ⟨-2, by omega, rfl⟩ dX8_votes_26
    · skip
      refine lv_aload_n hE.1 hE.2.1 dX8_votes_14 rfl (lv_at hl 0 rfl) ?_
      refine x_get (x := .ref (ad 3)) hE hK hP 0 (Nat.lt_of_lt_of_le (by decide) hNN) (xG_8 rfl) rfl hin8 1 (by decide) mw_481 rfl dX8_votes_15 ?_
      refine x_vp (nn := 0) (As := []) (rest := []) hE (s_X1_stands_3 l D K ad mm N hNN v ar al hI  ) wPre_blind (wPre_now hK hN hP) (x_recv hK hP 3 (Nat.lt_of_lt_of_le (by decide) hNN) (xG_1 rfl) rfl) rfl mw_788 mw_789 mw_790 mw_116 mw_791 (by decide +kernel) ⟨by decide, by decide⟩ hl.1 rfl (Nat.le_of_ble_eq_true rfl) ⟨Nat.zero_le _, Nat.zero_le _⟩ dX8_votes_18 (fun r5 hr5 => ?_)
      obtain ⟨z5, hz5, rfl⟩ := hr5
      refine s_if_ne (a := z5) (tgt := 27) hE.1 hE.2.1 (by omega) dX8_votes_21 (by decide) (fun c6 => ?_) (fun c6 => ?_)
      · skip
        refine lv_aload_n hE.1 hE.2.1 dX8_votes_27 rfl (lv_at hl 0 rfl) ?_
        refine x_get (x := .ref (ad 65)) hE hK hP 0 (Nat.lt_of_lt_of_le (by decide) hNN) (xG_8 rfl) rfl hin8 8 (by decide) mw_488 rfl dX8_votes_28 ?_
        refine lv_iload_n hE.1 hE.2.1 dX8_votes_31 rfl (lv_at hl 1 rfl) ?_
        rcases (show z_1 = 0 ∨ z_1 = 1 ∨ z_1 = 2 ∨ z_1 = 3 by omega) with rfl | rfl | rfl | rfl
        · skip
          refine x_aald (r := .ref (ad 67)) hE hK hP 65 4 (Nat.lt_of_lt_of_le (by decide) hNN) (xG_13 rfl) rfl (by unfold vp_in; decide) rfl dX8_votes_32 ?_
          refine lv_astore_n (lv' := [(3, .ref (ad 67)), (0, .ref (ad 0)), (1, .int (iI (0))), (2, .int (iI (z_2)))]) hE.1 hE.2.1 dX8_votes_33 rfl hl (by decide) rfl (fun ls hl => ?_)
          refine lv_aload_n hE.1 hE.2.1 dX8_votes_34 rfl (lv_at hl 1 rfl) ?_
          refine x_get (x := .ref (ad 65)) hE hK hP 0 (Nat.lt_of_lt_of_le (by decide) hNN) (xG_8 rfl) rfl hin8 8 (by decide) mw_488 rfl dX8_votes_35 ?_
          refine lv_iload_n hE.1 hE.2.1 dX8_votes_38 rfl (lv_at hl 3 rfl) ?_
          rcases (show z_2 = 0 ∨ z_2 = 1 ∨ z_2 = 2 ∨ z_2 = 3 by omega) with rfl | rfl | rfl | rfl
          · skip
            refine x_aald (r := .ref (ad 67)) hE hK hP 65 4 (Nat.lt_of_lt_of_le (by decide) hNN) (xG_13 rfl) rfl (by unfold vp_in; decide) rfl dX8_votes_39 ?_
            refine lv_astore (lv' := [(4, .ref (ad 67)), (3, .ref (ad 67)), (0, .ref (ad 0)), (1, .int (iI (0))), (2, .int (iI (0)))]) hE.1 hE.2.1 dX8_votes_40 hl (by decide) rfl (fun ls hl => ?_)
            refine lv_aload_n hE.1 hE.2.1 dX8_votes_42 rfl (lv_at hl 1 rfl) ?_
            obtain ⟨z7, hz7, ez7⟩ := XI_get hI 67 2 (-1) 60 (by decide)
            refine x_get (x := .int (v 67 2)) hE hK hP 67 (Nat.lt_of_lt_of_le (by decide) hNN) (xG_5 rfl) rfl hin5 2 (by decide) mw_451 rfl dX8_votes_43 ?_
            refine x_top (y := iI (z7)) ez7 ?_
            refine s_if_lt (a := z7) (tgt := 57) hE.1 hE.2.1 (by omega) dX8_votes_46 (by decide) (fun c8 => ?_) (fun c8 => ?_)
            · skip
              refine lv_bipush (v := iI (-6)) hE.1 hE.2.1 dX8_votes_57 (by decide) ?_
              exact kr _ _ _ rfl ⟨-6, by omega, rfl⟩ dX8_votes_59
            · skip
              refine lv_aload hE.1 hE.2.1 dX8_votes_49 (lv_at hl 0 rfl) ?_
              refine x_get (x := .int (v 67 2)) hE hK hP 67 (Nat.lt_of_lt_of_le (by decide) hNN) (xG_5 rfl) rfl hin5 2 (by decide) mw_451 rfl dX8_votes_51 ?_
              refine x_top (y := iI (z7)) ez7 ?_
              refine s_if_ge (a := z7) (tgt := 60) hE.1 hE.2.1 (by omega) dX8_votes_54 (by decide) (fun _ => ?_) (fun c9 => False.elim (by omega))
              refine lv_aload_n hE.1 hE.2.1 dX8_votes_60 rfl (lv_at hl 1 rfl) ?_
              refine lv_aload_n hE.1 hE.2.1 dX8_votes_61 rfl (lv_at hl 2 rfl) ?_
              refine x_get (x := .ref (ad 3)) hE hK hP 0 (Nat.lt_of_lt_of_le (by decide) hNN) (xG_8 rfl) rfl hin8 1 (by decide) mw_481 rfl dX8_votes_62 ?_
              refine x_vp (nn := 1) (As := [.ref (ad 3)]) (rest := []) hE (s_X5_isOfMotifs_67_3 l D K ad mm N hNN v ar al hI  ) wPre_blind (wPre_now hK hN hP) (x_recv hK hP 67 (Nat.lt_of_lt_of_le (by decide) hNN) (xG_5 rfl) rfl) rfl mw_1235 mw_1236 mw_1237 mw_121 mw_1238 (by decide +kernel) ⟨by decide, by decide⟩ hl.1 rfl (Nat.le_of_ble_eq_true rfl) ⟨Nat.zero_le _, Nat.zero_le _⟩ dX8_votes_65 (fun r10 hr10 => ?_)
              obtain ⟨z10, hz10, rfl⟩ := hr10
              refine s_if_eq (a := z10) (tgt := 83) hE.1 hE.2.1 (by omega) dX8_votes_68 (by decide) (fun c11 => ?_) (fun c11 => ?_)
              · skip
                refine lv_bipush (v := iI (-2)) hE.1 hE.2.1 dX8_votes_83 (by decide) ?_
                exact kr _ _ _ rfl ⟨-2, by omega, rfl⟩ dX8_votes_85
              · skip
                refine lv_aload hE.1 hE.2.1 dX8_votes_71 (lv_at hl 0 rfl) ?_
                refine lv_aload_n hE.1 hE.2.1 dX8_votes_73 rfl (lv_at hl 2 rfl) ?_
                refine x_get (x := .ref (ad 3)) hE hK hP 0 (Nat.lt_of_lt_of_le (by decide) hNN) (xG_8 rfl) rfl hin8 1 (by decide) mw_481 rfl dX8_votes_74 ?_
                refine x_vp (nn := 1) (As := [.ref (ad 3)]) (rest := []) hE (s_X5_isOfMotifs_67_3 l D K ad mm N hNN v ar al hI  ) wPre_blind (wPre_now hK hN hP) (x_recv hK hP 67 (Nat.lt_of_lt_of_le (by decide) hNN) (xG_5 rfl) rfl) rfl mw_1235 mw_1236 mw_1237 mw_121 mw_1238 (by decide +kernel) ⟨by decide, by decide⟩ hl.1 rfl (Nat.le_of_ble_eq_true rfl) ⟨Nat.zero_le _, Nat.zero_le _⟩ dX8_votes_77 (fun r12 hr12 => ?_)
                obtain ⟨z12, hz12, rfl⟩ := hr12
                refine s_if_ne (a := z12) (tgt := 86) hE.1 hE.2.1 (by omega) dX8_votes_80 (by decide) (fun c13 => ?_) (fun c13 => ?_)
                · skip
                  refine lv_iconst (v := iI (0)) hE.1 hE.2.1 dX8_votes_86 (by decide) ?_
                  refine lv_istore (lv' := [(5, .int (iI (0))), (4, .ref (ad 67)), (3, .ref (ad 67)), (0, .ref (ad 0)), (1, .int (iI (0))), (2, .int (iI (0)))]) hE.1 hE.2.1 dX8_votes_87 hl (by decide) rfl (fun ls hl => ?_)
                  refine lv_iconst (v := iI (0)) hE.1 hE.2.1 dX8_votes_89 (by decide) ?_
                  refine lv_istore (lv' := [(6, .int (iI (0))), (5, .int (iI (0))), (4, .ref (ad 67)), (3, .ref (ad 67)), (0, .ref (ad 0)), (1, .int (iI (0))), (2, .int (iI (0)))]) hE.1 hE.2.1 dX8_votes_90 hl (by decide) rfl (fun ls hl => ?_)
                  have loop14 : ∀ (k14 : Nat) (y14_6 : Int) (y14_5 : Int) (ls : Array Slot), (8 - y14_6).toNat = k14 → (0 ≤ y14_6 ∧ y14_6 ≤ 8) → (-2147483648 ≤ y14_5 ∧ y14_5 ≤ 2147483647) → lv_has ls 7 [(6, .int (iI (y14_6))), (5, .int (iI (y14_5))), (4, .ref (ad 67)), (3, .ref (ad 67)), (0, .ref (ad 0)), (1, .int (iI (0))), (2, .int (iI (0)))] → W p l e (rmD 2) s m args below meth c s.heap [] 0 0 Q (F0 m 92 ls []) := by
                    intro k14
                    induction k14 using Nat.strongRecOn with
                    | _ k14 ih14 =>
                      intro y14_6 y14_5 ls hk14 hb_y14_6 hb_y14_5 hl
                      refine lv_iload hE.1 hE.2.1 dX8_votes_92 (lv_at hl 0 rfl) ?_
                      refine lv_aload_n hE.1 hE.2.1 dX8_votes_94 rfl (lv_at hl 4 rfl) ?_
                      refine x_get (x := .ref (ad 3)) hE hK hP 0 (Nat.lt_of_lt_of_le (by decide) hNN) (xG_8 rfl) rfl hin8 1 (by decide) mw_481 rfl dX8_votes_95 ?_
                      obtain ⟨z15, hz15, ez15⟩ := XI_get hI 3 3 0 8 (by decide)
                      refine x_get (x := .int (v 3 3)) hE hK hP 3 (Nat.lt_of_lt_of_le (by decide) hNN) (xG_1 rfl) rfl hin1 3 (by decide) mw_193 rfl dX8_votes_98 ?_
                      refine x_top (y := iI (z15)) ez15 ?_
                      refine s_icmp_ge (a := y14_6) (b := z15) (tgt := 137) hE.1 hE.2.1 (by omega) (by omega) dX8_votes_101 (by decide) (fun c16 => ?_) (fun c16 => ?_)
                      · skip
                        refine lv_iload hE.1 hE.2.1 dX8_votes_137 (lv_at hl 1 rfl) ?_
                        exact kr _ _ _ rfl ⟨y14_5, by omega, rfl⟩ dX8_votes_139
                      · skip
                        refine lv_aload_n hE.1 hE.2.1 dX8_votes_104 rfl (lv_at hl 3 rfl) ?_
                        refine lv_aload_n hE.1 hE.2.1 dX8_votes_105 rfl (lv_at hl 4 rfl) ?_
                        refine x_get (x := .ref (ad 3)) hE hK hP 0 (Nat.lt_of_lt_of_le (by decide) hNN) (xG_8 rfl) rfl hin8 1 (by decide) mw_481 rfl dX8_votes_106 ?_
                        refine lv_iload hE.1 hE.2.1 dX8_votes_109 (lv_at hl 0 rfl) ?_
                        refine x_vp (nn := 2) (As := [.ref (ad 3), .int (iI (y14_6))]) (rest := []) hE (s_X5_tasteFor_67_3 l D K ad mm N hNN v ar al hI  (y14_6) (by omega)) wPre_blind (wPre_now hK hN hP) (x_recv hK hP 67 (Nat.lt_of_lt_of_le (by decide) hNN) (xG_5 rfl) rfl) rfl mw_1240 mw_1241 mw_1242 mw_121 mw_1243 (by decide +kernel) ⟨by decide, by decide⟩ hl.1 rfl (Nat.le_of_ble_eq_true rfl) ⟨Nat.zero_le _, Nat.zero_le _⟩ dX8_votes_111 (fun r17 hr17 => ?_)
                        obtain ⟨z17, hz17, rfl⟩ := hr17
                        refine lv_aload hE.1 hE.2.1 dX8_votes_114 (lv_at hl 2 rfl) ?_
                        refine lv_aload_n hE.1 hE.2.1 dX8_votes_116 rfl (lv_at hl 4 rfl) ?_
                        refine x_get (x := .ref (ad 3)) hE hK hP 0 (Nat.lt_of_lt_of_le (by decide) hNN) (xG_8 rfl) rfl hin8 1 (by decide) mw_481 rfl dX8_votes_117 ?_
                        refine lv_iload hE.1 hE.2.1 dX8_votes_120 (lv_at hl 0 rfl) ?_
                        refine x_vp (nn := 2) (As := [.ref (ad 3), .int (iI (y14_6))]) (rest := [.int (iI (z17))]) hE (s_X5_tasteFor_67_3 l D K ad mm N hNN v ar al hI  (y14_6) (by omega)) wPre_blind (wPre_now hK hN hP) (x_recv hK hP 67 (Nat.lt_of_lt_of_le (by decide) hNN) (xG_5 rfl) rfl) rfl mw_1240 mw_1241 mw_1242 mw_121 mw_1243 (by decide +kernel) ⟨by decide, by decide⟩ hl.1 rfl (Nat.le_of_ble_eq_true rfl) ⟨Nat.zero_le _, Nat.zero_le _⟩ dX8_votes_122 (fun r18 hr18 => ?_)
                        obtain ⟨z18, hz18, rfl⟩ := hr18
                        refine s_icmp_le (a := z17) (b := z18) (tgt := 131) hE.1 hE.2.1 (by omega) (by omega) dX8_votes_125 (by decide) (fun c19 => ?_) (fun c19 => ?_)
                        · skip
                          refine lv_iinc (v := iI (y14_6 + 1)) (lv' := [(6, .int (iI (y14_6 + 1))), (5, .int (iI (y14_5))), (4, .ref (ad 67)), (3, .ref (ad 67)), (0, .ref (ad 0)), (1, .int (iI (0))), (2, .int (iI (0)))]) hE.1 hE.2.1 dX8_votes_131 hl (k := 0) rfl ((iI_add (y14_6) (1)).trans (congrArg iI (by omega))) (by decide) rfl (fun ls hl => ?_)
                          refine lv_goto (tgt := 92) hE.1 hE.2.1 dX8_votes_134 (by decide) ?_
                          exact ih14 _ (by omega) (y14_6 + 1) (y14_5) _ rfl (by omega) (by omega) (lv_sub hl [0, 1, 2, 3, 4, 5, 6] rfl)
                        · skip
                          obtain ⟨z20, hz20, ez20⟩ := iI_of (iI (y14_5) + iI (1))
                          refine lv_iinc (v := iI (z20)) (lv' := [(5, .int (iI (z20))), (6, .int (iI (y14_6))), (4, .ref (ad 67)), (3, .ref (ad 67)), (0, .ref (ad 0)), (1, .int (iI (0))), (2, .int (iI (0)))]) hE.1 hE.2.1 dX8_votes_128 hl (k := 1) rfl ez20 (by decide) rfl (fun ls hl => ?_)
                          refine lv_iinc (v := iI (y14_6 + 1)) (lv' := [(6, .int (iI (y14_6 + 1))), (5, .int (iI (z20))), (4, .ref (ad 67)), (3, .ref (ad 67)), (0, .ref (ad 0)), (1, .int (iI (0))), (2, .int (iI (0)))]) hE.1 hE.2.1 dX8_votes_131 hl (k := 1) rfl ((iI_add (y14_6) (1)).trans (congrArg iI (by omega))) (by decide) rfl (fun ls hl => ?_)
                          refine lv_goto (tgt := 92) hE.1 hE.2.1 dX8_votes_134 (by decide) ?_
                          exact ih14 _ (by omega) (y14_6 + 1) (z20) _ rfl (by omega) (by omega) (lv_sub hl [0, 1, 2, 3, 4, 5, 6] rfl)
                  exact loop14 _ (0) (0) _ rfl (by omega) (by omega) hl
                · skip
                  refine lv_bipush (v := iI (-2)) hE.1 hE.2.1 dX8_votes_83 (by decide) ?_
                  exact kr _ _ _ rfl ⟨-2, by omega, rfl⟩ dX8_votes_85
          · skip
            refine x_aald (r := .ref (ad 69)) hE hK hP 65 4 (Nat.lt_of_lt_of_le (by decide) hNN) (xG_13 rfl) rfl (by unfold vp_in; decide) rfl dX8_votes_39 ?_
            refine lv_astore (lv' := [(4, .ref (ad 69)), (3, .ref (ad 67)), (0, .ref (ad 0)), (1, .int (iI (0))), (2, .int (iI (1)))]) hE.1 hE.2.1 dX8_votes_40 hl (by decide) rfl (fun ls hl => ?_)
            refine lv_aload_n hE.1 hE.2.1 dX8_votes_42 rfl (lv_at hl 1 rfl) ?_
            obtain ⟨z21, hz21, ez21⟩ := XI_get hI 67 2 (-1) 60 (by decide)
            refine x_get (x := .int (v 67 2)) hE hK hP 67 (Nat.lt_of_lt_of_le (by decide) hNN) (xG_5 rfl) rfl hin5 2 (by decide) mw_451 rfl dX8_votes_43 ?_
            refine x_top (y := iI (z21)) ez21 ?_
            refine s_if_lt (a := z21) (tgt := 57) hE.1 hE.2.1 (by omega) dX8_votes_46 (by decide) (fun c22 => ?_) (fun c22 => ?_)
            · skip
              refine lv_bipush (v := iI (-6)) hE.1 hE.2.1 dX8_votes_57 (by decide) ?_
              exact kr _ _ _ rfl ⟨-6, by omega, rfl⟩ dX8_votes_59
            · skip
              refine lv_aload hE.1 hE.2.1 dX8_votes_49 (lv_at hl 0 rfl) ?_
              obtain ⟨z23, hz23, ez23⟩ := XI_get hI 69 2 (-1) 60 (by decide)
              refine x_get (x := .int (v 69 2)) hE hK hP 69 (Nat.lt_of_lt_of_le (by decide) hNN) (xG_5 rfl) rfl hin5 2 (by decide) mw_451 rfl dX8_votes_51 ?_
              refine x_top (y := iI (z23)) ez23 ?_
              refine s_if_ge (a := z23) (tgt := 60) hE.1 hE.2.1 (by omega) dX8_votes_54 (by decide) (fun c24 => ?_) (fun c24 => ?_)
              · skip
                refine lv_aload_n hE.1 hE.2.1 dX8_votes_60 rfl (lv_at hl 1 rfl) ?_
                refine lv_aload_n hE.1 hE.2.1 dX8_votes_61 rfl (lv_at hl 2 rfl) ?_
                refine x_get (x := .ref (ad 3)) hE hK hP 0 (Nat.lt_of_lt_of_le (by decide) hNN) (xG_8 rfl) rfl hin8 1 (by decide) mw_481 rfl dX8_votes_62 ?_
                refine x_vp (nn := 1) (As := [.ref (ad 3)]) (rest := []) hE (s_X5_isOfMotifs_67_3 l D K ad mm N hNN v ar al hI  ) wPre_blind (wPre_now hK hN hP) (x_recv hK hP 67 (Nat.lt_of_lt_of_le (by decide) hNN) (xG_5 rfl) rfl) rfl mw_1235 mw_1236 mw_1237 mw_121 mw_1238 (by decide +kernel) ⟨by decide, by decide⟩ hl.1 rfl (Nat.le_of_ble_eq_true rfl) ⟨Nat.zero_le _, Nat.zero_le _⟩ dX8_votes_65 (fun r25 hr25 => ?_)
                obtain ⟨z25, hz25, rfl⟩ := hr25
                refine s_if_eq (a := z25) (tgt := 83) hE.1 hE.2.1 (by omega) dX8_votes_68 (by decide) (fun c26 => ?_) (fun c26 => ?_)
                · skip
                  refine lv_bipush (v := iI (-2)) hE.1 hE.2.1 dX8_votes_83 (by decide) ?_
                  exact kr _ _ _ rfl ⟨-2, by omega, rfl⟩ dX8_votes_85
                · skip
                  refine lv_aload hE.1 hE.2.1 dX8_votes_71 (lv_at hl 0 rfl) ?_
                  refine lv_aload_n hE.1 hE.2.1 dX8_votes_73 rfl (lv_at hl 2 rfl) ?_
                  refine x_get (x := .ref (ad 3)) hE hK hP 0 (Nat.lt_of_lt_of_le (by decide) hNN) (xG_8 rfl) rfl hin8 1 (by decide) mw_481 rfl dX8_votes_74 ?_
                  refine x_vp (nn := 1) (As := [.ref (ad 3)]) (rest := []) hE (s_X5_isOfMotifs_69_3 l D K ad mm N hNN v ar al hI  ) wPre_blind (wPre_now hK hN hP) (x_recv hK hP 69 (Nat.lt_of_lt_of_le (by decide) hNN) (xG_5 rfl) rfl) rfl mw_1235 mw_1236 mw_1237 mw_121 mw_1238 (by decide +kernel) ⟨by decide, by decide⟩ hl.1 rfl (Nat.le_of_ble_eq_true rfl) ⟨Nat.zero_le _, Nat.zero_le _⟩ dX8_votes_77 (fun r27 hr27 => ?_)
                  obtain ⟨z27, hz27, rfl⟩ := hr27
                  refine s_if_ne (a := z27) (tgt := 86) hE.1 hE.2.1 (by omega) dX8_votes_80 (by decide) (fun c28 => ?_) (fun c28 => ?_)
                  · skip
                    refine lv_iconst (v := iI (0)) hE.1 hE.2.1 dX8_votes_86 (by decide) ?_
                    refine lv_istore (lv' := [(5, .int (iI (0))), (4, .ref (ad 69)), (3, .ref (ad 67)), (0, .ref (ad 0)), (1, .int (iI (0))), (2, .int (iI (1)))]) hE.1 hE.2.1 dX8_votes_87 hl (by decide) rfl (fun ls hl => ?_)
                    refine lv_iconst (v := iI (0)) hE.1 hE.2.1 dX8_votes_89 (by decide) ?_
                    refine lv_istore (lv' := [(6, .int (iI (0))), (5, .int (iI (0))), (4, .ref (ad 69)), (3, .ref (ad 67)), (0, .ref (ad 0)), (1, .int (iI (0))), (2, .int (iI (1)))]) hE.1 hE.2.1 dX8_votes_90 hl (by decide) rfl (fun ls hl => ?_)
                    have loop29 : ∀ (k29 : Nat) (y29_6 : Int) (y29_5 : Int) (ls : Array Slot), (8 - y29_6).toNat = k29 → (0 ≤ y29_6 ∧ y29_6 ≤ 8) → (-2147483648 ≤ y29_5 ∧ y29_5 ≤ 2147483647) → lv_has ls 7 [(6, .int (iI (y29_6))), (5, .int (iI (y29_5))), (4, .ref (ad 69)), (3, .ref (ad 67)), (0, .ref (ad 0)), (1, .int (iI (0))), (2, .int (iI (1)))] → W p l e (rmD 2) s m args below meth c s.heap [] 0 0 Q (F0 m 92 ls []) := by
                      intro k29
                      induction k29 using Nat.strongRecOn with
                      | _ k29 ih29 =>
                        intro y29_6 y29_5 ls hk29 hb_y29_6 hb_y29_5 hl
                        refine lv_iload hE.1 hE.2.1 dX8_votes_92 (lv_at hl 0 rfl) ?_
                        refine lv_aload_n hE.1 hE.2.1 dX8_votes_94 rfl (lv_at hl 4 rfl) ?_
                        refine x_get (x := .ref (ad 3)) hE hK hP 0 (Nat.lt_of_lt_of_le (by decide) hNN) (xG_8 rfl) rfl hin8 1 (by decide) mw_481 rfl dX8_votes_95 ?_
                        obtain ⟨z30, hz30, ez30⟩ := XI_get hI 3 3 0 8 (by decide)
                        refine x_get (x := .int (v 3 3)) hE hK hP 3 (Nat.lt_of_lt_of_le (by decide) hNN) (xG_1 rfl) rfl hin1 3 (by decide) mw_193 rfl dX8_votes_98 ?_
                        refine x_top (y := iI (z30)) ez30 ?_
                        refine s_icmp_ge (a := y29_6) (b := z30) (tgt := 137) hE.1 hE.2.1 (by omega) (by omega) dX8_votes_101 (by decide) (fun c31 => ?_) (fun c31 => ?_)
                        · skip
                          refine lv_iload hE.1 hE.2.1 dX8_votes_137 (lv_at hl 1 rfl) ?_
                          exact kr _ _ _ rfl ⟨y29_5, by omega, rfl⟩ dX8_votes_139
                        · skip
                          refine lv_aload_n hE.1 hE.2.1 dX8_votes_104 rfl (lv_at hl 3 rfl) ?_
                          refine lv_aload_n hE.1 hE.2.1 dX8_votes_105 rfl (lv_at hl 4 rfl) ?_
                          refine x_get (x := .ref (ad 3)) hE hK hP 0 (Nat.lt_of_lt_of_le (by decide) hNN) (xG_8 rfl) rfl hin8 1 (by decide) mw_481 rfl dX8_votes_106 ?_
                          refine lv_iload hE.1 hE.2.1 dX8_votes_109 (lv_at hl 0 rfl) ?_
                          refine x_vp (nn := 2) (As := [.ref (ad 3), .int (iI (y29_6))]) (rest := []) hE (s_X5_tasteFor_67_3 l D K ad mm N hNN v ar al hI  (y29_6) (by omega)) wPre_blind (wPre_now hK hN hP) (x_recv hK hP 67 (Nat.lt_of_lt_of_le (by decide) hNN) (xG_5 rfl) rfl) rfl mw_1240 mw_1241 mw_1242 mw_121 mw_1243 (by decide +kernel) ⟨by decide, by decide⟩ hl.1 rfl (Nat.le_of_ble_eq_true rfl) ⟨Nat.zero_le _, Nat.zero_le _⟩ dX8_votes_111 (fun r32 hr32 => ?_)
                          obtain ⟨z32, hz32, rfl⟩ := hr32
                          refine lv_aload hE.1 hE.2.1 dX8_votes_114 (lv_at hl 2 rfl) ?_
                          refine lv_aload_n hE.1 hE.2.1 dX8_votes_116 rfl (lv_at hl 4 rfl) ?_
                          refine x_get (x := .ref (ad 3)) hE hK hP 0 (Nat.lt_of_lt_of_le (by decide) hNN) (xG_8 rfl) rfl hin8 1 (by decide) mw_481 rfl dX8_votes_117 ?_
                          refine lv_iload hE.1 hE.2.1 dX8_votes_120 (lv_at hl 0 rfl) ?_
                          refine x_vp (nn := 2) (As := [.ref (ad 3), .int (iI (y29_6))]) (rest := [.int (iI (z32))]) hE (s_X5_tasteFor_69_3 l D K ad mm N hNN v ar al hI  (y29_6) (by omega)) wPre_blind (wPre_now hK hN hP) (x_recv hK hP 69 (Nat.lt_of_lt_of_le (by decide) hNN) (xG_5 rfl) rfl) rfl mw_1240 mw_1241 mw_1242 mw_121 mw_1243 (by decide +kernel) ⟨by decide, by decide⟩ hl.1 rfl (Nat.le_of_ble_eq_true rfl) ⟨Nat.zero_le _, Nat.zero_le _⟩ dX8_votes_122 (fun r33 hr33 => ?_)
                          obtain ⟨z33, hz33, rfl⟩ := hr33
                          refine s_icmp_le (a := z32) (b := z33) (tgt := 131) hE.1 hE.2.1 (by omega) (by omega) dX8_votes_125 (by decide) (fun c34 => ?_) (fun c34 => ?_)
                          · skip
                            refine lv_iinc (v := iI (y29_6 + 1)) (lv' := [(6, .int (iI (y29_6 + 1))), (5, .int (iI (y29_5))), (4, .ref (ad 69)), (3, .ref (ad 67)), (0, .ref (ad 0)), (1, .int (iI (0))), (2, .int (iI (1)))]) hE.1 hE.2.1 dX8_votes_131 hl (k := 0) rfl ((iI_add (y29_6) (1)).trans (congrArg iI (by omega))) (by decide) rfl (fun ls hl => ?_)
                            refine lv_goto (tgt := 92) hE.1 hE.2.1 dX8_votes_134 (by decide) ?_
                            exact ih29 _ (by omega) (y29_6 + 1) (y29_5) _ rfl (by omega) (by omega) (lv_sub hl [0, 1, 2, 3, 4, 5, 6] rfl)
                          · skip
                            obtain ⟨z35, hz35, ez35⟩ := iI_of (iI (y29_5) + iI (1))
                            refine lv_iinc (v := iI (z35)) (lv' := [(5, .int (iI (z35))), (6, .int (iI (y29_6))), (4, .ref (ad 69)), (3, .ref (ad 67)), (0, .ref (ad 0)), (1, .int (iI (0))), (2, .int (iI (1)))]) hE.1 hE.2.1 dX8_votes_128 hl (k := 1) rfl ez35 (by decide) rfl (fun ls hl => ?_)
                            refine lv_iinc (v := iI (y29_6 + 1)) (lv' := [(6, .int (iI (y29_6 + 1))), (5, .int (iI (z35))), (4, .ref (ad 69)), (3, .ref (ad 67)), (0, .ref (ad 0)), (1, .int (iI (0))), (2, .int (iI (1)))]) hE.1 hE.2.1 dX8_votes_131 hl (k := 1) rfl ((iI_add (y29_6) (1)).trans (congrArg iI (by omega))) (by decide) rfl (fun ls hl => ?_)
                            refine lv_goto (tgt := 92) hE.1 hE.2.1 dX8_votes_134 (by decide) ?_
                            exact ih29 _ (by omega) (y29_6 + 1) (z35) _ rfl (by omega) (by omega) (lv_sub hl [0, 1, 2, 3, 4, 5, 6] rfl)
                    exact loop29 _ (0) (0) _ rfl (by omega) (by omega) hl
                  · skip
                    refine lv_bipush (v := iI (-2)) hE.1 hE.2.1 dX8_votes_83 (by decide) ?_
                    exact kr _ _ _ rfl ⟨-2, by omega, rfl⟩ dX8_votes_85
              · skip
                refine lv_bipush (v := iI (-6)) hE.1 hE.2.1 dX8_votes_57 (by decide) ?_
                exact kr _ _ _ rfl ⟨-6, by omega, rfl⟩ dX8_votes_59
          · skip
            refine x_aald (r := .ref (ad 71)) hE hK hP 65 4 (Nat.lt_of_lt_of_le (by decide) hNN) (xG_13 rfl) rfl (by unfold vp_in; decide) rfl dX8_votes_39 ?_
            refine lv_astore (lv' := [(4, .ref (ad 71)), (3, .ref (ad 67)), (0, .ref (ad 0)), (1, .int (iI (0))), (2, .int (iI (2)))]) hE.1 hE.2.1 dX8_votes_40 hl (by decide) rfl (fun ls hl => ?_)
            refine lv_aload_n hE.1 hE.2.1 dX8_votes_42 rfl (lv_at hl 1 rfl) ?_
            obtain ⟨z36, hz36, ez36⟩ := XI_get hI 67 2 (-1) 60 (by decide)
            refine x_get (x := .int (v 67 2)) hE hK hP 67 (Nat.lt_of_lt_of_le (by decide) hNN) (xG_5 rfl) rfl hin5 2 (by decide) mw_451 rfl dX8_votes_43 ?_
            refine x_top (y := iI (z36)) ez36 ?_
            refine s_if_lt (a := z36) (tgt := 57) hE.1 hE.2.1 (by omega) dX8_votes_46 (by decide) (fun c37 => ?_) (fun c37 => ?_)
            · skip
              refine lv_bipush (v := iI (-6)) hE.1 hE.2.1 dX8_votes_57 (by decide) ?_
              exact kr _ _ _ rfl ⟨-6, by omega, rfl⟩ dX8_votes_59
            · skip
              refine lv_aload hE.1 hE.2.1 dX8_votes_49 (lv_at hl 0 rfl) ?_
              obtain ⟨z38, hz38, ez38⟩ := XI_get hI 71 2 (-1) 60 (by decide)
              refine x_get (x := .int (v 71 2)) hE hK hP 71 (Nat.lt_of_lt_of_le (by decide) hNN) (xG_5 rfl) rfl hin5 2 (by decide) mw_451 rfl dX8_votes_51 ?_
              refine x_top (y := iI (z38)) ez38 ?_
              refine s_if_ge (a := z38) (tgt := 60) hE.1 hE.2.1 (by omega) dX8_votes_54 (by decide) (fun c39 => ?_) (fun c39 => ?_)
              · skip
                refine lv_aload_n hE.1 hE.2.1 dX8_votes_60 rfl (lv_at hl 1 rfl) ?_
                refine lv_aload_n hE.1 hE.2.1 dX8_votes_61 rfl (lv_at hl 2 rfl) ?_
                refine x_get (x := .ref (ad 3)) hE hK hP 0 (Nat.lt_of_lt_of_le (by decide) hNN) (xG_8 rfl) rfl hin8 1 (by decide) mw_481 rfl dX8_votes_62 ?_
                refine x_vp (nn := 1) (As := [.ref (ad 3)]) (rest := []) hE (s_X5_isOfMotifs_67_3 l D K ad mm N hNN v ar al hI  ) wPre_blind (wPre_now hK hN hP) (x_recv hK hP 67 (Nat.lt_of_lt_of_le (by decide) hNN) (xG_5 rfl) rfl) rfl mw_1235 mw_1236 mw_1237 mw_121 mw_1238 (by decide +kernel) ⟨by decide, by decide⟩ hl.1 rfl (Nat.le_of_ble_eq_true rfl) ⟨Nat.zero_le _, Nat.zero_le _⟩ dX8_votes_65 (fun r40 hr40 => ?_)
                obtain ⟨z40, hz40, rfl⟩ := hr40
                refine s_if_eq (a := z40) (tgt := 83) hE.1 hE.2.1 (by omega) dX8_votes_68 (by decide) (fun c41 => ?_) (fun c41 => ?_)
                · skip
                  refine lv_bipush (v := iI (-2)) hE.1 hE.2.1 dX8_votes_83 (by decide) ?_
                  exact kr _ _ _ rfl ⟨-2, by omega, rfl⟩ dX8_votes_85
                · skip
                  refine lv_aload hE.1 hE.2.1 dX8_votes_71 (lv_at hl 0 rfl) ?_
                  refine lv_aload_n hE.1 hE.2.1 dX8_votes_73 rfl (lv_at hl 2 rfl) ?_
                  refine x_get (x := .ref (ad 3)) hE hK hP 0 (Nat.lt_of_lt_of_le (by decide) hNN) (xG_8 rfl) rfl hin8 1 (by decide) mw_481 rfl dX8_votes_74 ?_
                  refine x_vp (nn := 1) (As := [.ref (ad 3)]) (rest := []) hE (s_X5_isOfMotifs_71_3 l D K ad mm N hNN v ar al hI  ) wPre_blind (wPre_now hK hN hP) (x_recv hK hP 71 (Nat.lt_of_lt_of_le (by decide) hNN) (xG_5 rfl) rfl) rfl mw_1235 mw_1236 mw_1237 mw_121 mw_1238 (by decide +kernel) ⟨by decide, by decide⟩ hl.1 rfl (Nat.le_of_ble_eq_true rfl) ⟨Nat.zero_le _, Nat.zero_le _⟩ dX8_votes_77 (fun r42 hr42 => ?_)
                  obtain ⟨z42, hz42, rfl⟩ := hr42
                  refine s_if_ne (a := z42) (tgt := 86) hE.1 hE.2.1 (by omega) dX8_votes_80 (by decide) (fun c43 => ?_) (fun c43 => ?_)
                  · skip
                    refine lv_iconst (v := iI (0)) hE.1 hE.2.1 dX8_votes_86 (by decide) ?_
                    refine lv_istore (lv' := [(5, .int (iI (0))), (4, .ref (ad 71)), (3, .ref (ad 67)), (0, .ref (ad 0)), (1, .int (iI (0))), (2, .int (iI (2)))]) hE.1 hE.2.1 dX8_votes_87 hl (by decide) rfl (fun ls hl => ?_)
                    refine lv_iconst (v := iI (0)) hE.1 hE.2.1 dX8_votes_89 (by decide) ?_
                    refine lv_istore (lv' := [(6, .int (iI (0))), (5, .int (iI (0))), (4, .ref (ad 71)), (3, .ref (ad 67)), (0, .ref (ad 0)), (1, .int (iI (0))), (2, .int (iI (2)))]) hE.1 hE.2.1 dX8_votes_90 hl (by decide) rfl (fun ls hl => ?_)
                    have loop44 : ∀ (k44 : Nat) (y44_6 : Int) (y44_5 : Int) (ls : Array Slot), (8 - y44_6).toNat = k44 → (0 ≤ y44_6 ∧ y44_6 ≤ 8) → (-2147483648 ≤ y44_5 ∧ y44_5 ≤ 2147483647) → lv_has ls 7 [(6, .int (iI (y44_6))), (5, .int (iI (y44_5))), (4, .ref (ad 71)), (3, .ref (ad 67)), (0, .ref (ad 0)), (1, .int (iI (0))), (2, .int (iI (2)))] → W p l e (rmD 2) s m args below meth c s.heap [] 0 0 Q (F0 m 92 ls []) := by
                      intro k44
                      induction k44 using Nat.strongRecOn with
                      | _ k44 ih44 =>
                        intro y44_6 y44_5 ls hk44 hb_y44_6 hb_y44_5 hl
                        refine lv_iload hE.1 hE.2.1 dX8_votes_92 (lv_at hl 0 rfl) ?_
                        refine lv_aload_n hE.1 hE.2.1 dX8_votes_94 rfl (lv_at hl 4 rfl) ?_
                        refine x_get (x := .ref (ad 3)) hE hK hP 0 (Nat.lt_of_lt_of_le (by decide) hNN) (xG_8 rfl) rfl hin8 1 (by decide) mw_481 rfl dX8_votes_95 ?_
                        obtain ⟨z45, hz45, ez45⟩ := XI_get hI 3 3 0 8 (by decide)
                        refine x_get (x := .int (v 3 3)) hE hK hP 3 (Nat.lt_of_lt_of_le (by decide) hNN) (xG_1 rfl) rfl hin1 3 (by decide) mw_193 rfl dX8_votes_98 ?_
                        refine x_top (y := iI (z45)) ez45 ?_
                        refine s_icmp_ge (a := y44_6) (b := z45) (tgt := 137) hE.1 hE.2.1 (by omega) (by omega) dX8_votes_101 (by decide) (fun c46 => ?_) (fun c46 => ?_)
                        · skip
                          refine lv_iload hE.1 hE.2.1 dX8_votes_137 (lv_at hl 1 rfl) ?_
                          exact kr _ _ _ rfl ⟨y44_5, by omega, rfl⟩ dX8_votes_139
                        · skip
                          refine lv_aload_n hE.1 hE.2.1 dX8_votes_104 rfl (lv_at hl 3 rfl) ?_
                          refine lv_aload_n hE.1 hE.2.1 dX8_votes_105 rfl (lv_at hl 4 rfl) ?_
                          refine x_get (x := .ref (ad 3)) hE hK hP 0 (Nat.lt_of_lt_of_le (by decide) hNN) (xG_8 rfl) rfl hin8 1 (by decide) mw_481 rfl dX8_votes_106 ?_
                          refine lv_iload hE.1 hE.2.1 dX8_votes_109 (lv_at hl 0 rfl) ?_
                          refine x_vp (nn := 2) (As := [.ref (ad 3), .int (iI (y44_6))]) (rest := []) hE (s_X5_tasteFor_67_3 l D K ad mm N hNN v ar al hI  (y44_6) (by omega)) wPre_blind (wPre_now hK hN hP) (x_recv hK hP 67 (Nat.lt_of_lt_of_le (by decide) hNN) (xG_5 rfl) rfl) rfl mw_1240 mw_1241 mw_1242 mw_121 mw_1243 (by decide +kernel) ⟨by decide, by decide⟩ hl.1 rfl (Nat.le_of_ble_eq_true rfl) ⟨Nat.zero_le _, Nat.zero_le _⟩ dX8_votes_111 (fun r47 hr47 => ?_)
                          obtain ⟨z47, hz47, rfl⟩ := hr47
                          refine lv_aload hE.1 hE.2.1 dX8_votes_114 (lv_at hl 2 rfl) ?_
                          refine lv_aload_n hE.1 hE.2.1 dX8_votes_116 rfl (lv_at hl 4 rfl) ?_
                          refine x_get (x := .ref (ad 3)) hE hK hP 0 (Nat.lt_of_lt_of_le (by decide) hNN) (xG_8 rfl) rfl hin8 1 (by decide) mw_481 rfl dX8_votes_117 ?_
                          refine lv_iload hE.1 hE.2.1 dX8_votes_120 (lv_at hl 0 rfl) ?_
                          refine x_vp (nn := 2) (As := [.ref (ad 3), .int (iI (y44_6))]) (rest := [.int (iI (z47))]) hE (s_X5_tasteFor_71_3 l D K ad mm N hNN v ar al hI  (y44_6) (by omega)) wPre_blind (wPre_now hK hN hP) (x_recv hK hP 71 (Nat.lt_of_lt_of_le (by decide) hNN) (xG_5 rfl) rfl) rfl mw_1240 mw_1241 mw_1242 mw_121 mw_1243 (by decide +kernel) ⟨by decide, by decide⟩ hl.1 rfl (Nat.le_of_ble_eq_true rfl) ⟨Nat.zero_le _, Nat.zero_le _⟩ dX8_votes_122 (fun r48 hr48 => ?_)
                          obtain ⟨z48, hz48, rfl⟩ := hr48
                          refine s_icmp_le (a := z47) (b := z48) (tgt := 131) hE.1 hE.2.1 (by omega) (by omega) dX8_votes_125 (by decide) (fun c49 => ?_) (fun c49 => ?_)
                          · skip
                            refine lv_iinc (v := iI (y44_6 + 1)) (lv' := [(6, .int (iI (y44_6 + 1))), (5, .int (iI (y44_5))), (4, .ref (ad 71)), (3, .ref (ad 67)), (0, .ref (ad 0)), (1, .int (iI (0))), (2, .int (iI (2)))]) hE.1 hE.2.1 dX8_votes_131 hl (k := 0) rfl ((iI_add (y44_6) (1)).trans (congrArg iI (by omega))) (by decide) rfl (fun ls hl => ?_)
                            refine lv_goto (tgt := 92) hE.1 hE.2.1 dX8_votes_134 (by decide) ?_
                            exact ih44 _ (by omega) (y44_6 + 1) (y44_5) _ rfl (by omega) (by omega) (lv_sub hl [0, 1, 2, 3, 4, 5, 6] rfl)
                          · skip
                            obtain ⟨z50, hz50, ez50⟩ := iI_of (iI (y44_5) + iI (1))
                            refine lv_iinc (v := iI (z50)) (lv' := [(5, .int (iI (z50))), (6, .int (iI (y44_6))), (4, .ref (ad 71)), (3, .ref (ad 67)), (0, .ref (ad 0)), (1, .int (iI (0))), (2, .int (iI (2)))]) hE.1 hE.2.1 dX8_votes_128 hl (k := 1) rfl ez50 (by decide) rfl (fun ls hl => ?_)
                            refine lv_iinc (v := iI (y44_6 + 1)) (lv' := [(6, .int (iI (y44_6 + 1))), (5, .int (iI (z50))), (4, .ref (ad 71)), (3, .ref (ad 67)), (0, .ref (ad 0)), (1, .int (iI (0))), (2, .int (iI (2)))]) hE.1 hE.2.1 dX8_votes_131 hl (k := 1) rfl ((iI_add (y44_6) (1)).trans (congrArg iI (by omega))) (by decide) rfl (fun ls hl => ?_)
                            refine lv_goto (tgt := 92) hE.1 hE.2.1 dX8_votes_134 (by decide) ?_
                            exact ih44 _ (by omega) (y44_6 + 1) (z50) _ rfl (by omega) (by omega) (lv_sub hl [0, 1, 2, 3, 4, 5, 6] rfl)
                    exact loop44 _ (0) (0) _ rfl (by omega) (by omega) hl
                  · skip
                    refine lv_bipush (v := iI (-2)) hE.1 hE.2.1 dX8_votes_83 (by decide) ?_
                    exact kr _ _ _ rfl ⟨-2, by omega, rfl⟩ dX8_votes_85
              · skip
                refine lv_bipush (v := iI (-6)) hE.1 hE.2.1 dX8_votes_57 (by decide) ?_
                exact kr _ _ _ rfl ⟨-6, by omega, rfl⟩ dX8_votes_59
          · skip
            refine x_aald (r := .ref (ad 73)) hE hK hP 65 4 (Nat.lt_of_lt_of_le (by decide) hNN) (xG_13 rfl) rfl (by unfold vp_in; decide) rfl dX8_votes_39 ?_
            refine lv_astore (lv' := [(4, .ref (ad 73)), (3, .ref (ad 67)), (0, .ref (ad 0)), (1, .int (iI (0))), (2, .int (iI (3)))]) hE.1 hE.2.1 dX8_votes_40 hl (by decide) rfl (fun ls hl => ?_)
            refine lv_aload_n hE.1 hE.2.1 dX8_votes_42 rfl (lv_at hl 1 rfl) ?_
            obtain ⟨z51, hz51, ez51⟩ := XI_get hI 67 2 (-1) 60 (by decide)
            refine x_get (x := .int (v 67 2)) hE hK hP 67 (Nat.lt_of_lt_of_le (by decide) hNN) (xG_5 rfl) rfl hin5 2 (by decide) mw_451 rfl dX8_votes_43 ?_
            refine x_top (y := iI (z51)) ez51 ?_
            refine s_if_lt (a := z51) (tgt := 57) hE.1 hE.2.1 (by omega) dX8_votes_46 (by decide) (fun c52 => ?_) (fun c52 => ?_)
            · skip
              refine lv_bipush (v := iI (-6)) hE.1 hE.2.1 dX8_votes_57 (by decide) ?_
              exact kr _ _ _ rfl ⟨-6, by omega, rfl⟩ dX8_votes_59
            · skip
              refine lv_aload hE.1 hE.2.1 dX8_votes_49 (lv_at hl 0 rfl) ?_
              obtain ⟨z53, hz53, ez53⟩ := XI_get hI 73 2 (-1) 60 (by decide)
              refine x_get (x := .int (v 73 2)) hE hK hP 73 (Nat.lt_of_lt_of_le (by decide) hNN) (xG_5 rfl) rfl hin5 2 (by decide) mw_451 rfl dX8_votes_51 ?_
              refine x_top (y := iI (z53)) ez53 ?_
              refine s_if_ge (a := z53) (tgt := 60) hE.1 hE.2.1 (by omega) dX8_votes_54 (by decide) (fun c54 => ?_) (fun c54 => ?_)
              · skip
                refine lv_aload_n hE.1 hE.2.1 dX8_votes_60 rfl (lv_at hl 1 rfl) ?_
                refine lv_aload_n hE.1 hE.2.1 dX8_votes_61 rfl (lv_at hl 2 rfl) ?_
                refine x_get (x := .ref (ad 3)) hE hK hP 0 (Nat.lt_of_lt_of_le (by decide) hNN) (xG_8 rfl) rfl hin8 1 (by decide) mw_481 rfl dX8_votes_62 ?_
                refine x_vp (nn := 1) (As := [.ref (ad 3)]) (rest := []) hE (s_X5_isOfMotifs_67_3 l D K ad mm N hNN v ar al hI  ) wPre_blind (wPre_now hK hN hP) (x_recv hK hP 67 (Nat.lt_of_lt_of_le (by decide) hNN) (xG_5 rfl) rfl) rfl mw_1235 mw_1236 mw_1237 mw_121 mw_1238 (by decide +kernel) ⟨by decide, by decide⟩ hl.1 rfl (Nat.le_of_ble_eq_true rfl) ⟨Nat.zero_le _, Nat.zero_le _⟩ dX8_votes_65 (fun r55 hr55 => ?_)
                obtain ⟨z55, hz55, rfl⟩ := hr55
                refine s_if_eq (a := z55) (tgt := 83) hE.1 hE.2.1 (by omega) dX8_votes_68 (by decide) (fun c56 => ?_) (fun c56 => ?_)
                · skip
                  refine lv_bipush (v := iI (-2)) hE.1 hE.2.1 dX8_votes_83 (by decide) ?_
                  exact kr _ _ _ rfl ⟨-2, by omega, rfl⟩ dX8_votes_85
                · skip
                  refine lv_aload hE.1 hE.2.1 dX8_votes_71 (lv_at hl 0 rfl) ?_
                  refine lv_aload_n hE.1 hE.2.1 dX8_votes_73 rfl (lv_at hl 2 rfl) ?_
                  refine x_get (x := .ref (ad 3)) hE hK hP 0 (Nat.lt_of_lt_of_le (by decide) hNN) (xG_8 rfl) rfl hin8 1 (by decide) mw_481 rfl dX8_votes_74 ?_
                  refine x_vp (nn := 1) (As := [.ref (ad 3)]) (rest := []) hE (s_X5_isOfMotifs_73_3 l D K ad mm N hNN v ar al hI  ) wPre_blind (wPre_now hK hN hP) (x_recv hK hP 73 (Nat.lt_of_lt_of_le (by decide) hNN) (xG_5 rfl) rfl) rfl mw_1235 mw_1236 mw_1237 mw_121 mw_1238 (by decide +kernel) ⟨by decide, by decide⟩ hl.1 rfl (Nat.le_of_ble_eq_true rfl) ⟨Nat.zero_le _, Nat.zero_le _⟩ dX8_votes_77 (fun r57 hr57 => ?_)
                  obtain ⟨z57, hz57, rfl⟩ := hr57
                  refine s_if_ne (a := z57) (tgt := 86) hE.1 hE.2.1 (by omega) dX8_votes_80 (by decide) (fun c58 => ?_) (fun c58 => ?_)
                  · skip
                    refine lv_iconst (v := iI (0)) hE.1 hE.2.1 dX8_votes_86 (by decide) ?_
                    refine lv_istore (lv' := [(5, .int (iI (0))), (4, .ref (ad 73)), (3, .ref (ad 67)), (0, .ref (ad 0)), (1, .int (iI (0))), (2, .int (iI (3)))]) hE.1 hE.2.1 dX8_votes_87 hl (by decide) rfl (fun ls hl => ?_)
                    refine lv_iconst (v := iI (0)) hE.1 hE.2.1 dX8_votes_89 (by decide) ?_
                    refine lv_istore (lv' := [(6, .int (iI (0))), (5, .int (iI (0))), (4, .ref (ad 73)), (3, .ref (ad 67)), (0, .ref (ad 0)), (1, .int (iI (0))), (2, .int (iI (3)))]) hE.1 hE.2.1 dX8_votes_90 hl (by decide) rfl (fun ls hl => ?_)
                    have loop59 : ∀ (k59 : Nat) (y59_6 : Int) (y59_5 : Int) (ls : Array Slot), (8 - y59_6).toNat = k59 → (0 ≤ y59_6 ∧ y59_6 ≤ 8) → (-2147483648 ≤ y59_5 ∧ y59_5 ≤ 2147483647) → lv_has ls 7 [(6, .int (iI (y59_6))), (5, .int (iI (y59_5))), (4, .ref (ad 73)), (3, .ref (ad 67)), (0, .ref (ad 0)), (1, .int (iI (0))), (2, .int (iI (3)))] → W p l e (rmD 2) s m args below meth c s.heap [] 0 0 Q (F0 m 92 ls []) := by
                      intro k59
                      induction k59 using Nat.strongRecOn with
                      | _ k59 ih59 =>
                        intro y59_6 y59_5 ls hk59 hb_y59_6 hb_y59_5 hl
                        refine lv_iload hE.1 hE.2.1 dX8_votes_92 (lv_at hl 0 rfl) ?_
                        refine lv_aload_n hE.1 hE.2.1 dX8_votes_94 rfl (lv_at hl 4 rfl) ?_
                        refine x_get (x := .ref (ad 3)) hE hK hP 0 (Nat.lt_of_lt_of_le (by decide) hNN) (xG_8 rfl) rfl hin8 1 (by decide) mw_481 rfl dX8_votes_95 ?_
                        obtain ⟨z60, hz60, ez60⟩ := XI_get hI 3 3 0 8 (by decide)
                        refine x_get (x := .int (v 3 3)) hE hK hP 3 (Nat.lt_of_lt_of_le (by decide) hNN) (xG_1 rfl) rfl hin1 3 (by decide) mw_193 rfl dX8_votes_98 ?_
                        refine x_top (y := iI (z60)) ez60 ?_
                        refine s_icmp_ge (a := y59_6) (b := z60) (tgt := 137) hE.1 hE.2.1 (by omega) (by omega) dX8_votes_101 (by decide) (fun c61 => ?_) (fun c61 => ?_)
                        · skip
                          refine lv_iload hE.1 hE.2.1 dX8_votes_137 (lv_at hl 1 rfl) ?_
                          exact kr _ _ _ rfl ⟨y59_5, by omega, rfl⟩ dX8_votes_139
                        · skip
                          refine lv_aload_n hE.1 hE.2.1 dX8_votes_104 rfl (lv_at hl 3 rfl) ?_
                          refine lv_aload_n hE.1 hE.2.1 dX8_votes_105 rfl (lv_at hl 4 rfl) ?_
                          refine x_get (x := .ref (ad 3)) hE hK hP 0 (Nat.lt_of_lt_of_le (by decide) hNN) (xG_8 rfl) rfl hin8 1 (by decide) mw_481 rfl dX8_votes_106 ?_
                          refine lv_iload hE.1 hE.2.1 dX8_votes_109 (lv_at hl 0 rfl) ?_
                          refine x_vp (nn := 2) (As := [.ref (ad 3), .int (iI (y59_6))]) (rest := []) hE (s_X5_tasteFor_67_3 l D K ad mm N hNN v ar al hI  (y59_6) (by omega)) wPre_blind (wPre_now hK hN hP) (x_recv hK hP 67 (Nat.lt_of_lt_of_le (by decide) hNN) (xG_5 rfl) rfl) rfl mw_1240 mw_1241 mw_1242 mw_121 mw_1243 (by decide +kernel) ⟨by decide, by decide⟩ hl.1 rfl (Nat.le_of_ble_eq_true rfl) ⟨Nat.zero_le _, Nat.zero_le _⟩ dX8_votes_111 (fun r62 hr62 => ?_)
                          obtain ⟨z62, hz62, rfl⟩ := hr62
                          refine lv_aload hE.1 hE.2.1 dX8_votes_114 (lv_at hl 2 rfl) ?_
                          refine lv_aload_n hE.1 hE.2.1 dX8_votes_116 rfl (lv_at hl 4 rfl) ?_
                          refine x_get (x := .ref (ad 3)) hE hK hP 0 (Nat.lt_of_lt_of_le (by decide) hNN) (xG_8 rfl) rfl hin8 1 (by decide) mw_481 rfl dX8_votes_117 ?_
                          refine lv_iload hE.1 hE.2.1 dX8_votes_120 (lv_at hl 0 rfl) ?_
                          refine x_vp (nn := 2) (As := [.ref (ad 3), .int (iI (y59_6))]) (rest := [.int (iI (z62))]) hE (s_X5_tasteFor_73_3 l D K ad mm N hNN v ar al hI  (y59_6) (by omega)) wPre_blind (wPre_now hK hN hP) (x_recv hK hP 73 (Nat.lt_of_lt_of_le (by decide) hNN) (xG_5 rfl) rfl) rfl mw_1240 mw_1241 mw_1242 mw_121 mw_1243 (by decide +kernel) ⟨by decide, by decide⟩ hl.1 rfl (Nat.le_of_ble_eq_true rfl) ⟨Nat.zero_le _, Nat.zero_le _⟩ dX8_votes_122 (fun r63 hr63 => ?_)
                          obtain ⟨z63, hz63, rfl⟩ := hr63
                          refine s_icmp_le (a := z62) (b := z63) (tgt := 131) hE.1 hE.2.1 (by omega) (by omega) dX8_votes_125 (by decide) (fun c64 => ?_) (fun c64 => ?_)
                          · skip
                            refine lv_iinc (v := iI (y59_6 + 1)) (lv' := [(6, .int (iI (y59_6 + 1))), (5, .int (iI (y59_5))), (4, .ref (ad 73)), (3, .ref (ad 67)), (0, .ref (ad 0)), (1, .int (iI (0))), (2, .int (iI (3)))]) hE.1 hE.2.1 dX8_votes_131 hl (k := 0) rfl ((iI_add (y59_6) (1)).trans (congrArg iI (by omega))) (by decide) rfl (fun ls hl => ?_)
                            refine lv_goto (tgt := 92) hE.1 hE.2.1 dX8_votes_134 (by decide) ?_
                            exact ih59 _ (by omega) (y59_6 + 1) (y59_5) _ rfl (by omega) (by omega) (lv_sub hl [0, 1, 2, 3, 4, 5, 6] rfl)
                          · skip
                            obtain ⟨z65, hz65, ez65⟩ := iI_of (iI (y59_5) + iI (1))
                            refine lv_iinc (v := iI (z65)) (lv' := [(5, .int (iI (z65))), (6, .int (iI (y59_6))), (4, .ref (ad 73)), (3, .ref (ad 67)), (0, .ref (ad 0)), (1, .int (iI (0))), (2, .int (iI (3)))]) hE.1 hE.2.1 dX8_votes_128 hl (k := 1) rfl ez65 (by decide) rfl (fun ls hl => ?_)
                            refine lv_iinc (v := iI (y59_6 + 1)) (lv' := [(6, .int (iI (y59_6 + 1))), (5, .int (iI (z65))), (4, .ref (ad 73)), (3, .ref (ad 67)), (0, .ref (ad 0)), (1, .int (iI (0))), (2, .int (iI (3)))]) hE.1 hE.2.1 dX8_votes_131 hl (k := 1) rfl ((iI_add (y59_6) (1)).trans (congrArg iI (by omega))) (by decide) rfl (fun ls hl => ?_)
                            refine lv_goto (tgt := 92) hE.1 hE.2.1 dX8_votes_134 (by decide) ?_
                            exact ih59 _ (by omega) (y59_6 + 1) (z65) _ rfl (by omega) (by omega) (lv_sub hl [0, 1, 2, 3, 4, 5, 6] rfl)
                    exact loop59 _ (0) (0) _ rfl (by omega) (by omega) hl
                  · skip
                    refine lv_bipush (v := iI (-2)) hE.1 hE.2.1 dX8_votes_83 (by decide) ?_
                    exact kr _ _ _ rfl ⟨-2, by omega, rfl⟩ dX8_votes_85
              · skip
                refine lv_bipush (v := iI (-6)) hE.1 hE.2.1 dX8_votes_57 (by decide) ?_
                exact kr _ _ _ rfl ⟨-6, by omega, rfl⟩ dX8_votes_59
        · skip
          refine x_aald (r := .ref (ad 69)) hE hK hP 65 4 (Nat.lt_of_lt_of_le (by decide) hNN) (xG_13 rfl) rfl (by unfold vp_in; decide) rfl dX8_votes_32 ?_
          refine lv_astore_n (lv' := [(3, .ref (ad 69)), (0, .ref (ad 0)), (1, .int (iI (1))), (2, .int (iI (z_2)))]) hE.1 hE.2.1 dX8_votes_33 rfl hl (by decide) rfl (fun ls hl => ?_)
          refine lv_aload_n hE.1 hE.2.1 dX8_votes_34 rfl (lv_at hl 1 rfl) ?_
          refine x_get (x := .ref (ad 65)) hE hK hP 0 (Nat.lt_of_lt_of_le (by decide) hNN) (xG_8 rfl) rfl hin8 8 (by decide) mw_488 rfl dX8_votes_35 ?_
          refine lv_iload_n hE.1 hE.2.1 dX8_votes_38 rfl (lv_at hl 3 rfl) ?_
          rcases (show z_2 = 0 ∨ z_2 = 1 ∨ z_2 = 2 ∨ z_2 = 3 by omega) with rfl | rfl | rfl | rfl
          · skip
            refine x_aald (r := .ref (ad 67)) hE hK hP 65 4 (Nat.lt_of_lt_of_le (by decide) hNN) (xG_13 rfl) rfl (by unfold vp_in; decide) rfl dX8_votes_39 ?_
            refine lv_astore (lv' := [(4, .ref (ad 67)), (3, .ref (ad 69)), (0, .ref (ad 0)), (1, .int (iI (1))), (2, .int (iI (0)))]) hE.1 hE.2.1 dX8_votes_40 hl (by decide) rfl (fun ls hl => ?_)
            refine lv_aload_n hE.1 hE.2.1 dX8_votes_42 rfl (lv_at hl 1 rfl) ?_
            obtain ⟨z66, hz66, ez66⟩ := XI_get hI 69 2 (-1) 60 (by decide)
            refine x_get (x := .int (v 69 2)) hE hK hP 69 (Nat.lt_of_lt_of_le (by decide) hNN) (xG_5 rfl) rfl hin5 2 (by decide) mw_451 rfl dX8_votes_43 ?_
            refine x_top (y := iI (z66)) ez66 ?_
            refine s_if_lt (a := z66) (tgt := 57) hE.1 hE.2.1 (by omega) dX8_votes_46 (by decide) (fun c67 => ?_) (fun c67 => ?_)
            · skip
              refine lv_bipush (v := iI (-6)) hE.1 hE.2.1 dX8_votes_57 (by decide) ?_
              exact kr _ _ _ rfl ⟨-6, by omega, rfl⟩ dX8_votes_59
            · skip
              refine lv_aload hE.1 hE.2.1 dX8_votes_49 (lv_at hl 0 rfl) ?_
              obtain ⟨z68, hz68, ez68⟩ := XI_get hI 67 2 (-1) 60 (by decide)
              refine x_get (x := .int (v 67 2)) hE hK hP 67 (Nat.lt_of_lt_of_le (by decide) hNN) (xG_5 rfl) rfl hin5 2 (by decide) mw_451 rfl dX8_votes_51 ?_
              refine x_top (y := iI (z68)) ez68 ?_
              refine s_if_ge (a := z68) (tgt := 60) hE.1 hE.2.1 (by omega) dX8_votes_54 (by decide) (fun c69 => ?_) (fun c69 => ?_)
              · skip
                refine lv_aload_n hE.1 hE.2.1 dX8_votes_60 rfl (lv_at hl 1 rfl) ?_
                refine lv_aload_n hE.1 hE.2.1 dX8_votes_61 rfl (lv_at hl 2 rfl) ?_
                refine x_get (x := .ref (ad 3)) hE hK hP 0 (Nat.lt_of_lt_of_le (by decide) hNN) (xG_8 rfl) rfl hin8 1 (by decide) mw_481 rfl dX8_votes_62 ?_
                refine x_vp (nn := 1) (As := [.ref (ad 3)]) (rest := []) hE (s_X5_isOfMotifs_69_3 l D K ad mm N hNN v ar al hI  ) wPre_blind (wPre_now hK hN hP) (x_recv hK hP 69 (Nat.lt_of_lt_of_le (by decide) hNN) (xG_5 rfl) rfl) rfl mw_1235 mw_1236 mw_1237 mw_121 mw_1238 (by decide +kernel) ⟨by decide, by decide⟩ hl.1 rfl (Nat.le_of_ble_eq_true rfl) ⟨Nat.zero_le _, Nat.zero_le _⟩ dX8_votes_65 (fun r70 hr70 => ?_)
                obtain ⟨z70, hz70, rfl⟩ := hr70
                refine s_if_eq (a := z70) (tgt := 83) hE.1 hE.2.1 (by omega) dX8_votes_68 (by decide) (fun c71 => ?_) (fun c71 => ?_)
                · skip
                  refine lv_bipush (v := iI (-2)) hE.1 hE.2.1 dX8_votes_83 (by decide) ?_
                  exact kr _ _ _ rfl ⟨-2, by omega, rfl⟩ dX8_votes_85
                · skip
                  refine lv_aload hE.1 hE.2.1 dX8_votes_71 (lv_at hl 0 rfl) ?_
                  refine lv_aload_n hE.1 hE.2.1 dX8_votes_73 rfl (lv_at hl 2 rfl) ?_
                  refine x_get (x := .ref (ad 3)) hE hK hP 0 (Nat.lt_of_lt_of_le (by decide) hNN) (xG_8 rfl) rfl hin8 1 (by decide) mw_481 rfl dX8_votes_74 ?_
                  refine x_vp (nn := 1) (As := [.ref (ad 3)]) (rest := []) hE (s_X5_isOfMotifs_67_3 l D K ad mm N hNN v ar al hI  ) wPre_blind (wPre_now hK hN hP) (x_recv hK hP 67 (Nat.lt_of_lt_of_le (by decide) hNN) (xG_5 rfl) rfl) rfl mw_1235 mw_1236 mw_1237 mw_121 mw_1238 (by decide +kernel) ⟨by decide, by decide⟩ hl.1 rfl (Nat.le_of_ble_eq_true rfl) ⟨Nat.zero_le _, Nat.zero_le _⟩ dX8_votes_77 (fun r72 hr72 => ?_)
                  obtain ⟨z72, hz72, rfl⟩ := hr72
                  refine s_if_ne (a := z72) (tgt := 86) hE.1 hE.2.1 (by omega) dX8_votes_80 (by decide) (fun c73 => ?_) (fun c73 => ?_)
                  · skip
                    refine lv_iconst (v := iI (0)) hE.1 hE.2.1 dX8_votes_86 (by decide) ?_
                    refine lv_istore (lv' := [(5, .int (iI (0))), (4, .ref (ad 67)), (3, .ref (ad 69)), (0, .ref (ad 0)), (1, .int (iI (1))), (2, .int (iI (0)))]) hE.1 hE.2.1 dX8_votes_87 hl (by decide) rfl (fun ls hl => ?_)
                    refine lv_iconst (v := iI (0)) hE.1 hE.2.1 dX8_votes_89 (by decide) ?_
                    refine lv_istore (lv' := [(6, .int (iI (0))), (5, .int (iI (0))), (4, .ref (ad 67)), (3, .ref (ad 69)), (0, .ref (ad 0)), (1, .int (iI (1))), (2, .int (iI (0)))]) hE.1 hE.2.1 dX8_votes_90 hl (by decide) rfl (fun ls hl => ?_)
                    have loop74 : ∀ (k74 : Nat) (y74_6 : Int) (y74_5 : Int) (ls : Array Slot), (8 - y74_6).toNat = k74 → (0 ≤ y74_6 ∧ y74_6 ≤ 8) → (-2147483648 ≤ y74_5 ∧ y74_5 ≤ 2147483647) → lv_has ls 7 [(6, .int (iI (y74_6))), (5, .int (iI (y74_5))), (4, .ref (ad 67)), (3, .ref (ad 69)), (0, .ref (ad 0)), (1, .int (iI (1))), (2, .int (iI (0)))] → W p l e (rmD 2) s m args below meth c s.heap [] 0 0 Q (F0 m 92 ls []) := by
                      intro k74
                      induction k74 using Nat.strongRecOn with
                      | _ k74 ih74 =>
                        intro y74_6 y74_5 ls hk74 hb_y74_6 hb_y74_5 hl
                        refine lv_iload hE.1 hE.2.1 dX8_votes_92 (lv_at hl 0 rfl) ?_
                        refine lv_aload_n hE.1 hE.2.1 dX8_votes_94 rfl (lv_at hl 4 rfl) ?_
                        refine x_get (x := .ref (ad 3)) hE hK hP 0 (Nat.lt_of_lt_of_le (by decide) hNN) (xG_8 rfl) rfl hin8 1 (by decide) mw_481 rfl dX8_votes_95 ?_
                        obtain ⟨z75, hz75, ez75⟩ := XI_get hI 3 3 0 8 (by decide)
                        refine x_get (x := .int (v 3 3)) hE hK hP 3 (Nat.lt_of_lt_of_le (by decide) hNN) (xG_1 rfl) rfl hin1 3 (by decide) mw_193 rfl dX8_votes_98 ?_
                        refine x_top (y := iI (z75)) ez75 ?_
                        refine s_icmp_ge (a := y74_6) (b := z75) (tgt := 137) hE.1 hE.2.1 (by omega) (by omega) dX8_votes_101 (by decide) (fun c76 => ?_) (fun c76 => ?_)
                        · skip
                          refine lv_iload hE.1 hE.2.1 dX8_votes_137 (lv_at hl 1 rfl) ?_
                          exact kr _ _ _ rfl ⟨y74_5, by omega, rfl⟩ dX8_votes_139
                        · skip
                          refine lv_aload_n hE.1 hE.2.1 dX8_votes_104 rfl (lv_at hl 3 rfl) ?_
                          refine lv_aload_n hE.1 hE.2.1 dX8_votes_105 rfl (lv_at hl 4 rfl) ?_
                          refine x_get (x := .ref (ad 3)) hE hK hP 0 (Nat.lt_of_lt_of_le (by decide) hNN) (xG_8 rfl) rfl hin8 1 (by decide) mw_481 rfl dX8_votes_106 ?_
                          refine lv_iload hE.1 hE.2.1 dX8_votes_109 (lv_at hl 0 rfl) ?_
                          refine x_vp (nn := 2) (As := [.ref (ad 3), .int (iI (y74_6))]) (rest := []) hE (s_X5_tasteFor_69_3 l D K ad mm N hNN v ar al hI  (y74_6) (by omega)) wPre_blind (wPre_now hK hN hP) (x_recv hK hP 69 (Nat.lt_of_lt_of_le (by decide) hNN) (xG_5 rfl) rfl) rfl mw_1240 mw_1241 mw_1242 mw_121 mw_1243 (by decide +kernel) ⟨by decide, by decide⟩ hl.1 rfl (Nat.le_of_ble_eq_true rfl) ⟨Nat.zero_le _, Nat.zero_le _⟩ dX8_votes_111 (fun r77 hr77 => ?_)
                          obtain ⟨z77, hz77, rfl⟩ := hr77
                          refine lv_aload hE.1 hE.2.1 dX8_votes_114 (lv_at hl 2 rfl) ?_
                          refine lv_aload_n hE.1 hE.2.1 dX8_votes_116 rfl (lv_at hl 4 rfl) ?_
                          refine x_get (x := .ref (ad 3)) hE hK hP 0 (Nat.lt_of_lt_of_le (by decide) hNN) (xG_8 rfl) rfl hin8 1 (by decide) mw_481 rfl dX8_votes_117 ?_
                          refine lv_iload hE.1 hE.2.1 dX8_votes_120 (lv_at hl 0 rfl) ?_
                          refine x_vp (nn := 2) (As := [.ref (ad 3), .int (iI (y74_6))]) (rest := [.int (iI (z77))]) hE (s_X5_tasteFor_67_3 l D K ad mm N hNN v ar al hI  (y74_6) (by omega)) wPre_blind (wPre_now hK hN hP) (x_recv hK hP 67 (Nat.lt_of_lt_of_le (by decide) hNN) (xG_5 rfl) rfl) rfl mw_1240 mw_1241 mw_1242 mw_121 mw_1243 (by decide +kernel) ⟨by decide, by decide⟩ hl.1 rfl (Nat.le_of_ble_eq_true rfl) ⟨Nat.zero_le _, Nat.zero_le _⟩ dX8_votes_122 (fun r78 hr78 => ?_)
                          obtain ⟨z78, hz78, rfl⟩ := hr78
                          refine s_icmp_le (a := z77) (b := z78) (tgt := 131) hE.1 hE.2.1 (by omega) (by omega) dX8_votes_125 (by decide) (fun c79 => ?_) (fun c79 => ?_)
                          · skip
                            refine lv_iinc (v := iI (y74_6 + 1)) (lv' := [(6, .int (iI (y74_6 + 1))), (5, .int (iI (y74_5))), (4, .ref (ad 67)), (3, .ref (ad 69)), (0, .ref (ad 0)), (1, .int (iI (1))), (2, .int (iI (0)))]) hE.1 hE.2.1 dX8_votes_131 hl (k := 0) rfl ((iI_add (y74_6) (1)).trans (congrArg iI (by omega))) (by decide) rfl (fun ls hl => ?_)
                            refine lv_goto (tgt := 92) hE.1 hE.2.1 dX8_votes_134 (by decide) ?_
                            exact ih74 _ (by omega) (y74_6 + 1) (y74_5) _ rfl (by omega) (by omega) (lv_sub hl [0, 1, 2, 3, 4, 5, 6] rfl)
                          · skip
                            obtain ⟨z80, hz80, ez80⟩ := iI_of (iI (y74_5) + iI (1))
                            refine lv_iinc (v := iI (z80)) (lv' := [(5, .int (iI (z80))), (6, .int (iI (y74_6))), (4, .ref (ad 67)), (3, .ref (ad 69)), (0, .ref (ad 0)), (1, .int (iI (1))), (2, .int (iI (0)))]) hE.1 hE.2.1 dX8_votes_128 hl (k := 1) rfl ez80 (by decide) rfl (fun ls hl => ?_)
                            refine lv_iinc (v := iI (y74_6 + 1)) (lv' := [(6, .int (iI (y74_6 + 1))), (5, .int (iI (z80))), (4, .ref (ad 67)), (3, .ref (ad 69)), (0, .ref (ad 0)), (1, .int (iI (1))), (2, .int (iI (0)))]) hE.1 hE.2.1 dX8_votes_131 hl (k := 1) rfl ((iI_add (y74_6) (1)).trans (congrArg iI (by omega))) (by decide) rfl (fun ls hl => ?_)
                            refine lv_goto (tgt := 92) hE.1 hE.2.1 dX8_votes_134 (by decide) ?_
                            exact ih74 _ (by omega) (y74_6 + 1) (z80) _ rfl (by omega) (by omega) (lv_sub hl [0, 1, 2, 3, 4, 5, 6] rfl)
                    exact loop74 _ (0) (0) _ rfl (by omega) (by omega) hl
                  · skip
                    refine lv_bipush (v := iI (-2)) hE.1 hE.2.1 dX8_votes_83 (by decide) ?_
                    exact kr _ _ _ rfl ⟨-2, by omega, rfl⟩ dX8_votes_85
              · skip
                refine lv_bipush (v := iI (-6)) hE.1 hE.2.1 dX8_votes_57 (by decide) ?_
                exact kr _ _ _ rfl ⟨-6, by omega, rfl⟩ dX8_votes_59
          · skip
            refine x_aald (r := .ref (ad 69)) hE hK hP 65 4 (Nat.lt_of_lt_of_le (by decide) hNN) (xG_13 rfl) rfl (by unfold vp_in; decide) rfl dX8_votes_39 ?_
            refine lv_astore (lv' := [(4, .ref (ad 69)), (3, .ref (ad 69)), (0, .ref (ad 0)), (1, .int (iI (1))), (2, .int (iI (1)))]) hE.1 hE.2.1 dX8_votes_40 hl (by decide) rfl (fun ls hl => ?_)
            refine lv_aload_n hE.1 hE.2.1 dX8_votes_42 rfl (lv_at hl 1 rfl) ?_
            obtain ⟨z81, hz81, ez81⟩ := XI_get hI 69 2 (-1) 60 (by decide)
            refine x_get (x := .int (v 69 2)) hE hK hP 69 (Nat.lt_of_lt_of_le (by decide) hNN) (xG_5 rfl) rfl hin5 2 (by decide) mw_451 rfl dX8_votes_43 ?_
            refine x_top (y := iI (z81)) ez81 ?_
            refine s_if_lt (a := z81) (tgt := 57) hE.1 hE.2.1 (by omega) dX8_votes_46 (by decide) (fun c82 => ?_) (fun c82 => ?_)
            · skip
              refine lv_bipush (v := iI (-6)) hE.1 hE.2.1 dX8_votes_57 (by decide) ?_
              exact kr _ _ _ rfl ⟨-6, by omega, rfl⟩ dX8_votes_59
            · skip
              refine lv_aload hE.1 hE.2.1 dX8_votes_49 (lv_at hl 0 rfl) ?_
              refine x_get (x := .int (v 69 2)) hE hK hP 69 (Nat.lt_of_lt_of_le (by decide) hNN) (xG_5 rfl) rfl hin5 2 (by decide) mw_451 rfl dX8_votes_51 ?_
              refine x_top (y := iI (z81)) ez81 ?_
              refine s_if_ge (a := z81) (tgt := 60) hE.1 hE.2.1 (by omega) dX8_votes_54 (by decide) (fun _ => ?_) (fun c83 => False.elim (by omega))
              refine lv_aload_n hE.1 hE.2.1 dX8_votes_60 rfl (lv_at hl 1 rfl) ?_
              refine lv_aload_n hE.1 hE.2.1 dX8_votes_61 rfl (lv_at hl 2 rfl) ?_
              refine x_get (x := .ref (ad 3)) hE hK hP 0 (Nat.lt_of_lt_of_le (by decide) hNN) (xG_8 rfl) rfl hin8 1 (by decide) mw_481 rfl dX8_votes_62 ?_
              refine x_vp (nn := 1) (As := [.ref (ad 3)]) (rest := []) hE (s_X5_isOfMotifs_69_3 l D K ad mm N hNN v ar al hI  ) wPre_blind (wPre_now hK hN hP) (x_recv hK hP 69 (Nat.lt_of_lt_of_le (by decide) hNN) (xG_5 rfl) rfl) rfl mw_1235 mw_1236 mw_1237 mw_121 mw_1238 (by decide +kernel) ⟨by decide, by decide⟩ hl.1 rfl (Nat.le_of_ble_eq_true rfl) ⟨Nat.zero_le _, Nat.zero_le _⟩ dX8_votes_65 (fun r84 hr84 => ?_)
              obtain ⟨z84, hz84, rfl⟩ := hr84
              refine s_if_eq (a := z84) (tgt := 83) hE.1 hE.2.1 (by omega) dX8_votes_68 (by decide) (fun c85 => ?_) (fun c85 => ?_)
              · skip
                refine lv_bipush (v := iI (-2)) hE.1 hE.2.1 dX8_votes_83 (by decide) ?_
                exact kr _ _ _ rfl ⟨-2, by omega, rfl⟩ dX8_votes_85
              · skip
                refine lv_aload hE.1 hE.2.1 dX8_votes_71 (lv_at hl 0 rfl) ?_
                refine lv_aload_n hE.1 hE.2.1 dX8_votes_73 rfl (lv_at hl 2 rfl) ?_
                refine x_get (x := .ref (ad 3)) hE hK hP 0 (Nat.lt_of_lt_of_le (by decide) hNN) (xG_8 rfl) rfl hin8 1 (by decide) mw_481 rfl dX8_votes_74 ?_
                refine x_vp (nn := 1) (As := [.ref (ad 3)]) (rest := []) hE (s_X5_isOfMotifs_69_3 l D K ad mm N hNN v ar al hI  ) wPre_blind (wPre_now hK hN hP) (x_recv hK hP 69 (Nat.lt_of_lt_of_le (by decide) hNN) (xG_5 rfl) rfl) rfl mw_1235 mw_1236 mw_1237 mw_121 mw_1238 (by decide +kernel) ⟨by decide, by decide⟩ hl.1 rfl (Nat.le_of_ble_eq_true rfl) ⟨Nat.zero_le _, Nat.zero_le _⟩ dX8_votes_77 (fun r86 hr86 => ?_)
                obtain ⟨z86, hz86, rfl⟩ := hr86
                refine s_if_ne (a := z86) (tgt := 86) hE.1 hE.2.1 (by omega) dX8_votes_80 (by decide) (fun c87 => ?_) (fun c87 => ?_)
                · skip
                  refine lv_iconst (v := iI (0)) hE.1 hE.2.1 dX8_votes_86 (by decide) ?_
                  refine lv_istore (lv' := [(5, .int (iI (0))), (4, .ref (ad 69)), (3, .ref (ad 69)), (0, .ref (ad 0)), (1, .int (iI (1))), (2, .int (iI (1)))]) hE.1 hE.2.1 dX8_votes_87 hl (by decide) rfl (fun ls hl => ?_)
                  refine lv_iconst (v := iI (0)) hE.1 hE.2.1 dX8_votes_89 (by decide) ?_
                  refine lv_istore (lv' := [(6, .int (iI (0))), (5, .int (iI (0))), (4, .ref (ad 69)), (3, .ref (ad 69)), (0, .ref (ad 0)), (1, .int (iI (1))), (2, .int (iI (1)))]) hE.1 hE.2.1 dX8_votes_90 hl (by decide) rfl (fun ls hl => ?_)
                  have loop88 : ∀ (k88 : Nat) (y88_6 : Int) (y88_5 : Int) (ls : Array Slot), (8 - y88_6).toNat = k88 → (0 ≤ y88_6 ∧ y88_6 ≤ 8) → (-2147483648 ≤ y88_5 ∧ y88_5 ≤ 2147483647) → lv_has ls 7 [(6, .int (iI (y88_6))), (5, .int (iI (y88_5))), (4, .ref (ad 69)), (3, .ref (ad 69)), (0, .ref (ad 0)), (1, .int (iI (1))), (2, .int (iI (1)))] → W p l e (rmD 2) s m args below meth c s.heap [] 0 0 Q (F0 m 92 ls []) := by
                    intro k88
                    induction k88 using Nat.strongRecOn with
                    | _ k88 ih88 =>
                      intro y88_6 y88_5 ls hk88 hb_y88_6 hb_y88_5 hl
                      refine lv_iload hE.1 hE.2.1 dX8_votes_92 (lv_at hl 0 rfl) ?_
                      refine lv_aload_n hE.1 hE.2.1 dX8_votes_94 rfl (lv_at hl 4 rfl) ?_
                      refine x_get (x := .ref (ad 3)) hE hK hP 0 (Nat.lt_of_lt_of_le (by decide) hNN) (xG_8 rfl) rfl hin8 1 (by decide) mw_481 rfl dX8_votes_95 ?_
                      obtain ⟨z89, hz89, ez89⟩ := XI_get hI 3 3 0 8 (by decide)
                      refine x_get (x := .int (v 3 3)) hE hK hP 3 (Nat.lt_of_lt_of_le (by decide) hNN) (xG_1 rfl) rfl hin1 3 (by decide) mw_193 rfl dX8_votes_98 ?_
                      refine x_top (y := iI (z89)) ez89 ?_
                      refine s_icmp_ge (a := y88_6) (b := z89) (tgt := 137) hE.1 hE.2.1 (by omega) (by omega) dX8_votes_101 (by decide) (fun c90 => ?_) (fun c90 => ?_)
                      · skip
                        refine lv_iload hE.1 hE.2.1 dX8_votes_137 (lv_at hl 1 rfl) ?_
                        exact kr _ _ _ rfl ⟨y88_5, by omega, rfl⟩ dX8_votes_139
                      · skip
                        refine lv_aload_n hE.1 hE.2.1 dX8_votes_104 rfl (lv_at hl 3 rfl) ?_
                        refine lv_aload_n hE.1 hE.2.1 dX8_votes_105 rfl (lv_at hl 4 rfl) ?_
                        refine x_get (x := .ref (ad 3)) hE hK hP 0 (Nat.lt_of_lt_of_le (by decide) hNN) (xG_8 rfl) rfl hin8 1 (by decide) mw_481 rfl dX8_votes_106 ?_
                        refine lv_iload hE.1 hE.2.1 dX8_votes_109 (lv_at hl 0 rfl) ?_
                        refine x_vp (nn := 2) (As := [.ref (ad 3), .int (iI (y88_6))]) (rest := []) hE (s_X5_tasteFor_69_3 l D K ad mm N hNN v ar al hI  (y88_6) (by omega)) wPre_blind (wPre_now hK hN hP) (x_recv hK hP 69 (Nat.lt_of_lt_of_le (by decide) hNN) (xG_5 rfl) rfl) rfl mw_1240 mw_1241 mw_1242 mw_121 mw_1243 (by decide +kernel) ⟨by decide, by decide⟩ hl.1 rfl (Nat.le_of_ble_eq_true rfl) ⟨Nat.zero_le _, Nat.zero_le _⟩ dX8_votes_111 (fun r91 hr91 => ?_)
                        obtain ⟨z91, hz91, rfl⟩ := hr91
                        refine lv_aload hE.1 hE.2.1 dX8_votes_114 (lv_at hl 2 rfl) ?_
                        refine lv_aload_n hE.1 hE.2.1 dX8_votes_116 rfl (lv_at hl 4 rfl) ?_
                        refine x_get (x := .ref (ad 3)) hE hK hP 0 (Nat.lt_of_lt_of_le (by decide) hNN) (xG_8 rfl) rfl hin8 1 (by decide) mw_481 rfl dX8_votes_117 ?_
                        refine lv_iload hE.1 hE.2.1 dX8_votes_120 (lv_at hl 0 rfl) ?_
                        refine x_vp (nn := 2) (As := [.ref (ad 3), .int (iI (y88_6))]) (rest := [.int (iI (z91))]) hE (s_X5_tasteFor_69_3 l D K ad mm N hNN v ar al hI  (y88_6) (by omega)) wPre_blind (wPre_now hK hN hP) (x_recv hK hP 69 (Nat.lt_of_lt_of_le (by decide) hNN) (xG_5 rfl) rfl) rfl mw_1240 mw_1241 mw_1242 mw_121 mw_1243 (by decide +kernel) ⟨by decide, by decide⟩ hl.1 rfl (Nat.le_of_ble_eq_true rfl) ⟨Nat.zero_le _, Nat.zero_le _⟩ dX8_votes_122 (fun r92 hr92 => ?_)
                        obtain ⟨z92, hz92, rfl⟩ := hr92
                        refine s_icmp_le (a := z91) (b := z92) (tgt := 131) hE.1 hE.2.1 (by omega) (by omega) dX8_votes_125 (by decide) (fun c93 => ?_) (fun c93 => ?_)
                        · skip
                          refine lv_iinc (v := iI (y88_6 + 1)) (lv' := [(6, .int (iI (y88_6 + 1))), (5, .int (iI (y88_5))), (4, .ref (ad 69)), (3, .ref (ad 69)), (0, .ref (ad 0)), (1, .int (iI (1))), (2, .int (iI (1)))]) hE.1 hE.2.1 dX8_votes_131 hl (k := 0) rfl ((iI_add (y88_6) (1)).trans (congrArg iI (by omega))) (by decide) rfl (fun ls hl => ?_)
                          refine lv_goto (tgt := 92) hE.1 hE.2.1 dX8_votes_134 (by decide) ?_
                          exact ih88 _ (by omega) (y88_6 + 1) (y88_5) _ rfl (by omega) (by omega) (lv_sub hl [0, 1, 2, 3, 4, 5, 6] rfl)
                        · skip
                          obtain ⟨z94, hz94, ez94⟩ := iI_of (iI (y88_5) + iI (1))
                          refine lv_iinc (v := iI (z94)) (lv' := [(5, .int (iI (z94))), (6, .int (iI (y88_6))), (4, .ref (ad 69)), (3, .ref (ad 69)), (0, .ref (ad 0)), (1, .int (iI (1))), (2, .int (iI (1)))]) hE.1 hE.2.1 dX8_votes_128 hl (k := 1) rfl ez94 (by decide) rfl (fun ls hl => ?_)
                          refine lv_iinc (v := iI (y88_6 + 1)) (lv' := [(6, .int (iI (y88_6 + 1))), (5, .int (iI (z94))), (4, .ref (ad 69)), (3, .ref (ad 69)), (0, .ref (ad 0)), (1, .int (iI (1))), (2, .int (iI (1)))]) hE.1 hE.2.1 dX8_votes_131 hl (k := 1) rfl ((iI_add (y88_6) (1)).trans (congrArg iI (by omega))) (by decide) rfl (fun ls hl => ?_)
                          refine lv_goto (tgt := 92) hE.1 hE.2.1 dX8_votes_134 (by decide) ?_
                          exact ih88 _ (by omega) (y88_6 + 1) (z94) _ rfl (by omega) (by omega) (lv_sub hl [0, 1, 2, 3, 4, 5, 6] rfl)
                  exact loop88 _ (0) (0) _ rfl (by omega) (by omega) hl
                · skip
                  refine lv_bipush (v := iI (-2)) hE.1 hE.2.1 dX8_votes_83 (by decide) ?_
                  exact kr _ _ _ rfl ⟨-2, by omega, rfl⟩ dX8_votes_85
          · skip
            refine x_aald (r := .ref (ad 71)) hE hK hP 65 4 (Nat.lt_of_lt_of_le (by decide) hNN) (xG_13 rfl) rfl (by unfold vp_in; decide) rfl dX8_votes_39 ?_
            refine lv_astore (lv' := [(4, .ref (ad 71)), (3, .ref (ad 69)), (0, .ref (ad 0)), (1, .int (iI (1))), (2, .int (iI (2)))]) hE.1 hE.2.1 dX8_votes_40 hl (by decide) rfl (fun ls hl => ?_)
            refine lv_aload_n hE.1 hE.2.1 dX8_votes_42 rfl (lv_at hl 1 rfl) ?_
            obtain ⟨z95, hz95, ez95⟩ := XI_get hI 69 2 (-1) 60 (by decide)
            refine x_get (x := .int (v 69 2)) hE hK hP 69 (Nat.lt_of_lt_of_le (by decide) hNN) (xG_5 rfl) rfl hin5 2 (by decide) mw_451 rfl dX8_votes_43 ?_
            refine x_top (y := iI (z95)) ez95 ?_
            refine s_if_lt (a := z95) (tgt := 57) hE.1 hE.2.1 (by omega) dX8_votes_46 (by decide) (fun c96 => ?_) (fun c96 => ?_)
            · skip
              refine lv_bipush (v := iI (-6)) hE.1 hE.2.1 dX8_votes_57 (by decide) ?_
              exact kr _ _ _ rfl ⟨-6, by omega, rfl⟩ dX8_votes_59
            · skip
              refine lv_aload hE.1 hE.2.1 dX8_votes_49 (lv_at hl 0 rfl) ?_
              obtain ⟨z97, hz97, ez97⟩ := XI_get hI 71 2 (-1) 60 (by decide)
              refine x_get (x := .int (v 71 2)) hE hK hP 71 (Nat.lt_of_lt_of_le (by decide) hNN) (xG_5 rfl) rfl hin5 2 (by decide) mw_451 rfl dX8_votes_51 ?_
              refine x_top (y := iI (z97)) ez97 ?_
              refine s_if_ge (a := z97) (tgt := 60) hE.1 hE.2.1 (by omega) dX8_votes_54 (by decide) (fun c98 => ?_) (fun c98 => ?_)
              · skip
                refine lv_aload_n hE.1 hE.2.1 dX8_votes_60 rfl (lv_at hl 1 rfl) ?_
                refine lv_aload_n hE.1 hE.2.1 dX8_votes_61 rfl (lv_at hl 2 rfl) ?_
                refine x_get (x := .ref (ad 3)) hE hK hP 0 (Nat.lt_of_lt_of_le (by decide) hNN) (xG_8 rfl) rfl hin8 1 (by decide) mw_481 rfl dX8_votes_62 ?_
                refine x_vp (nn := 1) (As := [.ref (ad 3)]) (rest := []) hE (s_X5_isOfMotifs_69_3 l D K ad mm N hNN v ar al hI  ) wPre_blind (wPre_now hK hN hP) (x_recv hK hP 69 (Nat.lt_of_lt_of_le (by decide) hNN) (xG_5 rfl) rfl) rfl mw_1235 mw_1236 mw_1237 mw_121 mw_1238 (by decide +kernel) ⟨by decide, by decide⟩ hl.1 rfl (Nat.le_of_ble_eq_true rfl) ⟨Nat.zero_le _, Nat.zero_le _⟩ dX8_votes_65 (fun r99 hr99 => ?_)
                obtain ⟨z99, hz99, rfl⟩ := hr99
                refine s_if_eq (a := z99) (tgt := 83) hE.1 hE.2.1 (by omega) dX8_votes_68 (by decide) (fun c100 => ?_) (fun c100 => ?_)
                · skip
                  refine lv_bipush (v := iI (-2)) hE.1 hE.2.1 dX8_votes_83 (by decide) ?_
                  exact kr _ _ _ rfl ⟨-2, by omega, rfl⟩ dX8_votes_85
                · skip
                  refine lv_aload hE.1 hE.2.1 dX8_votes_71 (lv_at hl 0 rfl) ?_
                  refine lv_aload_n hE.1 hE.2.1 dX8_votes_73 rfl (lv_at hl 2 rfl) ?_
                  refine x_get (x := .ref (ad 3)) hE hK hP 0 (Nat.lt_of_lt_of_le (by decide) hNN) (xG_8 rfl) rfl hin8 1 (by decide) mw_481 rfl dX8_votes_74 ?_
                  refine x_vp (nn := 1) (As := [.ref (ad 3)]) (rest := []) hE (s_X5_isOfMotifs_71_3 l D K ad mm N hNN v ar al hI  ) wPre_blind (wPre_now hK hN hP) (x_recv hK hP 71 (Nat.lt_of_lt_of_le (by decide) hNN) (xG_5 rfl) rfl) rfl mw_1235 mw_1236 mw_1237 mw_121 mw_1238 (by decide +kernel) ⟨by decide, by decide⟩ hl.1 rfl (Nat.le_of_ble_eq_true rfl) ⟨Nat.zero_le _, Nat.zero_le _⟩ dX8_votes_77 (fun r101 hr101 => ?_)
                  obtain ⟨z101, hz101, rfl⟩ := hr101
                  refine s_if_ne (a := z101) (tgt := 86) hE.1 hE.2.1 (by omega) dX8_votes_80 (by decide) (fun c102 => ?_) (fun c102 => ?_)
                  · skip
                    refine lv_iconst (v := iI (0)) hE.1 hE.2.1 dX8_votes_86 (by decide) ?_
                    refine lv_istore (lv' := [(5, .int (iI (0))), (4, .ref (ad 71)), (3, .ref (ad 69)), (0, .ref (ad 0)), (1, .int (iI (1))), (2, .int (iI (2)))]) hE.1 hE.2.1 dX8_votes_87 hl (by decide) rfl (fun ls hl => ?_)
                    refine lv_iconst (v := iI (0)) hE.1 hE.2.1 dX8_votes_89 (by decide) ?_
                    refine lv_istore (lv' := [(6, .int (iI (0))), (5, .int (iI (0))), (4, .ref (ad 71)), (3, .ref (ad 69)), (0, .ref (ad 0)), (1, .int (iI (1))), (2, .int (iI (2)))]) hE.1 hE.2.1 dX8_votes_90 hl (by decide) rfl (fun ls hl => ?_)
                    have loop103 : ∀ (k103 : Nat) (y103_6 : Int) (y103_5 : Int) (ls : Array Slot), (8 - y103_6).toNat = k103 → (0 ≤ y103_6 ∧ y103_6 ≤ 8) → (-2147483648 ≤ y103_5 ∧ y103_5 ≤ 2147483647) → lv_has ls 7 [(6, .int (iI (y103_6))), (5, .int (iI (y103_5))), (4, .ref (ad 71)), (3, .ref (ad 69)), (0, .ref (ad 0)), (1, .int (iI (1))), (2, .int (iI (2)))] → W p l e (rmD 2) s m args below meth c s.heap [] 0 0 Q (F0 m 92 ls []) := by
                      intro k103
                      induction k103 using Nat.strongRecOn with
                      | _ k103 ih103 =>
                        intro y103_6 y103_5 ls hk103 hb_y103_6 hb_y103_5 hl
                        refine lv_iload hE.1 hE.2.1 dX8_votes_92 (lv_at hl 0 rfl) ?_
                        refine lv_aload_n hE.1 hE.2.1 dX8_votes_94 rfl (lv_at hl 4 rfl) ?_
                        refine x_get (x := .ref (ad 3)) hE hK hP 0 (Nat.lt_of_lt_of_le (by decide) hNN) (xG_8 rfl) rfl hin8 1 (by decide) mw_481 rfl dX8_votes_95 ?_
                        obtain ⟨z104, hz104, ez104⟩ := XI_get hI 3 3 0 8 (by decide)
                        refine x_get (x := .int (v 3 3)) hE hK hP 3 (Nat.lt_of_lt_of_le (by decide) hNN) (xG_1 rfl) rfl hin1 3 (by decide) mw_193 rfl dX8_votes_98 ?_
                        refine x_top (y := iI (z104)) ez104 ?_
                        refine s_icmp_ge (a := y103_6) (b := z104) (tgt := 137) hE.1 hE.2.1 (by omega) (by omega) dX8_votes_101 (by decide) (fun c105 => ?_) (fun c105 => ?_)
                        · skip
                          refine lv_iload hE.1 hE.2.1 dX8_votes_137 (lv_at hl 1 rfl) ?_
                          exact kr _ _ _ rfl ⟨y103_5, by omega, rfl⟩ dX8_votes_139
                        · skip
                          refine lv_aload_n hE.1 hE.2.1 dX8_votes_104 rfl (lv_at hl 3 rfl) ?_
                          refine lv_aload_n hE.1 hE.2.1 dX8_votes_105 rfl (lv_at hl 4 rfl) ?_
                          refine x_get (x := .ref (ad 3)) hE hK hP 0 (Nat.lt_of_lt_of_le (by decide) hNN) (xG_8 rfl) rfl hin8 1 (by decide) mw_481 rfl dX8_votes_106 ?_
                          refine lv_iload hE.1 hE.2.1 dX8_votes_109 (lv_at hl 0 rfl) ?_
                          refine x_vp (nn := 2) (As := [.ref (ad 3), .int (iI (y103_6))]) (rest := []) hE (s_X5_tasteFor_69_3 l D K ad mm N hNN v ar al hI  (y103_6) (by omega)) wPre_blind (wPre_now hK hN hP) (x_recv hK hP 69 (Nat.lt_of_lt_of_le (by decide) hNN) (xG_5 rfl) rfl) rfl mw_1240 mw_1241 mw_1242 mw_121 mw_1243 (by decide +kernel) ⟨by decide, by decide⟩ hl.1 rfl (Nat.le_of_ble_eq_true rfl) ⟨Nat.zero_le _, Nat.zero_le _⟩ dX8_votes_111 (fun r106 hr106 => ?_)
                          obtain ⟨z106, hz106, rfl⟩ := hr106
                          refine lv_aload hE.1 hE.2.1 dX8_votes_114 (lv_at hl 2 rfl) ?_
                          refine lv_aload_n hE.1 hE.2.1 dX8_votes_116 rfl (lv_at hl 4 rfl) ?_
                          refine x_get (x := .ref (ad 3)) hE hK hP 0 (Nat.lt_of_lt_of_le (by decide) hNN) (xG_8 rfl) rfl hin8 1 (by decide) mw_481 rfl dX8_votes_117 ?_
                          refine lv_iload hE.1 hE.2.1 dX8_votes_120 (lv_at hl 0 rfl) ?_
                          refine x_vp (nn := 2) (As := [.ref (ad 3), .int (iI (y103_6))]) (rest := [.int (iI (z106))]) hE (s_X5_tasteFor_71_3 l D K ad mm N hNN v ar al hI  (y103_6) (by omega)) wPre_blind (wPre_now hK hN hP) (x_recv hK hP 71 (Nat.lt_of_lt_of_le (by decide) hNN) (xG_5 rfl) rfl) rfl mw_1240 mw_1241 mw_1242 mw_121 mw_1243 (by decide +kernel) ⟨by decide, by decide⟩ hl.1 rfl (Nat.le_of_ble_eq_true rfl) ⟨Nat.zero_le _, Nat.zero_le _⟩ dX8_votes_122 (fun r107 hr107 => ?_)
                          obtain ⟨z107, hz107, rfl⟩ := hr107
                          refine s_icmp_le (a := z106) (b := z107) (tgt := 131) hE.1 hE.2.1 (by omega) (by omega) dX8_votes_125 (by decide) (fun c108 => ?_) (fun c108 => ?_)
                          · skip
                            refine lv_iinc (v := iI (y103_6 + 1)) (lv' := [(6, .int (iI (y103_6 + 1))), (5, .int (iI (y103_5))), (4, .ref (ad 71)), (3, .ref (ad 69)), (0, .ref (ad 0)), (1, .int (iI (1))), (2, .int (iI (2)))]) hE.1 hE.2.1 dX8_votes_131 hl (k := 0) rfl ((iI_add (y103_6) (1)).trans (congrArg iI (by omega))) (by decide) rfl (fun ls hl => ?_)
                            refine lv_goto (tgt := 92) hE.1 hE.2.1 dX8_votes_134 (by decide) ?_
                            exact ih103 _ (by omega) (y103_6 + 1) (y103_5) _ rfl (by omega) (by omega) (lv_sub hl [0, 1, 2, 3, 4, 5, 6] rfl)
                          · skip
                            obtain ⟨z109, hz109, ez109⟩ := iI_of (iI (y103_5) + iI (1))
                            refine lv_iinc (v := iI (z109)) (lv' := [(5, .int (iI (z109))), (6, .int (iI (y103_6))), (4, .ref (ad 71)), (3, .ref (ad 69)), (0, .ref (ad 0)), (1, .int (iI (1))), (2, .int (iI (2)))]) hE.1 hE.2.1 dX8_votes_128 hl (k := 1) rfl ez109 (by decide) rfl (fun ls hl => ?_)
                            refine lv_iinc (v := iI (y103_6 + 1)) (lv' := [(6, .int (iI (y103_6 + 1))), (5, .int (iI (z109))), (4, .ref (ad 71)), (3, .ref (ad 69)), (0, .ref (ad 0)), (1, .int (iI (1))), (2, .int (iI (2)))]) hE.1 hE.2.1 dX8_votes_131 hl (k := 1) rfl ((iI_add (y103_6) (1)).trans (congrArg iI (by omega))) (by decide) rfl (fun ls hl => ?_)
                            refine lv_goto (tgt := 92) hE.1 hE.2.1 dX8_votes_134 (by decide) ?_
                            exact ih103 _ (by omega) (y103_6 + 1) (z109) _ rfl (by omega) (by omega) (lv_sub hl [0, 1, 2, 3, 4, 5, 6] rfl)
                    exact loop103 _ (0) (0) _ rfl (by omega) (by omega) hl
                  · skip
                    refine lv_bipush (v := iI (-2)) hE.1 hE.2.1 dX8_votes_83 (by decide) ?_
                    exact kr _ _ _ rfl ⟨-2, by omega, rfl⟩ dX8_votes_85
              · skip
                refine lv_bipush (v := iI (-6)) hE.1 hE.2.1 dX8_votes_57 (by decide) ?_
                exact kr _ _ _ rfl ⟨-6, by omega, rfl⟩ dX8_votes_59
          · skip
            refine x_aald (r := .ref (ad 73)) hE hK hP 65 4 (Nat.lt_of_lt_of_le (by decide) hNN) (xG_13 rfl) rfl (by unfold vp_in; decide) rfl dX8_votes_39 ?_
            refine lv_astore (lv' := [(4, .ref (ad 73)), (3, .ref (ad 69)), (0, .ref (ad 0)), (1, .int (iI (1))), (2, .int (iI (3)))]) hE.1 hE.2.1 dX8_votes_40 hl (by decide) rfl (fun ls hl => ?_)
            refine lv_aload_n hE.1 hE.2.1 dX8_votes_42 rfl (lv_at hl 1 rfl) ?_
            obtain ⟨z110, hz110, ez110⟩ := XI_get hI 69 2 (-1) 60 (by decide)
            refine x_get (x := .int (v 69 2)) hE hK hP 69 (Nat.lt_of_lt_of_le (by decide) hNN) (xG_5 rfl) rfl hin5 2 (by decide) mw_451 rfl dX8_votes_43 ?_
            refine x_top (y := iI (z110)) ez110 ?_
            refine s_if_lt (a := z110) (tgt := 57) hE.1 hE.2.1 (by omega) dX8_votes_46 (by decide) (fun c111 => ?_) (fun c111 => ?_)
            · skip
              refine lv_bipush (v := iI (-6)) hE.1 hE.2.1 dX8_votes_57 (by decide) ?_
              exact kr _ _ _ rfl ⟨-6, by omega, rfl⟩ dX8_votes_59
            · skip
              refine lv_aload hE.1 hE.2.1 dX8_votes_49 (lv_at hl 0 rfl) ?_
              obtain ⟨z112, hz112, ez112⟩ := XI_get hI 73 2 (-1) 60 (by decide)
              refine x_get (x := .int (v 73 2)) hE hK hP 73 (Nat.lt_of_lt_of_le (by decide) hNN) (xG_5 rfl) rfl hin5 2 (by decide) mw_451 rfl dX8_votes_51 ?_
              refine x_top (y := iI (z112)) ez112 ?_
              refine s_if_ge (a := z112) (tgt := 60) hE.1 hE.2.1 (by omega) dX8_votes_54 (by decide) (fun c113 => ?_) (fun c113 => ?_)
              · skip
                refine lv_aload_n hE.1 hE.2.1 dX8_votes_60 rfl (lv_at hl 1 rfl) ?_
                refine lv_aload_n hE.1 hE.2.1 dX8_votes_61 rfl (lv_at hl 2 rfl) ?_
                refine x_get (x := .ref (ad 3)) hE hK hP 0 (Nat.lt_of_lt_of_le (by decide) hNN) (xG_8 rfl) rfl hin8 1 (by decide) mw_481 rfl dX8_votes_62 ?_
                refine x_vp (nn := 1) (As := [.ref (ad 3)]) (rest := []) hE (s_X5_isOfMotifs_69_3 l D K ad mm N hNN v ar al hI  ) wPre_blind (wPre_now hK hN hP) (x_recv hK hP 69 (Nat.lt_of_lt_of_le (by decide) hNN) (xG_5 rfl) rfl) rfl mw_1235 mw_1236 mw_1237 mw_121 mw_1238 (by decide +kernel) ⟨by decide, by decide⟩ hl.1 rfl (Nat.le_of_ble_eq_true rfl) ⟨Nat.zero_le _, Nat.zero_le _⟩ dX8_votes_65 (fun r114 hr114 => ?_)
                obtain ⟨z114, hz114, rfl⟩ := hr114
                refine s_if_eq (a := z114) (tgt := 83) hE.1 hE.2.1 (by omega) dX8_votes_68 (by decide) (fun c115 => ?_) (fun c115 => ?_)
                · skip
                  refine lv_bipush (v := iI (-2)) hE.1 hE.2.1 dX8_votes_83 (by decide) ?_
                  exact kr _ _ _ rfl ⟨-2, by omega, rfl⟩ dX8_votes_85
                · skip
                  refine lv_aload hE.1 hE.2.1 dX8_votes_71 (lv_at hl 0 rfl) ?_
                  refine lv_aload_n hE.1 hE.2.1 dX8_votes_73 rfl (lv_at hl 2 rfl) ?_
                  refine x_get (x := .ref (ad 3)) hE hK hP 0 (Nat.lt_of_lt_of_le (by decide) hNN) (xG_8 rfl) rfl hin8 1 (by decide) mw_481 rfl dX8_votes_74 ?_
                  refine x_vp (nn := 1) (As := [.ref (ad 3)]) (rest := []) hE (s_X5_isOfMotifs_73_3 l D K ad mm N hNN v ar al hI  ) wPre_blind (wPre_now hK hN hP) (x_recv hK hP 73 (Nat.lt_of_lt_of_le (by decide) hNN) (xG_5 rfl) rfl) rfl mw_1235 mw_1236 mw_1237 mw_121 mw_1238 (by decide +kernel) ⟨by decide, by decide⟩ hl.1 rfl (Nat.le_of_ble_eq_true rfl) ⟨Nat.zero_le _, Nat.zero_le _⟩ dX8_votes_77 (fun r116 hr116 => ?_)
                  obtain ⟨z116, hz116, rfl⟩ := hr116
                  refine s_if_ne (a := z116) (tgt := 86) hE.1 hE.2.1 (by omega) dX8_votes_80 (by decide) (fun c117 => ?_) (fun c117 => ?_)
                  · skip
                    refine lv_iconst (v := iI (0)) hE.1 hE.2.1 dX8_votes_86 (by decide) ?_
                    refine lv_istore (lv' := [(5, .int (iI (0))), (4, .ref (ad 73)), (3, .ref (ad 69)), (0, .ref (ad 0)), (1, .int (iI (1))), (2, .int (iI (3)))]) hE.1 hE.2.1 dX8_votes_87 hl (by decide) rfl (fun ls hl => ?_)
                    refine lv_iconst (v := iI (0)) hE.1 hE.2.1 dX8_votes_89 (by decide) ?_
                    refine lv_istore (lv' := [(6, .int (iI (0))), (5, .int (iI (0))), (4, .ref (ad 73)), (3, .ref (ad 69)), (0, .ref (ad 0)), (1, .int (iI (1))), (2, .int (iI (3)))]) hE.1 hE.2.1 dX8_votes_90 hl (by decide) rfl (fun ls hl => ?_)
                    have loop118 : ∀ (k118 : Nat) (y118_6 : Int) (y118_5 : Int) (ls : Array Slot), (8 - y118_6).toNat = k118 → (0 ≤ y118_6 ∧ y118_6 ≤ 8) → (-2147483648 ≤ y118_5 ∧ y118_5 ≤ 2147483647) → lv_has ls 7 [(6, .int (iI (y118_6))), (5, .int (iI (y118_5))), (4, .ref (ad 73)), (3, .ref (ad 69)), (0, .ref (ad 0)), (1, .int (iI (1))), (2, .int (iI (3)))] → W p l e (rmD 2) s m args below meth c s.heap [] 0 0 Q (F0 m 92 ls []) := by
                      intro k118
                      induction k118 using Nat.strongRecOn with
                      | _ k118 ih118 =>
                        intro y118_6 y118_5 ls hk118 hb_y118_6 hb_y118_5 hl
                        refine lv_iload hE.1 hE.2.1 dX8_votes_92 (lv_at hl 0 rfl) ?_
                        refine lv_aload_n hE.1 hE.2.1 dX8_votes_94 rfl (lv_at hl 4 rfl) ?_
                        refine x_get (x := .ref (ad 3)) hE hK hP 0 (Nat.lt_of_lt_of_le (by decide) hNN) (xG_8 rfl) rfl hin8 1 (by decide) mw_481 rfl dX8_votes_95 ?_
                        obtain ⟨z119, hz119, ez119⟩ := XI_get hI 3 3 0 8 (by decide)
                        refine x_get (x := .int (v 3 3)) hE hK hP 3 (Nat.lt_of_lt_of_le (by decide) hNN) (xG_1 rfl) rfl hin1 3 (by decide) mw_193 rfl dX8_votes_98 ?_
                        refine x_top (y := iI (z119)) ez119 ?_
                        refine s_icmp_ge (a := y118_6) (b := z119) (tgt := 137) hE.1 hE.2.1 (by omega) (by omega) dX8_votes_101 (by decide) (fun c120 => ?_) (fun c120 => ?_)
                        · skip
                          refine lv_iload hE.1 hE.2.1 dX8_votes_137 (lv_at hl 1 rfl) ?_
                          exact kr _ _ _ rfl ⟨y118_5, by omega, rfl⟩ dX8_votes_139
                        · skip
                          refine lv_aload_n hE.1 hE.2.1 dX8_votes_104 rfl (lv_at hl 3 rfl) ?_
                          refine lv_aload_n hE.1 hE.2.1 dX8_votes_105 rfl (lv_at hl 4 rfl) ?_
                          refine x_get (x := .ref (ad 3)) hE hK hP 0 (Nat.lt_of_lt_of_le (by decide) hNN) (xG_8 rfl) rfl hin8 1 (by decide) mw_481 rfl dX8_votes_106 ?_
                          refine lv_iload hE.1 hE.2.1 dX8_votes_109 (lv_at hl 0 rfl) ?_
                          refine x_vp (nn := 2) (As := [.ref (ad 3), .int (iI (y118_6))]) (rest := []) hE (s_X5_tasteFor_69_3 l D K ad mm N hNN v ar al hI  (y118_6) (by omega)) wPre_blind (wPre_now hK hN hP) (x_recv hK hP 69 (Nat.lt_of_lt_of_le (by decide) hNN) (xG_5 rfl) rfl) rfl mw_1240 mw_1241 mw_1242 mw_121 mw_1243 (by decide +kernel) ⟨by decide, by decide⟩ hl.1 rfl (Nat.le_of_ble_eq_true rfl) ⟨Nat.zero_le _, Nat.zero_le _⟩ dX8_votes_111 (fun r121 hr121 => ?_)
                          obtain ⟨z121, hz121, rfl⟩ := hr121
                          refine lv_aload hE.1 hE.2.1 dX8_votes_114 (lv_at hl 2 rfl) ?_
                          refine lv_aload_n hE.1 hE.2.1 dX8_votes_116 rfl (lv_at hl 4 rfl) ?_
                          refine x_get (x := .ref (ad 3)) hE hK hP 0 (Nat.lt_of_lt_of_le (by decide) hNN) (xG_8 rfl) rfl hin8 1 (by decide) mw_481 rfl dX8_votes_117 ?_
                          refine lv_iload hE.1 hE.2.1 dX8_votes_120 (lv_at hl 0 rfl) ?_
                          refine x_vp (nn := 2) (As := [.ref (ad 3), .int (iI (y118_6))]) (rest := [.int (iI (z121))]) hE (s_X5_tasteFor_73_3 l D K ad mm N hNN v ar al hI  (y118_6) (by omega)) wPre_blind (wPre_now hK hN hP) (x_recv hK hP 73 (Nat.lt_of_lt_of_le (by decide) hNN) (xG_5 rfl) rfl) rfl mw_1240 mw_1241 mw_1242 mw_121 mw_1243 (by decide +kernel) ⟨by decide, by decide⟩ hl.1 rfl (Nat.le_of_ble_eq_true rfl) ⟨Nat.zero_le _, Nat.zero_le _⟩ dX8_votes_122 (fun r122 hr122 => ?_)
                          obtain ⟨z122, hz122, rfl⟩ := hr122
                          refine s_icmp_le (a := z121) (b := z122) (tgt := 131) hE.1 hE.2.1 (by omega) (by omega) dX8_votes_125 (by decide) (fun c123 => ?_) (fun c123 => ?_)
                          · skip
                            refine lv_iinc (v := iI (y118_6 + 1)) (lv' := [(6, .int (iI (y118_6 + 1))), (5, .int (iI (y118_5))), (4, .ref (ad 73)), (3, .ref (ad 69)), (0, .ref (ad 0)), (1, .int (iI (1))), (2, .int (iI (3)))]) hE.1 hE.2.1 dX8_votes_131 hl (k := 0) rfl ((iI_add (y118_6) (1)).trans (congrArg iI (by omega))) (by decide) rfl (fun ls hl => ?_)
                            refine lv_goto (tgt := 92) hE.1 hE.2.1 dX8_votes_134 (by decide) ?_
                            exact ih118 _ (by omega) (y118_6 + 1) (y118_5) _ rfl (by omega) (by omega) (lv_sub hl [0, 1, 2, 3, 4, 5, 6] rfl)
                          · skip
                            obtain ⟨z124, hz124, ez124⟩ := iI_of (iI (y118_5) + iI (1))
                            refine lv_iinc (v := iI (z124)) (lv' := [(5, .int (iI (z124))), (6, .int (iI (y118_6))), (4, .ref (ad 73)), (3, .ref (ad 69)), (0, .ref (ad 0)), (1, .int (iI (1))), (2, .int (iI (3)))]) hE.1 hE.2.1 dX8_votes_128 hl (k := 1) rfl ez124 (by decide) rfl (fun ls hl => ?_)
                            refine lv_iinc (v := iI (y118_6 + 1)) (lv' := [(6, .int (iI (y118_6 + 1))), (5, .int (iI (z124))), (4, .ref (ad 73)), (3, .ref (ad 69)), (0, .ref (ad 0)), (1, .int (iI (1))), (2, .int (iI (3)))]) hE.1 hE.2.1 dX8_votes_131 hl (k := 1) rfl ((iI_add (y118_6) (1)).trans (congrArg iI (by omega))) (by decide) rfl (fun ls hl => ?_)
                            refine lv_goto (tgt := 92) hE.1 hE.2.1 dX8_votes_134 (by decide) ?_
                            exact ih118 _ (by omega) (y118_6 + 1) (z124) _ rfl (by omega) (by omega) (lv_sub hl [0, 1, 2, 3, 4, 5, 6] rfl)
                    exact loop118 _ (0) (0) _ rfl (by omega) (by omega) hl
                  · skip
                    refine lv_bipush (v := iI (-2)) hE.1 hE.2.1 dX8_votes_83 (by decide) ?_
                    exact kr _ _ _ rfl ⟨-2, by omega, rfl⟩ dX8_votes_85
              · skip
                refine lv_bipush (v := iI (-6)) hE.1 hE.2.1 dX8_votes_57 (by decide) ?_
                exact kr _ _ _ rfl ⟨-6, by omega, rfl⟩ dX8_votes_59
        · skip
          refine x_aald (r := .ref (ad 71)) hE hK hP 65 4 (Nat.lt_of_lt_of_le (by decide) hNN) (xG_13 rfl) rfl (by unfold vp_in; decide) rfl dX8_votes_32 ?_
          refine lv_astore_n (lv' := [(3, .ref (ad 71)), (0, .ref (ad 0)), (1, .int (iI (2))), (2, .int (iI (z_2)))]) hE.1 hE.2.1 dX8_votes_33 rfl hl (by decide) rfl (fun ls hl => ?_)
          refine lv_aload_n hE.1 hE.2.1 dX8_votes_34 rfl (lv_at hl 1 rfl) ?_
          refine x_get (x := .ref (ad 65)) hE hK hP 0 (Nat.lt_of_lt_of_le (by decide) hNN) (xG_8 rfl) rfl hin8 8 (by decide) mw_488 rfl dX8_votes_35 ?_
          refine lv_iload_n hE.1 hE.2.1 dX8_votes_38 rfl (lv_at hl 3 rfl) ?_
          rcases (show z_2 = 0 ∨ z_2 = 1 ∨ z_2 = 2 ∨ z_2 = 3 by omega) with rfl | rfl | rfl | rfl
          · skip
            refine x_aald (r := .ref (ad 67)) hE hK hP 65 4 (Nat.lt_of_lt_of_le (by decide) hNN) (xG_13 rfl) rfl (by unfold vp_in; decide) rfl dX8_votes_39 ?_
            refine lv_astore (lv' := [(4, .ref (ad 67)), (3, .ref (ad 71)), (0, .ref (ad 0)), (1, .int (iI (2))), (2, .int (iI (0)))]) hE.1 hE.2.1 dX8_votes_40 hl (by decide) rfl (fun ls hl => ?_)
            refine lv_aload_n hE.1 hE.2.1 dX8_votes_42 rfl (lv_at hl 1 rfl) ?_
            obtain ⟨z125, hz125, ez125⟩ := XI_get hI 71 2 (-1) 60 (by decide)
            refine x_get (x := .int (v 71 2)) hE hK hP 71 (Nat.lt_of_lt_of_le (by decide) hNN) (xG_5 rfl) rfl hin5 2 (by decide) mw_451 rfl dX8_votes_43 ?_
            refine x_top (y := iI (z125)) ez125 ?_
            refine s_if_lt (a := z125) (tgt := 57) hE.1 hE.2.1 (by omega) dX8_votes_46 (by decide) (fun c126 => ?_) (fun c126 => ?_)
            · skip
              refine lv_bipush (v := iI (-6)) hE.1 hE.2.1 dX8_votes_57 (by decide) ?_
              exact kr _ _ _ rfl ⟨-6, by omega, rfl⟩ dX8_votes_59
            · skip
              refine lv_aload hE.1 hE.2.1 dX8_votes_49 (lv_at hl 0 rfl) ?_
              obtain ⟨z127, hz127, ez127⟩ := XI_get hI 67 2 (-1) 60 (by decide)
              refine x_get (x := .int (v 67 2)) hE hK hP 67 (Nat.lt_of_lt_of_le (by decide) hNN) (xG_5 rfl) rfl hin5 2 (by decide) mw_451 rfl dX8_votes_51 ?_
              refine x_top (y := iI (z127)) ez127 ?_
              refine s_if_ge (a := z127) (tgt := 60) hE.1 hE.2.1 (by omega) dX8_votes_54 (by decide) (fun c128 => ?_) (fun c128 => ?_)
              · skip
                refine lv_aload_n hE.1 hE.2.1 dX8_votes_60 rfl (lv_at hl 1 rfl) ?_
                refine lv_aload_n hE.1 hE.2.1 dX8_votes_61 rfl (lv_at hl 2 rfl) ?_
                refine x_get (x := .ref (ad 3)) hE hK hP 0 (Nat.lt_of_lt_of_le (by decide) hNN) (xG_8 rfl) rfl hin8 1 (by decide) mw_481 rfl dX8_votes_62 ?_
                refine x_vp (nn := 1) (As := [.ref (ad 3)]) (rest := []) hE (s_X5_isOfMotifs_71_3 l D K ad mm N hNN v ar al hI  ) wPre_blind (wPre_now hK hN hP) (x_recv hK hP 71 (Nat.lt_of_lt_of_le (by decide) hNN) (xG_5 rfl) rfl) rfl mw_1235 mw_1236 mw_1237 mw_121 mw_1238 (by decide +kernel) ⟨by decide, by decide⟩ hl.1 rfl (Nat.le_of_ble_eq_true rfl) ⟨Nat.zero_le _, Nat.zero_le _⟩ dX8_votes_65 (fun r129 hr129 => ?_)
                obtain ⟨z129, hz129, rfl⟩ := hr129
                refine s_if_eq (a := z129) (tgt := 83) hE.1 hE.2.1 (by omega) dX8_votes_68 (by decide) (fun c130 => ?_) (fun c130 => ?_)
                · skip
                  refine lv_bipush (v := iI (-2)) hE.1 hE.2.1 dX8_votes_83 (by decide) ?_
                  exact kr _ _ _ rfl ⟨-2, by omega, rfl⟩ dX8_votes_85
                · skip
                  refine lv_aload hE.1 hE.2.1 dX8_votes_71 (lv_at hl 0 rfl) ?_
                  refine lv_aload_n hE.1 hE.2.1 dX8_votes_73 rfl (lv_at hl 2 rfl) ?_
                  refine x_get (x := .ref (ad 3)) hE hK hP 0 (Nat.lt_of_lt_of_le (by decide) hNN) (xG_8 rfl) rfl hin8 1 (by decide) mw_481 rfl dX8_votes_74 ?_
                  refine x_vp (nn := 1) (As := [.ref (ad 3)]) (rest := []) hE (s_X5_isOfMotifs_67_3 l D K ad mm N hNN v ar al hI  ) wPre_blind (wPre_now hK hN hP) (x_recv hK hP 67 (Nat.lt_of_lt_of_le (by decide) hNN) (xG_5 rfl) rfl) rfl mw_1235 mw_1236 mw_1237 mw_121 mw_1238 (by decide +kernel) ⟨by decide, by decide⟩ hl.1 rfl (Nat.le_of_ble_eq_true rfl) ⟨Nat.zero_le _, Nat.zero_le _⟩ dX8_votes_77 (fun r131 hr131 => ?_)
                  obtain ⟨z131, hz131, rfl⟩ := hr131
                  refine s_if_ne (a := z131) (tgt := 86) hE.1 hE.2.1 (by omega) dX8_votes_80 (by decide) (fun c132 => ?_) (fun c132 => ?_)
                  · skip
                    refine lv_iconst (v := iI (0)) hE.1 hE.2.1 dX8_votes_86 (by decide) ?_
                    refine lv_istore (lv' := [(5, .int (iI (0))), (4, .ref (ad 67)), (3, .ref (ad 71)), (0, .ref (ad 0)), (1, .int (iI (2))), (2, .int (iI (0)))]) hE.1 hE.2.1 dX8_votes_87 hl (by decide) rfl (fun ls hl => ?_)
                    refine lv_iconst (v := iI (0)) hE.1 hE.2.1 dX8_votes_89 (by decide) ?_
                    refine lv_istore (lv' := [(6, .int (iI (0))), (5, .int (iI (0))), (4, .ref (ad 67)), (3, .ref (ad 71)), (0, .ref (ad 0)), (1, .int (iI (2))), (2, .int (iI (0)))]) hE.1 hE.2.1 dX8_votes_90 hl (by decide) rfl (fun ls hl => ?_)
                    have loop133 : ∀ (k133 : Nat) (y133_6 : Int) (y133_5 : Int) (ls : Array Slot), (8 - y133_6).toNat = k133 → (0 ≤ y133_6 ∧ y133_6 ≤ 8) → (-2147483648 ≤ y133_5 ∧ y133_5 ≤ 2147483647) → lv_has ls 7 [(6, .int (iI (y133_6))), (5, .int (iI (y133_5))), (4, .ref (ad 67)), (3, .ref (ad 71)), (0, .ref (ad 0)), (1, .int (iI (2))), (2, .int (iI (0)))] → W p l e (rmD 2) s m args below meth c s.heap [] 0 0 Q (F0 m 92 ls []) := by
                      intro k133
                      induction k133 using Nat.strongRecOn with
                      | _ k133 ih133 =>
                        intro y133_6 y133_5 ls hk133 hb_y133_6 hb_y133_5 hl
                        refine lv_iload hE.1 hE.2.1 dX8_votes_92 (lv_at hl 0 rfl) ?_
                        refine lv_aload_n hE.1 hE.2.1 dX8_votes_94 rfl (lv_at hl 4 rfl) ?_
                        refine x_get (x := .ref (ad 3)) hE hK hP 0 (Nat.lt_of_lt_of_le (by decide) hNN) (xG_8 rfl) rfl hin8 1 (by decide) mw_481 rfl dX8_votes_95 ?_
                        obtain ⟨z134, hz134, ez134⟩ := XI_get hI 3 3 0 8 (by decide)
                        refine x_get (x := .int (v 3 3)) hE hK hP 3 (Nat.lt_of_lt_of_le (by decide) hNN) (xG_1 rfl) rfl hin1 3 (by decide) mw_193 rfl dX8_votes_98 ?_
                        refine x_top (y := iI (z134)) ez134 ?_
                        refine s_icmp_ge (a := y133_6) (b := z134) (tgt := 137) hE.1 hE.2.1 (by omega) (by omega) dX8_votes_101 (by decide) (fun c135 => ?_) (fun c135 => ?_)
                        · skip
                          refine lv_iload hE.1 hE.2.1 dX8_votes_137 (lv_at hl 1 rfl) ?_
                          exact kr _ _ _ rfl ⟨y133_5, by omega, rfl⟩ dX8_votes_139
                        · skip
                          refine lv_aload_n hE.1 hE.2.1 dX8_votes_104 rfl (lv_at hl 3 rfl) ?_
                          refine lv_aload_n hE.1 hE.2.1 dX8_votes_105 rfl (lv_at hl 4 rfl) ?_
                          refine x_get (x := .ref (ad 3)) hE hK hP 0 (Nat.lt_of_lt_of_le (by decide) hNN) (xG_8 rfl) rfl hin8 1 (by decide) mw_481 rfl dX8_votes_106 ?_
                          refine lv_iload hE.1 hE.2.1 dX8_votes_109 (lv_at hl 0 rfl) ?_
                          refine x_vp (nn := 2) (As := [.ref (ad 3), .int (iI (y133_6))]) (rest := []) hE (s_X5_tasteFor_71_3 l D K ad mm N hNN v ar al hI  (y133_6) (by omega)) wPre_blind (wPre_now hK hN hP) (x_recv hK hP 71 (Nat.lt_of_lt_of_le (by decide) hNN) (xG_5 rfl) rfl) rfl mw_1240 mw_1241 mw_1242 mw_121 mw_1243 (by decide +kernel) ⟨by decide, by decide⟩ hl.1 rfl (Nat.le_of_ble_eq_true rfl) ⟨Nat.zero_le _, Nat.zero_le _⟩ dX8_votes_111 (fun r136 hr136 => ?_)
                          obtain ⟨z136, hz136, rfl⟩ := hr136
                          refine lv_aload hE.1 hE.2.1 dX8_votes_114 (lv_at hl 2 rfl) ?_
                          refine lv_aload_n hE.1 hE.2.1 dX8_votes_116 rfl (lv_at hl 4 rfl) ?_
                          refine x_get (x := .ref (ad 3)) hE hK hP 0 (Nat.lt_of_lt_of_le (by decide) hNN) (xG_8 rfl) rfl hin8 1 (by decide) mw_481 rfl dX8_votes_117 ?_
                          refine lv_iload hE.1 hE.2.1 dX8_votes_120 (lv_at hl 0 rfl) ?_
                          refine x_vp (nn := 2) (As := [.ref (ad 3), .int (iI (y133_6))]) (rest := [.int (iI (z136))]) hE (s_X5_tasteFor_67_3 l D K ad mm N hNN v ar al hI  (y133_6) (by omega)) wPre_blind (wPre_now hK hN hP) (x_recv hK hP 67 (Nat.lt_of_lt_of_le (by decide) hNN) (xG_5 rfl) rfl) rfl mw_1240 mw_1241 mw_1242 mw_121 mw_1243 (by decide +kernel) ⟨by decide, by decide⟩ hl.1 rfl (Nat.le_of_ble_eq_true rfl) ⟨Nat.zero_le _, Nat.zero_le _⟩ dX8_votes_122 (fun r137 hr137 => ?_)
                          obtain ⟨z137, hz137, rfl⟩ := hr137
                          refine s_icmp_le (a := z136) (b := z137) (tgt := 131) hE.1 hE.2.1 (by omega) (by omega) dX8_votes_125 (by decide) (fun c138 => ?_) (fun c138 => ?_)
                          · skip
                            refine lv_iinc (v := iI (y133_6 + 1)) (lv' := [(6, .int (iI (y133_6 + 1))), (5, .int (iI (y133_5))), (4, .ref (ad 67)), (3, .ref (ad 71)), (0, .ref (ad 0)), (1, .int (iI (2))), (2, .int (iI (0)))]) hE.1 hE.2.1 dX8_votes_131 hl (k := 0) rfl ((iI_add (y133_6) (1)).trans (congrArg iI (by omega))) (by decide) rfl (fun ls hl => ?_)
                            refine lv_goto (tgt := 92) hE.1 hE.2.1 dX8_votes_134 (by decide) ?_
                            exact ih133 _ (by omega) (y133_6 + 1) (y133_5) _ rfl (by omega) (by omega) (lv_sub hl [0, 1, 2, 3, 4, 5, 6] rfl)
                          · skip
                            obtain ⟨z139, hz139, ez139⟩ := iI_of (iI (y133_5) + iI (1))
                            refine lv_iinc (v := iI (z139)) (lv' := [(5, .int (iI (z139))), (6, .int (iI (y133_6))), (4, .ref (ad 67)), (3, .ref (ad 71)), (0, .ref (ad 0)), (1, .int (iI (2))), (2, .int (iI (0)))]) hE.1 hE.2.1 dX8_votes_128 hl (k := 1) rfl ez139 (by decide) rfl (fun ls hl => ?_)
                            refine lv_iinc (v := iI (y133_6 + 1)) (lv' := [(6, .int (iI (y133_6 + 1))), (5, .int (iI (z139))), (4, .ref (ad 67)), (3, .ref (ad 71)), (0, .ref (ad 0)), (1, .int (iI (2))), (2, .int (iI (0)))]) hE.1 hE.2.1 dX8_votes_131 hl (k := 1) rfl ((iI_add (y133_6) (1)).trans (congrArg iI (by omega))) (by decide) rfl (fun ls hl => ?_)
                            refine lv_goto (tgt := 92) hE.1 hE.2.1 dX8_votes_134 (by decide) ?_
                            exact ih133 _ (by omega) (y133_6 + 1) (z139) _ rfl (by omega) (by omega) (lv_sub hl [0, 1, 2, 3, 4, 5, 6] rfl)
                    exact loop133 _ (0) (0) _ rfl (by omega) (by omega) hl
                  · skip
                    refine lv_bipush (v := iI (-2)) hE.1 hE.2.1 dX8_votes_83 (by decide) ?_
                    exact kr _ _ _ rfl ⟨-2, by omega, rfl⟩ dX8_votes_85
              · skip
                refine lv_bipush (v := iI (-6)) hE.1 hE.2.1 dX8_votes_57 (by decide) ?_
                exact kr _ _ _ rfl ⟨-6, by omega, rfl⟩ dX8_votes_59
          · skip
            refine x_aald (r := .ref (ad 69)) hE hK hP 65 4 (Nat.lt_of_lt_of_le (by decide) hNN) (xG_13 rfl) rfl (by unfold vp_in; decide) rfl dX8_votes_39 ?_
            refine lv_astore (lv' := [(4, .ref (ad 69)), (3, .ref (ad 71)), (0, .ref (ad 0)), (1, .int (iI (2))), (2, .int (iI (1)))]) hE.1 hE.2.1 dX8_votes_40 hl (by decide) rfl (fun ls hl => ?_)
            refine lv_aload_n hE.1 hE.2.1 dX8_votes_42 rfl (lv_at hl 1 rfl) ?_
            obtain ⟨z140, hz140, ez140⟩ := XI_get hI 71 2 (-1) 60 (by decide)
            refine x_get (x := .int (v 71 2)) hE hK hP 71 (Nat.lt_of_lt_of_le (by decide) hNN) (xG_5 rfl) rfl hin5 2 (by decide) mw_451 rfl dX8_votes_43 ?_
            refine x_top (y := iI (z140)) ez140 ?_
            refine s_if_lt (a := z140) (tgt := 57) hE.1 hE.2.1 (by omega) dX8_votes_46 (by decide) (fun c141 => ?_) (fun c141 => ?_)
            · skip
              refine lv_bipush (v := iI (-6)) hE.1 hE.2.1 dX8_votes_57 (by decide) ?_
              exact kr _ _ _ rfl ⟨-6, by omega, rfl⟩ dX8_votes_59
            · skip
              refine lv_aload hE.1 hE.2.1 dX8_votes_49 (lv_at hl 0 rfl) ?_
              obtain ⟨z142, hz142, ez142⟩ := XI_get hI 69 2 (-1) 60 (by decide)
              refine x_get (x := .int (v 69 2)) hE hK hP 69 (Nat.lt_of_lt_of_le (by decide) hNN) (xG_5 rfl) rfl hin5 2 (by decide) mw_451 rfl dX8_votes_51 ?_
              refine x_top (y := iI (z142)) ez142 ?_
              refine s_if_ge (a := z142) (tgt := 60) hE.1 hE.2.1 (by omega) dX8_votes_54 (by decide) (fun c143 => ?_) (fun c143 => ?_)
              · skip
                refine lv_aload_n hE.1 hE.2.1 dX8_votes_60 rfl (lv_at hl 1 rfl) ?_
                refine lv_aload_n hE.1 hE.2.1 dX8_votes_61 rfl (lv_at hl 2 rfl) ?_
                refine x_get (x := .ref (ad 3)) hE hK hP 0 (Nat.lt_of_lt_of_le (by decide) hNN) (xG_8 rfl) rfl hin8 1 (by decide) mw_481 rfl dX8_votes_62 ?_
                refine x_vp (nn := 1) (As := [.ref (ad 3)]) (rest := []) hE (s_X5_isOfMotifs_71_3 l D K ad mm N hNN v ar al hI  ) wPre_blind (wPre_now hK hN hP) (x_recv hK hP 71 (Nat.lt_of_lt_of_le (by decide) hNN) (xG_5 rfl) rfl) rfl mw_1235 mw_1236 mw_1237 mw_121 mw_1238 (by decide +kernel) ⟨by decide, by decide⟩ hl.1 rfl (Nat.le_of_ble_eq_true rfl) ⟨Nat.zero_le _, Nat.zero_le _⟩ dX8_votes_65 (fun r144 hr144 => ?_)
                obtain ⟨z144, hz144, rfl⟩ := hr144
                refine s_if_eq (a := z144) (tgt := 83) hE.1 hE.2.1 (by omega) dX8_votes_68 (by decide) (fun c145 => ?_) (fun c145 => ?_)
                · skip
                  refine lv_bipush (v := iI (-2)) hE.1 hE.2.1 dX8_votes_83 (by decide) ?_
                  exact kr _ _ _ rfl ⟨-2, by omega, rfl⟩ dX8_votes_85
                · skip
                  refine lv_aload hE.1 hE.2.1 dX8_votes_71 (lv_at hl 0 rfl) ?_
                  refine lv_aload_n hE.1 hE.2.1 dX8_votes_73 rfl (lv_at hl 2 rfl) ?_
                  refine x_get (x := .ref (ad 3)) hE hK hP 0 (Nat.lt_of_lt_of_le (by decide) hNN) (xG_8 rfl) rfl hin8 1 (by decide) mw_481 rfl dX8_votes_74 ?_
                  refine x_vp (nn := 1) (As := [.ref (ad 3)]) (rest := []) hE (s_X5_isOfMotifs_69_3 l D K ad mm N hNN v ar al hI  ) wPre_blind (wPre_now hK hN hP) (x_recv hK hP 69 (Nat.lt_of_lt_of_le (by decide) hNN) (xG_5 rfl) rfl) rfl mw_1235 mw_1236 mw_1237 mw_121 mw_1238 (by decide +kernel) ⟨by decide, by decide⟩ hl.1 rfl (Nat.le_of_ble_eq_true rfl) ⟨Nat.zero_le _, Nat.zero_le _⟩ dX8_votes_77 (fun r146 hr146 => ?_)
                  obtain ⟨z146, hz146, rfl⟩ := hr146
                  refine s_if_ne (a := z146) (tgt := 86) hE.1 hE.2.1 (by omega) dX8_votes_80 (by decide) (fun c147 => ?_) (fun c147 => ?_)
                  · skip
                    refine lv_iconst (v := iI (0)) hE.1 hE.2.1 dX8_votes_86 (by decide) ?_
                    refine lv_istore (lv' := [(5, .int (iI (0))), (4, .ref (ad 69)), (3, .ref (ad 71)), (0, .ref (ad 0)), (1, .int (iI (2))), (2, .int (iI (1)))]) hE.1 hE.2.1 dX8_votes_87 hl (by decide) rfl (fun ls hl => ?_)
                    refine lv_iconst (v := iI (0)) hE.1 hE.2.1 dX8_votes_89 (by decide) ?_
                    refine lv_istore (lv' := [(6, .int (iI (0))), (5, .int (iI (0))), (4, .ref (ad 69)), (3, .ref (ad 71)), (0, .ref (ad 0)), (1, .int (iI (2))), (2, .int (iI (1)))]) hE.1 hE.2.1 dX8_votes_90 hl (by decide) rfl (fun ls hl => ?_)
                    have loop148 : ∀ (k148 : Nat) (y148_6 : Int) (y148_5 : Int) (ls : Array Slot), (8 - y148_6).toNat = k148 → (0 ≤ y148_6 ∧ y148_6 ≤ 8) → (-2147483648 ≤ y148_5 ∧ y148_5 ≤ 2147483647) → lv_has ls 7 [(6, .int (iI (y148_6))), (5, .int (iI (y148_5))), (4, .ref (ad 69)), (3, .ref (ad 71)), (0, .ref (ad 0)), (1, .int (iI (2))), (2, .int (iI (1)))] → W p l e (rmD 2) s m args below meth c s.heap [] 0 0 Q (F0 m 92 ls []) := by
                      intro k148
                      induction k148 using Nat.strongRecOn with
                      | _ k148 ih148 =>
                        intro y148_6 y148_5 ls hk148 hb_y148_6 hb_y148_5 hl
                        refine lv_iload hE.1 hE.2.1 dX8_votes_92 (lv_at hl 0 rfl) ?_
                        refine lv_aload_n hE.1 hE.2.1 dX8_votes_94 rfl (lv_at hl 4 rfl) ?_
                        refine x_get (x := .ref (ad 3)) hE hK hP 0 (Nat.lt_of_lt_of_le (by decide) hNN) (xG_8 rfl) rfl hin8 1 (by decide) mw_481 rfl dX8_votes_95 ?_
                        obtain ⟨z149, hz149, ez149⟩ := XI_get hI 3 3 0 8 (by decide)
                        refine x_get (x := .int (v 3 3)) hE hK hP 3 (Nat.lt_of_lt_of_le (by decide) hNN) (xG_1 rfl) rfl hin1 3 (by decide) mw_193 rfl dX8_votes_98 ?_
                        refine x_top (y := iI (z149)) ez149 ?_
                        refine s_icmp_ge (a := y148_6) (b := z149) (tgt := 137) hE.1 hE.2.1 (by omega) (by omega) dX8_votes_101 (by decide) (fun c150 => ?_) (fun c150 => ?_)
                        · skip
                          refine lv_iload hE.1 hE.2.1 dX8_votes_137 (lv_at hl 1 rfl) ?_
                          exact kr _ _ _ rfl ⟨y148_5, by omega, rfl⟩ dX8_votes_139
                        · skip
                          refine lv_aload_n hE.1 hE.2.1 dX8_votes_104 rfl (lv_at hl 3 rfl) ?_
                          refine lv_aload_n hE.1 hE.2.1 dX8_votes_105 rfl (lv_at hl 4 rfl) ?_
                          refine x_get (x := .ref (ad 3)) hE hK hP 0 (Nat.lt_of_lt_of_le (by decide) hNN) (xG_8 rfl) rfl hin8 1 (by decide) mw_481 rfl dX8_votes_106 ?_
                          refine lv_iload hE.1 hE.2.1 dX8_votes_109 (lv_at hl 0 rfl) ?_
                          refine x_vp (nn := 2) (As := [.ref (ad 3), .int (iI (y148_6))]) (rest := []) hE (s_X5_tasteFor_71_3 l D K ad mm N hNN v ar al hI  (y148_6) (by omega)) wPre_blind (wPre_now hK hN hP) (x_recv hK hP 71 (Nat.lt_of_lt_of_le (by decide) hNN) (xG_5 rfl) rfl) rfl mw_1240 mw_1241 mw_1242 mw_121 mw_1243 (by decide +kernel) ⟨by decide, by decide⟩ hl.1 rfl (Nat.le_of_ble_eq_true rfl) ⟨Nat.zero_le _, Nat.zero_le _⟩ dX8_votes_111 (fun r151 hr151 => ?_)
                          obtain ⟨z151, hz151, rfl⟩ := hr151
                          refine lv_aload hE.1 hE.2.1 dX8_votes_114 (lv_at hl 2 rfl) ?_
                          refine lv_aload_n hE.1 hE.2.1 dX8_votes_116 rfl (lv_at hl 4 rfl) ?_
                          refine x_get (x := .ref (ad 3)) hE hK hP 0 (Nat.lt_of_lt_of_le (by decide) hNN) (xG_8 rfl) rfl hin8 1 (by decide) mw_481 rfl dX8_votes_117 ?_
                          refine lv_iload hE.1 hE.2.1 dX8_votes_120 (lv_at hl 0 rfl) ?_
                          refine x_vp (nn := 2) (As := [.ref (ad 3), .int (iI (y148_6))]) (rest := [.int (iI (z151))]) hE (s_X5_tasteFor_69_3 l D K ad mm N hNN v ar al hI  (y148_6) (by omega)) wPre_blind (wPre_now hK hN hP) (x_recv hK hP 69 (Nat.lt_of_lt_of_le (by decide) hNN) (xG_5 rfl) rfl) rfl mw_1240 mw_1241 mw_1242 mw_121 mw_1243 (by decide +kernel) ⟨by decide, by decide⟩ hl.1 rfl (Nat.le_of_ble_eq_true rfl) ⟨Nat.zero_le _, Nat.zero_le _⟩ dX8_votes_122 (fun r152 hr152 => ?_)
                          obtain ⟨z152, hz152, rfl⟩ := hr152
                          refine s_icmp_le (a := z151) (b := z152) (tgt := 131) hE.1 hE.2.1 (by omega) (by omega) dX8_votes_125 (by decide) (fun c153 => ?_) (fun c153 => ?_)
                          · skip
                            refine lv_iinc (v := iI (y148_6 + 1)) (lv' := [(6, .int (iI (y148_6 + 1))), (5, .int (iI (y148_5))), (4, .ref (ad 69)), (3, .ref (ad 71)), (0, .ref (ad 0)), (1, .int (iI (2))), (2, .int (iI (1)))]) hE.1 hE.2.1 dX8_votes_131 hl (k := 0) rfl ((iI_add (y148_6) (1)).trans (congrArg iI (by omega))) (by decide) rfl (fun ls hl => ?_)
                            refine lv_goto (tgt := 92) hE.1 hE.2.1 dX8_votes_134 (by decide) ?_
                            exact ih148 _ (by omega) (y148_6 + 1) (y148_5) _ rfl (by omega) (by omega) (lv_sub hl [0, 1, 2, 3, 4, 5, 6] rfl)
                          · skip
                            obtain ⟨z154, hz154, ez154⟩ := iI_of (iI (y148_5) + iI (1))
                            refine lv_iinc (v := iI (z154)) (lv' := [(5, .int (iI (z154))), (6, .int (iI (y148_6))), (4, .ref (ad 69)), (3, .ref (ad 71)), (0, .ref (ad 0)), (1, .int (iI (2))), (2, .int (iI (1)))]) hE.1 hE.2.1 dX8_votes_128 hl (k := 1) rfl ez154 (by decide) rfl (fun ls hl => ?_)
                            refine lv_iinc (v := iI (y148_6 + 1)) (lv' := [(6, .int (iI (y148_6 + 1))), (5, .int (iI (z154))), (4, .ref (ad 69)), (3, .ref (ad 71)), (0, .ref (ad 0)), (1, .int (iI (2))), (2, .int (iI (1)))]) hE.1 hE.2.1 dX8_votes_131 hl (k := 1) rfl ((iI_add (y148_6) (1)).trans (congrArg iI (by omega))) (by decide) rfl (fun ls hl => ?_)
                            refine lv_goto (tgt := 92) hE.1 hE.2.1 dX8_votes_134 (by decide) ?_
                            exact ih148 _ (by omega) (y148_6 + 1) (z154) _ rfl (by omega) (by omega) (lv_sub hl [0, 1, 2, 3, 4, 5, 6] rfl)
                    exact loop148 _ (0) (0) _ rfl (by omega) (by omega) hl
                  · skip
                    refine lv_bipush (v := iI (-2)) hE.1 hE.2.1 dX8_votes_83 (by decide) ?_
                    exact kr _ _ _ rfl ⟨-2, by omega, rfl⟩ dX8_votes_85
              · skip
                refine lv_bipush (v := iI (-6)) hE.1 hE.2.1 dX8_votes_57 (by decide) ?_
                exact kr _ _ _ rfl ⟨-6, by omega, rfl⟩ dX8_votes_59
          · skip
            refine x_aald (r := .ref (ad 71)) hE hK hP 65 4 (Nat.lt_of_lt_of_le (by decide) hNN) (xG_13 rfl) rfl (by unfold vp_in; decide) rfl dX8_votes_39 ?_
            refine lv_astore (lv' := [(4, .ref (ad 71)), (3, .ref (ad 71)), (0, .ref (ad 0)), (1, .int (iI (2))), (2, .int (iI (2)))]) hE.1 hE.2.1 dX8_votes_40 hl (by decide) rfl (fun ls hl => ?_)
            refine lv_aload_n hE.1 hE.2.1 dX8_votes_42 rfl (lv_at hl 1 rfl) ?_
            obtain ⟨z155, hz155, ez155⟩ := XI_get hI 71 2 (-1) 60 (by decide)
            refine x_get (x := .int (v 71 2)) hE hK hP 71 (Nat.lt_of_lt_of_le (by decide) hNN) (xG_5 rfl) rfl hin5 2 (by decide) mw_451 rfl dX8_votes_43 ?_
            refine x_top (y := iI (z155)) ez155 ?_
            refine s_if_lt (a := z155) (tgt := 57) hE.1 hE.2.1 (by omega) dX8_votes_46 (by decide) (fun c156 => ?_) (fun c156 => ?_)
            · skip
              refine lv_bipush (v := iI (-6)) hE.1 hE.2.1 dX8_votes_57 (by decide) ?_
              exact kr _ _ _ rfl ⟨-6, by omega, rfl⟩ dX8_votes_59
            · skip
              refine lv_aload hE.1 hE.2.1 dX8_votes_49 (lv_at hl 0 rfl) ?_
              refine x_get (x := .int (v 71 2)) hE hK hP 71 (Nat.lt_of_lt_of_le (by decide) hNN) (xG_5 rfl) rfl hin5 2 (by decide) mw_451 rfl dX8_votes_51 ?_
              refine x_top (y := iI (z155)) ez155 ?_
              refine s_if_ge (a := z155) (tgt := 60) hE.1 hE.2.1 (by omega) dX8_votes_54 (by decide) (fun _ => ?_) (fun c157 => False.elim (by omega))
              refine lv_aload_n hE.1 hE.2.1 dX8_votes_60 rfl (lv_at hl 1 rfl) ?_
              refine lv_aload_n hE.1 hE.2.1 dX8_votes_61 rfl (lv_at hl 2 rfl) ?_
              refine x_get (x := .ref (ad 3)) hE hK hP 0 (Nat.lt_of_lt_of_le (by decide) hNN) (xG_8 rfl) rfl hin8 1 (by decide) mw_481 rfl dX8_votes_62 ?_
              refine x_vp (nn := 1) (As := [.ref (ad 3)]) (rest := []) hE (s_X5_isOfMotifs_71_3 l D K ad mm N hNN v ar al hI  ) wPre_blind (wPre_now hK hN hP) (x_recv hK hP 71 (Nat.lt_of_lt_of_le (by decide) hNN) (xG_5 rfl) rfl) rfl mw_1235 mw_1236 mw_1237 mw_121 mw_1238 (by decide +kernel) ⟨by decide, by decide⟩ hl.1 rfl (Nat.le_of_ble_eq_true rfl) ⟨Nat.zero_le _, Nat.zero_le _⟩ dX8_votes_65 (fun r158 hr158 => ?_)
              obtain ⟨z158, hz158, rfl⟩ := hr158
              refine s_if_eq (a := z158) (tgt := 83) hE.1 hE.2.1 (by omega) dX8_votes_68 (by decide) (fun c159 => ?_) (fun c159 => ?_)
              · skip
                refine lv_bipush (v := iI (-2)) hE.1 hE.2.1 dX8_votes_83 (by decide) ?_
                exact kr _ _ _ rfl ⟨-2, by omega, rfl⟩ dX8_votes_85
              · skip
                refine lv_aload hE.1 hE.2.1 dX8_votes_71 (lv_at hl 0 rfl) ?_
                refine lv_aload_n hE.1 hE.2.1 dX8_votes_73 rfl (lv_at hl 2 rfl) ?_
                refine x_get (x := .ref (ad 3)) hE hK hP 0 (Nat.lt_of_lt_of_le (by decide) hNN) (xG_8 rfl) rfl hin8 1 (by decide) mw_481 rfl dX8_votes_74 ?_
                refine x_vp (nn := 1) (As := [.ref (ad 3)]) (rest := []) hE (s_X5_isOfMotifs_71_3 l D K ad mm N hNN v ar al hI  ) wPre_blind (wPre_now hK hN hP) (x_recv hK hP 71 (Nat.lt_of_lt_of_le (by decide) hNN) (xG_5 rfl) rfl) rfl mw_1235 mw_1236 mw_1237 mw_121 mw_1238 (by decide +kernel) ⟨by decide, by decide⟩ hl.1 rfl (Nat.le_of_ble_eq_true rfl) ⟨Nat.zero_le _, Nat.zero_le _⟩ dX8_votes_77 (fun r160 hr160 => ?_)
                obtain ⟨z160, hz160, rfl⟩ := hr160
                refine s_if_ne (a := z160) (tgt := 86) hE.1 hE.2.1 (by omega) dX8_votes_80 (by decide) (fun c161 => ?_) (fun c161 => ?_)
                · skip
                  refine lv_iconst (v := iI (0)) hE.1 hE.2.1 dX8_votes_86 (by decide) ?_
                  refine lv_istore (lv' := [(5, .int (iI (0))), (4, .ref (ad 71)), (3, .ref (ad 71)), (0, .ref (ad 0)), (1, .int (iI (2))), (2, .int (iI (2)))]) hE.1 hE.2.1 dX8_votes_87 hl (by decide) rfl (fun ls hl => ?_)
                  refine lv_iconst (v := iI (0)) hE.1 hE.2.1 dX8_votes_89 (by decide) ?_
                  refine lv_istore (lv' := [(6, .int (iI (0))), (5, .int (iI (0))), (4, .ref (ad 71)), (3, .ref (ad 71)), (0, .ref (ad 0)), (1, .int (iI (2))), (2, .int (iI (2)))]) hE.1 hE.2.1 dX8_votes_90 hl (by decide) rfl (fun ls hl => ?_)
                  have loop162 : ∀ (k162 : Nat) (y162_6 : Int) (y162_5 : Int) (ls : Array Slot), (8 - y162_6).toNat = k162 → (0 ≤ y162_6 ∧ y162_6 ≤ 8) → (-2147483648 ≤ y162_5 ∧ y162_5 ≤ 2147483647) → lv_has ls 7 [(6, .int (iI (y162_6))), (5, .int (iI (y162_5))), (4, .ref (ad 71)), (3, .ref (ad 71)), (0, .ref (ad 0)), (1, .int (iI (2))), (2, .int (iI (2)))] → W p l e (rmD 2) s m args below meth c s.heap [] 0 0 Q (F0 m 92 ls []) := by
                    intro k162
                    induction k162 using Nat.strongRecOn with
                    | _ k162 ih162 =>
                      intro y162_6 y162_5 ls hk162 hb_y162_6 hb_y162_5 hl
                      refine lv_iload hE.1 hE.2.1 dX8_votes_92 (lv_at hl 0 rfl) ?_
                      refine lv_aload_n hE.1 hE.2.1 dX8_votes_94 rfl (lv_at hl 4 rfl) ?_
                      refine x_get (x := .ref (ad 3)) hE hK hP 0 (Nat.lt_of_lt_of_le (by decide) hNN) (xG_8 rfl) rfl hin8 1 (by decide) mw_481 rfl dX8_votes_95 ?_
                      obtain ⟨z163, hz163, ez163⟩ := XI_get hI 3 3 0 8 (by decide)
                      refine x_get (x := .int (v 3 3)) hE hK hP 3 (Nat.lt_of_lt_of_le (by decide) hNN) (xG_1 rfl) rfl hin1 3 (by decide) mw_193 rfl dX8_votes_98 ?_
                      refine x_top (y := iI (z163)) ez163 ?_
                      refine s_icmp_ge (a := y162_6) (b := z163) (tgt := 137) hE.1 hE.2.1 (by omega) (by omega) dX8_votes_101 (by decide) (fun c164 => ?_) (fun c164 => ?_)
                      · skip
                        refine lv_iload hE.1 hE.2.1 dX8_votes_137 (lv_at hl 1 rfl) ?_
                        exact kr _ _ _ rfl ⟨y162_5, by omega, rfl⟩ dX8_votes_139
                      · skip
                        refine lv_aload_n hE.1 hE.2.1 dX8_votes_104 rfl (lv_at hl 3 rfl) ?_
                        refine lv_aload_n hE.1 hE.2.1 dX8_votes_105 rfl (lv_at hl 4 rfl) ?_
                        refine x_get (x := .ref (ad 3)) hE hK hP 0 (Nat.lt_of_lt_of_le (by decide) hNN) (xG_8 rfl) rfl hin8 1 (by decide) mw_481 rfl dX8_votes_106 ?_
                        refine lv_iload hE.1 hE.2.1 dX8_votes_109 (lv_at hl 0 rfl) ?_
                        refine x_vp (nn := 2) (As := [.ref (ad 3), .int (iI (y162_6))]) (rest := []) hE (s_X5_tasteFor_71_3 l D K ad mm N hNN v ar al hI  (y162_6) (by omega)) wPre_blind (wPre_now hK hN hP) (x_recv hK hP 71 (Nat.lt_of_lt_of_le (by decide) hNN) (xG_5 rfl) rfl) rfl mw_1240 mw_1241 mw_1242 mw_121 mw_1243 (by decide +kernel) ⟨by decide, by decide⟩ hl.1 rfl (Nat.le_of_ble_eq_true rfl) ⟨Nat.zero_le _, Nat.zero_le _⟩ dX8_votes_111 (fun r165 hr165 => ?_)
                        obtain ⟨z165, hz165, rfl⟩ := hr165
                        refine lv_aload hE.1 hE.2.1 dX8_votes_114 (lv_at hl 2 rfl) ?_
                        refine lv_aload_n hE.1 hE.2.1 dX8_votes_116 rfl (lv_at hl 4 rfl) ?_
                        refine x_get (x := .ref (ad 3)) hE hK hP 0 (Nat.lt_of_lt_of_le (by decide) hNN) (xG_8 rfl) rfl hin8 1 (by decide) mw_481 rfl dX8_votes_117 ?_
                        refine lv_iload hE.1 hE.2.1 dX8_votes_120 (lv_at hl 0 rfl) ?_
                        refine x_vp (nn := 2) (As := [.ref (ad 3), .int (iI (y162_6))]) (rest := [.int (iI (z165))]) hE (s_X5_tasteFor_71_3 l D K ad mm N hNN v ar al hI  (y162_6) (by omega)) wPre_blind (wPre_now hK hN hP) (x_recv hK hP 71 (Nat.lt_of_lt_of_le (by decide) hNN) (xG_5 rfl) rfl) rfl mw_1240 mw_1241 mw_1242 mw_121 mw_1243 (by decide +kernel) ⟨by decide, by decide⟩ hl.1 rfl (Nat.le_of_ble_eq_true rfl) ⟨Nat.zero_le _, Nat.zero_le _⟩ dX8_votes_122 (fun r166 hr166 => ?_)
                        obtain ⟨z166, hz166, rfl⟩ := hr166
                        refine s_icmp_le (a := z165) (b := z166) (tgt := 131) hE.1 hE.2.1 (by omega) (by omega) dX8_votes_125 (by decide) (fun c167 => ?_) (fun c167 => ?_)
                        · skip
                          refine lv_iinc (v := iI (y162_6 + 1)) (lv' := [(6, .int (iI (y162_6 + 1))), (5, .int (iI (y162_5))), (4, .ref (ad 71)), (3, .ref (ad 71)), (0, .ref (ad 0)), (1, .int (iI (2))), (2, .int (iI (2)))]) hE.1 hE.2.1 dX8_votes_131 hl (k := 0) rfl ((iI_add (y162_6) (1)).trans (congrArg iI (by omega))) (by decide) rfl (fun ls hl => ?_)
                          refine lv_goto (tgt := 92) hE.1 hE.2.1 dX8_votes_134 (by decide) ?_
                          exact ih162 _ (by omega) (y162_6 + 1) (y162_5) _ rfl (by omega) (by omega) (lv_sub hl [0, 1, 2, 3, 4, 5, 6] rfl)
                        · skip
                          obtain ⟨z168, hz168, ez168⟩ := iI_of (iI (y162_5) + iI (1))
                          refine lv_iinc (v := iI (z168)) (lv' := [(5, .int (iI (z168))), (6, .int (iI (y162_6))), (4, .ref (ad 71)), (3, .ref (ad 71)), (0, .ref (ad 0)), (1, .int (iI (2))), (2, .int (iI (2)))]) hE.1 hE.2.1 dX8_votes_128 hl (k := 1) rfl ez168 (by decide) rfl (fun ls hl => ?_)
                          refine lv_iinc (v := iI (y162_6 + 1)) (lv' := [(6, .int (iI (y162_6 + 1))), (5, .int (iI (z168))), (4, .ref (ad 71)), (3, .ref (ad 71)), (0, .ref (ad 0)), (1, .int (iI (2))), (2, .int (iI (2)))]) hE.1 hE.2.1 dX8_votes_131 hl (k := 1) rfl ((iI_add (y162_6) (1)).trans (congrArg iI (by omega))) (by decide) rfl (fun ls hl => ?_)
                          refine lv_goto (tgt := 92) hE.1 hE.2.1 dX8_votes_134 (by decide) ?_
                          exact ih162 _ (by omega) (y162_6 + 1) (z168) _ rfl (by omega) (by omega) (lv_sub hl [0, 1, 2, 3, 4, 5, 6] rfl)
                  exact loop162 _ (0) (0) _ rfl (by omega) (by omega) hl
                · skip
                  refine lv_bipush (v := iI (-2)) hE.1 hE.2.1 dX8_votes_83 (by decide) ?_
                  exact kr _ _ _ rfl ⟨-2, by omega, rfl⟩ dX8_votes_85
          · skip
            refine x_aald (r := .ref (ad 73)) hE hK hP 65 4 (Nat.lt_of_lt_of_le (by decide) hNN) (xG_13 rfl) rfl (by unfold vp_in; decide) rfl dX8_votes_39 ?_
            refine lv_astore (lv' := [(4, .ref (ad 73)), (3, .ref (ad 71)), (0, .ref (ad 0)), (1, .int (iI (2))), (2, .int (iI (3)))]) hE.1 hE.2.1 dX8_votes_40 hl (by decide) rfl (fun ls hl => ?_)
            refine lv_aload_n hE.1 hE.2.1 dX8_votes_42 rfl (lv_at hl 1 rfl) ?_
            obtain ⟨z169, hz169, ez169⟩ := XI_get hI 71 2 (-1) 60 (by decide)
            refine x_get (x := .int (v 71 2)) hE hK hP 71 (Nat.lt_of_lt_of_le (by decide) hNN) (xG_5 rfl) rfl hin5 2 (by decide) mw_451 rfl dX8_votes_43 ?_
            refine x_top (y := iI (z169)) ez169 ?_
            refine s_if_lt (a := z169) (tgt := 57) hE.1 hE.2.1 (by omega) dX8_votes_46 (by decide) (fun c170 => ?_) (fun c170 => ?_)
            · skip
              refine lv_bipush (v := iI (-6)) hE.1 hE.2.1 dX8_votes_57 (by decide) ?_
              exact kr _ _ _ rfl ⟨-6, by omega, rfl⟩ dX8_votes_59
            · skip
              refine lv_aload hE.1 hE.2.1 dX8_votes_49 (lv_at hl 0 rfl) ?_
              obtain ⟨z171, hz171, ez171⟩ := XI_get hI 73 2 (-1) 60 (by decide)
              refine x_get (x := .int (v 73 2)) hE hK hP 73 (Nat.lt_of_lt_of_le (by decide) hNN) (xG_5 rfl) rfl hin5 2 (by decide) mw_451 rfl dX8_votes_51 ?_
              refine x_top (y := iI (z171)) ez171 ?_
              refine s_if_ge (a := z171) (tgt := 60) hE.1 hE.2.1 (by omega) dX8_votes_54 (by decide) (fun c172 => ?_) (fun c172 => ?_)
              · skip
                refine lv_aload_n hE.1 hE.2.1 dX8_votes_60 rfl (lv_at hl 1 rfl) ?_
                refine lv_aload_n hE.1 hE.2.1 dX8_votes_61 rfl (lv_at hl 2 rfl) ?_
                refine x_get (x := .ref (ad 3)) hE hK hP 0 (Nat.lt_of_lt_of_le (by decide) hNN) (xG_8 rfl) rfl hin8 1 (by decide) mw_481 rfl dX8_votes_62 ?_
                refine x_vp (nn := 1) (As := [.ref (ad 3)]) (rest := []) hE (s_X5_isOfMotifs_71_3 l D K ad mm N hNN v ar al hI  ) wPre_blind (wPre_now hK hN hP) (x_recv hK hP 71 (Nat.lt_of_lt_of_le (by decide) hNN) (xG_5 rfl) rfl) rfl mw_1235 mw_1236 mw_1237 mw_121 mw_1238 (by decide +kernel) ⟨by decide, by decide⟩ hl.1 rfl (Nat.le_of_ble_eq_true rfl) ⟨Nat.zero_le _, Nat.zero_le _⟩ dX8_votes_65 (fun r173 hr173 => ?_)
                obtain ⟨z173, hz173, rfl⟩ := hr173
                refine s_if_eq (a := z173) (tgt := 83) hE.1 hE.2.1 (by omega) dX8_votes_68 (by decide) (fun c174 => ?_) (fun c174 => ?_)
                · skip
                  refine lv_bipush (v := iI (-2)) hE.1 hE.2.1 dX8_votes_83 (by decide) ?_
                  exact kr _ _ _ rfl ⟨-2, by omega, rfl⟩ dX8_votes_85
                · skip
                  refine lv_aload hE.1 hE.2.1 dX8_votes_71 (lv_at hl 0 rfl) ?_
                  refine lv_aload_n hE.1 hE.2.1 dX8_votes_73 rfl (lv_at hl 2 rfl) ?_
                  refine x_get (x := .ref (ad 3)) hE hK hP 0 (Nat.lt_of_lt_of_le (by decide) hNN) (xG_8 rfl) rfl hin8 1 (by decide) mw_481 rfl dX8_votes_74 ?_
                  refine x_vp (nn := 1) (As := [.ref (ad 3)]) (rest := []) hE (s_X5_isOfMotifs_73_3 l D K ad mm N hNN v ar al hI  ) wPre_blind (wPre_now hK hN hP) (x_recv hK hP 73 (Nat.lt_of_lt_of_le (by decide) hNN) (xG_5 rfl) rfl) rfl mw_1235 mw_1236 mw_1237 mw_121 mw_1238 (by decide +kernel) ⟨by decide, by decide⟩ hl.1 rfl (Nat.le_of_ble_eq_true rfl) ⟨Nat.zero_le _, Nat.zero_le _⟩ dX8_votes_77 (fun r175 hr175 => ?_)
                  obtain ⟨z175, hz175, rfl⟩ := hr175
                  refine s_if_ne (a := z175) (tgt := 86) hE.1 hE.2.1 (by omega) dX8_votes_80 (by decide) (fun c176 => ?_) (fun c176 => ?_)
                  · skip
                    refine lv_iconst (v := iI (0)) hE.1 hE.2.1 dX8_votes_86 (by decide) ?_
                    refine lv_istore (lv' := [(5, .int (iI (0))), (4, .ref (ad 73)), (3, .ref (ad 71)), (0, .ref (ad 0)), (1, .int (iI (2))), (2, .int (iI (3)))]) hE.1 hE.2.1 dX8_votes_87 hl (by decide) rfl (fun ls hl => ?_)
                    refine lv_iconst (v := iI (0)) hE.1 hE.2.1 dX8_votes_89 (by decide) ?_
                    refine lv_istore (lv' := [(6, .int (iI (0))), (5, .int (iI (0))), (4, .ref (ad 73)), (3, .ref (ad 71)), (0, .ref (ad 0)), (1, .int (iI (2))), (2, .int (iI (3)))]) hE.1 hE.2.1 dX8_votes_90 hl (by decide) rfl (fun ls hl => ?_)
                    have loop177 : ∀ (k177 : Nat) (y177_6 : Int) (y177_5 : Int) (ls : Array Slot), (8 - y177_6).toNat = k177 → (0 ≤ y177_6 ∧ y177_6 ≤ 8) → (-2147483648 ≤ y177_5 ∧ y177_5 ≤ 2147483647) → lv_has ls 7 [(6, .int (iI (y177_6))), (5, .int (iI (y177_5))), (4, .ref (ad 73)), (3, .ref (ad 71)), (0, .ref (ad 0)), (1, .int (iI (2))), (2, .int (iI (3)))] → W p l e (rmD 2) s m args below meth c s.heap [] 0 0 Q (F0 m 92 ls []) := by
                      intro k177
                      induction k177 using Nat.strongRecOn with
                      | _ k177 ih177 =>
                        intro y177_6 y177_5 ls hk177 hb_y177_6 hb_y177_5 hl
                        refine lv_iload hE.1 hE.2.1 dX8_votes_92 (lv_at hl 0 rfl) ?_
                        refine lv_aload_n hE.1 hE.2.1 dX8_votes_94 rfl (lv_at hl 4 rfl) ?_
                        refine x_get (x := .ref (ad 3)) hE hK hP 0 (Nat.lt_of_lt_of_le (by decide) hNN) (xG_8 rfl) rfl hin8 1 (by decide) mw_481 rfl dX8_votes_95 ?_
                        obtain ⟨z178, hz178, ez178⟩ := XI_get hI 3 3 0 8 (by decide)
                        refine x_get (x := .int (v 3 3)) hE hK hP 3 (Nat.lt_of_lt_of_le (by decide) hNN) (xG_1 rfl) rfl hin1 3 (by decide) mw_193 rfl dX8_votes_98 ?_
                        refine x_top (y := iI (z178)) ez178 ?_
                        refine s_icmp_ge (a := y177_6) (b := z178) (tgt := 137) hE.1 hE.2.1 (by omega) (by omega) dX8_votes_101 (by decide) (fun c179 => ?_) (fun c179 => ?_)
                        · skip
                          refine lv_iload hE.1 hE.2.1 dX8_votes_137 (lv_at hl 1 rfl) ?_
                          exact kr _ _ _ rfl ⟨y177_5, by omega, rfl⟩ dX8_votes_139
                        · skip
                          refine lv_aload_n hE.1 hE.2.1 dX8_votes_104 rfl (lv_at hl 3 rfl) ?_
                          refine lv_aload_n hE.1 hE.2.1 dX8_votes_105 rfl (lv_at hl 4 rfl) ?_
                          refine x_get (x := .ref (ad 3)) hE hK hP 0 (Nat.lt_of_lt_of_le (by decide) hNN) (xG_8 rfl) rfl hin8 1 (by decide) mw_481 rfl dX8_votes_106 ?_
                          refine lv_iload hE.1 hE.2.1 dX8_votes_109 (lv_at hl 0 rfl) ?_
                          refine x_vp (nn := 2) (As := [.ref (ad 3), .int (iI (y177_6))]) (rest := []) hE (s_X5_tasteFor_71_3 l D K ad mm N hNN v ar al hI  (y177_6) (by omega)) wPre_blind (wPre_now hK hN hP) (x_recv hK hP 71 (Nat.lt_of_lt_of_le (by decide) hNN) (xG_5 rfl) rfl) rfl mw_1240 mw_1241 mw_1242 mw_121 mw_1243 (by decide +kernel) ⟨by decide, by decide⟩ hl.1 rfl (Nat.le_of_ble_eq_true rfl) ⟨Nat.zero_le _, Nat.zero_le _⟩ dX8_votes_111 (fun r180 hr180 => ?_)
                          obtain ⟨z180, hz180, rfl⟩ := hr180
                          refine lv_aload hE.1 hE.2.1 dX8_votes_114 (lv_at hl 2 rfl) ?_
                          refine lv_aload_n hE.1 hE.2.1 dX8_votes_116 rfl (lv_at hl 4 rfl) ?_
                          refine x_get (x := .ref (ad 3)) hE hK hP 0 (Nat.lt_of_lt_of_le (by decide) hNN) (xG_8 rfl) rfl hin8 1 (by decide) mw_481 rfl dX8_votes_117 ?_
                          refine lv_iload hE.1 hE.2.1 dX8_votes_120 (lv_at hl 0 rfl) ?_
                          refine x_vp (nn := 2) (As := [.ref (ad 3), .int (iI (y177_6))]) (rest := [.int (iI (z180))]) hE (s_X5_tasteFor_73_3 l D K ad mm N hNN v ar al hI  (y177_6) (by omega)) wPre_blind (wPre_now hK hN hP) (x_recv hK hP 73 (Nat.lt_of_lt_of_le (by decide) hNN) (xG_5 rfl) rfl) rfl mw_1240 mw_1241 mw_1242 mw_121 mw_1243 (by decide +kernel) ⟨by decide, by decide⟩ hl.1 rfl (Nat.le_of_ble_eq_true rfl) ⟨Nat.zero_le _, Nat.zero_le _⟩ dX8_votes_122 (fun r181 hr181 => ?_)
                          obtain ⟨z181, hz181, rfl⟩ := hr181
                          refine s_icmp_le (a := z180) (b := z181) (tgt := 131) hE.1 hE.2.1 (by omega) (by omega) dX8_votes_125 (by decide) (fun c182 => ?_) (fun c182 => ?_)
                          · skip
                            refine lv_iinc (v := iI (y177_6 + 1)) (lv' := [(6, .int (iI (y177_6 + 1))), (5, .int (iI (y177_5))), (4, .ref (ad 73)), (3, .ref (ad 71)), (0, .ref (ad 0)), (1, .int (iI (2))), (2, .int (iI (3)))]) hE.1 hE.2.1 dX8_votes_131 hl (k := 0) rfl ((iI_add (y177_6) (1)).trans (congrArg iI (by omega))) (by decide) rfl (fun ls hl => ?_)
                            refine lv_goto (tgt := 92) hE.1 hE.2.1 dX8_votes_134 (by decide) ?_
                            exact ih177 _ (by omega) (y177_6 + 1) (y177_5) _ rfl (by omega) (by omega) (lv_sub hl [0, 1, 2, 3, 4, 5, 6] rfl)
                          · skip
                            obtain ⟨z183, hz183, ez183⟩ := iI_of (iI (y177_5) + iI (1))
                            refine lv_iinc (v := iI (z183)) (lv' := [(5, .int (iI (z183))), (6, .int (iI (y177_6))), (4, .ref (ad 73)), (3, .ref (ad 71)), (0, .ref (ad 0)), (1, .int (iI (2))), (2, .int (iI (3)))]) hE.1 hE.2.1 dX8_votes_128 hl (k := 1) rfl ez183 (by decide) rfl (fun ls hl => ?_)
                            refine lv_iinc (v := iI (y177_6 + 1)) (lv' := [(6, .int (iI (y177_6 + 1))), (5, .int (iI (z183))), (4, .ref (ad 73)), (3, .ref (ad 71)), (0, .ref (ad 0)), (1, .int (iI (2))), (2, .int (iI (3)))]) hE.1 hE.2.1 dX8_votes_131 hl (k := 1) rfl ((iI_add (y177_6) (1)).trans (congrArg iI (by omega))) (by decide) rfl (fun ls hl => ?_)
                            refine lv_goto (tgt := 92) hE.1 hE.2.1 dX8_votes_134 (by decide) ?_
                            exact ih177 _ (by omega) (y177_6 + 1) (z183) _ rfl (by omega) (by omega) (lv_sub hl [0, 1, 2, 3, 4, 5, 6] rfl)
                    exact loop177 _ (0) (0) _ rfl (by omega) (by omega) hl
                  · skip
                    refine lv_bipush (v := iI (-2)) hE.1 hE.2.1 dX8_votes_83 (by decide) ?_
                    exact kr _ _ _ rfl ⟨-2, by omega, rfl⟩ dX8_votes_85
              · skip
                refine lv_bipush (v := iI (-6)) hE.1 hE.2.1 dX8_votes_57 (by decide) ?_
                exact kr _ _ _ rfl ⟨-6, by omega, rfl⟩ dX8_votes_59
        · skip
          refine x_aald (r := .ref (ad 73)) hE hK hP 65 4 (Nat.lt_of_lt_of_le (by decide) hNN) (xG_13 rfl) rfl (by unfold vp_in; decide) rfl dX8_votes_32 ?_
          refine lv_astore_n (lv' := [(3, .ref (ad 73)), (0, .ref (ad 0)), (1, .int (iI (3))), (2, .int (iI (z_2)))]) hE.1 hE.2.1 dX8_votes_33 rfl hl (by decide) rfl (fun ls hl => ?_)
          refine lv_aload_n hE.1 hE.2.1 dX8_votes_34 rfl (lv_at hl 1 rfl) ?_
          refine x_get (x := .ref (ad 65)) hE hK hP 0 (Nat.lt_of_lt_of_le (by decide) hNN) (xG_8 rfl) rfl hin8 8 (by decide) mw_488 rfl dX8_votes_35 ?_
          refine lv_iload_n hE.1 hE.2.1 dX8_votes_38 rfl (lv_at hl 3 rfl) ?_
          rcases (show z_2 = 0 ∨ z_2 = 1 ∨ z_2 = 2 ∨ z_2 = 3 by omega) with rfl | rfl | rfl | rfl
          · skip
            refine x_aald (r := .ref (ad 67)) hE hK hP 65 4 (Nat.lt_of_lt_of_le (by decide) hNN) (xG_13 rfl) rfl (by unfold vp_in; decide) rfl dX8_votes_39 ?_
            refine lv_astore (lv' := [(4, .ref (ad 67)), (3, .ref (ad 73)), (0, .ref (ad 0)), (1, .int (iI (3))), (2, .int (iI (0)))]) hE.1 hE.2.1 dX8_votes_40 hl (by decide) rfl (fun ls hl => ?_)
            refine lv_aload_n hE.1 hE.2.1 dX8_votes_42 rfl (lv_at hl 1 rfl) ?_
            obtain ⟨z184, hz184, ez184⟩ := XI_get hI 73 2 (-1) 60 (by decide)
            refine x_get (x := .int (v 73 2)) hE hK hP 73 (Nat.lt_of_lt_of_le (by decide) hNN) (xG_5 rfl) rfl hin5 2 (by decide) mw_451 rfl dX8_votes_43 ?_
            refine x_top (y := iI (z184)) ez184 ?_
            refine s_if_lt (a := z184) (tgt := 57) hE.1 hE.2.1 (by omega) dX8_votes_46 (by decide) (fun c185 => ?_) (fun c185 => ?_)
            · skip
              refine lv_bipush (v := iI (-6)) hE.1 hE.2.1 dX8_votes_57 (by decide) ?_
              exact kr _ _ _ rfl ⟨-6, by omega, rfl⟩ dX8_votes_59
            · skip
              refine lv_aload hE.1 hE.2.1 dX8_votes_49 (lv_at hl 0 rfl) ?_
              obtain ⟨z186, hz186, ez186⟩ := XI_get hI 67 2 (-1) 60 (by decide)
              refine x_get (x := .int (v 67 2)) hE hK hP 67 (Nat.lt_of_lt_of_le (by decide) hNN) (xG_5 rfl) rfl hin5 2 (by decide) mw_451 rfl dX8_votes_51 ?_
              refine x_top (y := iI (z186)) ez186 ?_
              refine s_if_ge (a := z186) (tgt := 60) hE.1 hE.2.1 (by omega) dX8_votes_54 (by decide) (fun c187 => ?_) (fun c187 => ?_)
              · skip
                refine lv_aload_n hE.1 hE.2.1 dX8_votes_60 rfl (lv_at hl 1 rfl) ?_
                refine lv_aload_n hE.1 hE.2.1 dX8_votes_61 rfl (lv_at hl 2 rfl) ?_
                refine x_get (x := .ref (ad 3)) hE hK hP 0 (Nat.lt_of_lt_of_le (by decide) hNN) (xG_8 rfl) rfl hin8 1 (by decide) mw_481 rfl dX8_votes_62 ?_
                refine x_vp (nn := 1) (As := [.ref (ad 3)]) (rest := []) hE (s_X5_isOfMotifs_73_3 l D K ad mm N hNN v ar al hI  ) wPre_blind (wPre_now hK hN hP) (x_recv hK hP 73 (Nat.lt_of_lt_of_le (by decide) hNN) (xG_5 rfl) rfl) rfl mw_1235 mw_1236 mw_1237 mw_121 mw_1238 (by decide +kernel) ⟨by decide, by decide⟩ hl.1 rfl (Nat.le_of_ble_eq_true rfl) ⟨Nat.zero_le _, Nat.zero_le _⟩ dX8_votes_65 (fun r188 hr188 => ?_)
                obtain ⟨z188, hz188, rfl⟩ := hr188
                refine s_if_eq (a := z188) (tgt := 83) hE.1 hE.2.1 (by omega) dX8_votes_68 (by decide) (fun c189 => ?_) (fun c189 => ?_)
                · skip
                  refine lv_bipush (v := iI (-2)) hE.1 hE.2.1 dX8_votes_83 (by decide) ?_
                  exact kr _ _ _ rfl ⟨-2, by omega, rfl⟩ dX8_votes_85
                · skip
                  refine lv_aload hE.1 hE.2.1 dX8_votes_71 (lv_at hl 0 rfl) ?_
                  refine lv_aload_n hE.1 hE.2.1 dX8_votes_73 rfl (lv_at hl 2 rfl) ?_
                  refine x_get (x := .ref (ad 3)) hE hK hP 0 (Nat.lt_of_lt_of_le (by decide) hNN) (xG_8 rfl) rfl hin8 1 (by decide) mw_481 rfl dX8_votes_74 ?_
                  refine x_vp (nn := 1) (As := [.ref (ad 3)]) (rest := []) hE (s_X5_isOfMotifs_67_3 l D K ad mm N hNN v ar al hI  ) wPre_blind (wPre_now hK hN hP) (x_recv hK hP 67 (Nat.lt_of_lt_of_le (by decide) hNN) (xG_5 rfl) rfl) rfl mw_1235 mw_1236 mw_1237 mw_121 mw_1238 (by decide +kernel) ⟨by decide, by decide⟩ hl.1 rfl (Nat.le_of_ble_eq_true rfl) ⟨Nat.zero_le _, Nat.zero_le _⟩ dX8_votes_77 (fun r190 hr190 => ?_)
                  obtain ⟨z190, hz190, rfl⟩ := hr190
                  refine s_if_ne (a := z190) (tgt := 86) hE.1 hE.2.1 (by omega) dX8_votes_80 (by decide) (fun c191 => ?_) (fun c191 => ?_)
                  · skip
                    refine lv_iconst (v := iI (0)) hE.1 hE.2.1 dX8_votes_86 (by decide) ?_
                    refine lv_istore (lv' := [(5, .int (iI (0))), (4, .ref (ad 67)), (3, .ref (ad 73)), (0, .ref (ad 0)), (1, .int (iI (3))), (2, .int (iI (0)))]) hE.1 hE.2.1 dX8_votes_87 hl (by decide) rfl (fun ls hl => ?_)
                    refine lv_iconst (v := iI (0)) hE.1 hE.2.1 dX8_votes_89 (by decide) ?_
                    refine lv_istore (lv' := [(6, .int (iI (0))), (5, .int (iI (0))), (4, .ref (ad 67)), (3, .ref (ad 73)), (0, .ref (ad 0)), (1, .int (iI (3))), (2, .int (iI (0)))]) hE.1 hE.2.1 dX8_votes_90 hl (by decide) rfl (fun ls hl => ?_)
                    have loop192 : ∀ (k192 : Nat) (y192_6 : Int) (y192_5 : Int) (ls : Array Slot), (8 - y192_6).toNat = k192 → (0 ≤ y192_6 ∧ y192_6 ≤ 8) → (-2147483648 ≤ y192_5 ∧ y192_5 ≤ 2147483647) → lv_has ls 7 [(6, .int (iI (y192_6))), (5, .int (iI (y192_5))), (4, .ref (ad 67)), (3, .ref (ad 73)), (0, .ref (ad 0)), (1, .int (iI (3))), (2, .int (iI (0)))] → W p l e (rmD 2) s m args below meth c s.heap [] 0 0 Q (F0 m 92 ls []) := by
                      intro k192
                      induction k192 using Nat.strongRecOn with
                      | _ k192 ih192 =>
                        intro y192_6 y192_5 ls hk192 hb_y192_6 hb_y192_5 hl
                        refine lv_iload hE.1 hE.2.1 dX8_votes_92 (lv_at hl 0 rfl) ?_
                        refine lv_aload_n hE.1 hE.2.1 dX8_votes_94 rfl (lv_at hl 4 rfl) ?_
                        refine x_get (x := .ref (ad 3)) hE hK hP 0 (Nat.lt_of_lt_of_le (by decide) hNN) (xG_8 rfl) rfl hin8 1 (by decide) mw_481 rfl dX8_votes_95 ?_
                        obtain ⟨z193, hz193, ez193⟩ := XI_get hI 3 3 0 8 (by decide)
                        refine x_get (x := .int (v 3 3)) hE hK hP 3 (Nat.lt_of_lt_of_le (by decide) hNN) (xG_1 rfl) rfl hin1 3 (by decide) mw_193 rfl dX8_votes_98 ?_
                        refine x_top (y := iI (z193)) ez193 ?_
                        refine s_icmp_ge (a := y192_6) (b := z193) (tgt := 137) hE.1 hE.2.1 (by omega) (by omega) dX8_votes_101 (by decide) (fun c194 => ?_) (fun c194 => ?_)
                        · skip
                          refine lv_iload hE.1 hE.2.1 dX8_votes_137 (lv_at hl 1 rfl) ?_
                          exact kr _ _ _ rfl ⟨y192_5, by omega, rfl⟩ dX8_votes_139
                        · skip
                          refine lv_aload_n hE.1 hE.2.1 dX8_votes_104 rfl (lv_at hl 3 rfl) ?_
                          refine lv_aload_n hE.1 hE.2.1 dX8_votes_105 rfl (lv_at hl 4 rfl) ?_
                          refine x_get (x := .ref (ad 3)) hE hK hP 0 (Nat.lt_of_lt_of_le (by decide) hNN) (xG_8 rfl) rfl hin8 1 (by decide) mw_481 rfl dX8_votes_106 ?_
                          refine lv_iload hE.1 hE.2.1 dX8_votes_109 (lv_at hl 0 rfl) ?_
                          refine x_vp (nn := 2) (As := [.ref (ad 3), .int (iI (y192_6))]) (rest := []) hE (s_X5_tasteFor_73_3 l D K ad mm N hNN v ar al hI  (y192_6) (by omega)) wPre_blind (wPre_now hK hN hP) (x_recv hK hP 73 (Nat.lt_of_lt_of_le (by decide) hNN) (xG_5 rfl) rfl) rfl mw_1240 mw_1241 mw_1242 mw_121 mw_1243 (by decide +kernel) ⟨by decide, by decide⟩ hl.1 rfl (Nat.le_of_ble_eq_true rfl) ⟨Nat.zero_le _, Nat.zero_le _⟩ dX8_votes_111 (fun r195 hr195 => ?_)
                          obtain ⟨z195, hz195, rfl⟩ := hr195
                          refine lv_aload hE.1 hE.2.1 dX8_votes_114 (lv_at hl 2 rfl) ?_
                          refine lv_aload_n hE.1 hE.2.1 dX8_votes_116 rfl (lv_at hl 4 rfl) ?_
                          refine x_get (x := .ref (ad 3)) hE hK hP 0 (Nat.lt_of_lt_of_le (by decide) hNN) (xG_8 rfl) rfl hin8 1 (by decide) mw_481 rfl dX8_votes_117 ?_
                          refine lv_iload hE.1 hE.2.1 dX8_votes_120 (lv_at hl 0 rfl) ?_
                          refine x_vp (nn := 2) (As := [.ref (ad 3), .int (iI (y192_6))]) (rest := [.int (iI (z195))]) hE (s_X5_tasteFor_67_3 l D K ad mm N hNN v ar al hI  (y192_6) (by omega)) wPre_blind (wPre_now hK hN hP) (x_recv hK hP 67 (Nat.lt_of_lt_of_le (by decide) hNN) (xG_5 rfl) rfl) rfl mw_1240 mw_1241 mw_1242 mw_121 mw_1243 (by decide +kernel) ⟨by decide, by decide⟩ hl.1 rfl (Nat.le_of_ble_eq_true rfl) ⟨Nat.zero_le _, Nat.zero_le _⟩ dX8_votes_122 (fun r196 hr196 => ?_)
                          obtain ⟨z196, hz196, rfl⟩ := hr196
                          refine s_icmp_le (a := z195) (b := z196) (tgt := 131) hE.1 hE.2.1 (by omega) (by omega) dX8_votes_125 (by decide) (fun c197 => ?_) (fun c197 => ?_)
                          · skip
                            refine lv_iinc (v := iI (y192_6 + 1)) (lv' := [(6, .int (iI (y192_6 + 1))), (5, .int (iI (y192_5))), (4, .ref (ad 67)), (3, .ref (ad 73)), (0, .ref (ad 0)), (1, .int (iI (3))), (2, .int (iI (0)))]) hE.1 hE.2.1 dX8_votes_131 hl (k := 0) rfl ((iI_add (y192_6) (1)).trans (congrArg iI (by omega))) (by decide) rfl (fun ls hl => ?_)
                            refine lv_goto (tgt := 92) hE.1 hE.2.1 dX8_votes_134 (by decide) ?_
                            exact ih192 _ (by omega) (y192_6 + 1) (y192_5) _ rfl (by omega) (by omega) (lv_sub hl [0, 1, 2, 3, 4, 5, 6] rfl)
                          · skip
                            obtain ⟨z198, hz198, ez198⟩ := iI_of (iI (y192_5) + iI (1))
                            refine lv_iinc (v := iI (z198)) (lv' := [(5, .int (iI (z198))), (6, .int (iI (y192_6))), (4, .ref (ad 67)), (3, .ref (ad 73)), (0, .ref (ad 0)), (1, .int (iI (3))), (2, .int (iI (0)))]) hE.1 hE.2.1 dX8_votes_128 hl (k := 1) rfl ez198 (by decide) rfl (fun ls hl => ?_)
                            refine lv_iinc (v := iI (y192_6 + 1)) (lv' := [(6, .int (iI (y192_6 + 1))), (5, .int (iI (z198))), (4, .ref (ad 67)), (3, .ref (ad 73)), (0, .ref (ad 0)), (1, .int (iI (3))), (2, .int (iI (0)))]) hE.1 hE.2.1 dX8_votes_131 hl (k := 1) rfl ((iI_add (y192_6) (1)).trans (congrArg iI (by omega))) (by decide) rfl (fun ls hl => ?_)
                            refine lv_goto (tgt := 92) hE.1 hE.2.1 dX8_votes_134 (by decide) ?_
                            exact ih192 _ (by omega) (y192_6 + 1) (z198) _ rfl (by omega) (by omega) (lv_sub hl [0, 1, 2, 3, 4, 5, 6] rfl)
                    exact loop192 _ (0) (0) _ rfl (by omega) (by omega) hl
                  · skip
                    refine lv_bipush (v := iI (-2)) hE.1 hE.2.1 dX8_votes_83 (by decide) ?_
                    exact kr _ _ _ rfl ⟨-2, by omega, rfl⟩ dX8_votes_85
              · skip
                refine lv_bipush (v := iI (-6)) hE.1 hE.2.1 dX8_votes_57 (by decide) ?_
                exact kr _ _ _ rfl ⟨-6, by omega, rfl⟩ dX8_votes_59
          · skip
            refine x_aald (r := .ref (ad 69)) hE hK hP 65 4 (Nat.lt_of_lt_of_le (by decide) hNN) (xG_13 rfl) rfl (by unfold vp_in; decide) rfl dX8_votes_39 ?_
            refine lv_astore (lv' := [(4, .ref (ad 69)), (3, .ref (ad 73)), (0, .ref (ad 0)), (1, .int (iI (3))), (2, .int (iI (1)))]) hE.1 hE.2.1 dX8_votes_40 hl (by decide) rfl (fun ls hl => ?_)
            refine lv_aload_n hE.1 hE.2.1 dX8_votes_42 rfl (lv_at hl 1 rfl) ?_
            obtain ⟨z199, hz199, ez199⟩ := XI_get hI 73 2 (-1) 60 (by decide)
            refine x_get (x := .int (v 73 2)) hE hK hP 73 (Nat.lt_of_lt_of_le (by decide) hNN) (xG_5 rfl) rfl hin5 2 (by decide) mw_451 rfl dX8_votes_43 ?_
            refine x_top (y := iI (z199)) ez199 ?_
            refine s_if_lt (a := z199) (tgt := 57) hE.1 hE.2.1 (by omega) dX8_votes_46 (by decide) (fun c200 => ?_) (fun c200 => ?_)
            · skip
              refine lv_bipush (v := iI (-6)) hE.1 hE.2.1 dX8_votes_57 (by decide) ?_
              exact kr _ _ _ rfl ⟨-6, by omega, rfl⟩ dX8_votes_59
            · skip
              refine lv_aload hE.1 hE.2.1 dX8_votes_49 (lv_at hl 0 rfl) ?_
              obtain ⟨z201, hz201, ez201⟩ := XI_get hI 69 2 (-1) 60 (by decide)
              refine x_get (x := .int (v 69 2)) hE hK hP 69 (Nat.lt_of_lt_of_le (by decide) hNN) (xG_5 rfl) rfl hin5 2 (by decide) mw_451 rfl dX8_votes_51 ?_
              refine x_top (y := iI (z201)) ez201 ?_
              refine s_if_ge (a := z201) (tgt := 60) hE.1 hE.2.1 (by omega) dX8_votes_54 (by decide) (fun c202 => ?_) (fun c202 => ?_)
              · skip
                refine lv_aload_n hE.1 hE.2.1 dX8_votes_60 rfl (lv_at hl 1 rfl) ?_
                refine lv_aload_n hE.1 hE.2.1 dX8_votes_61 rfl (lv_at hl 2 rfl) ?_
                refine x_get (x := .ref (ad 3)) hE hK hP 0 (Nat.lt_of_lt_of_le (by decide) hNN) (xG_8 rfl) rfl hin8 1 (by decide) mw_481 rfl dX8_votes_62 ?_
                refine x_vp (nn := 1) (As := [.ref (ad 3)]) (rest := []) hE (s_X5_isOfMotifs_73_3 l D K ad mm N hNN v ar al hI  ) wPre_blind (wPre_now hK hN hP) (x_recv hK hP 73 (Nat.lt_of_lt_of_le (by decide) hNN) (xG_5 rfl) rfl) rfl mw_1235 mw_1236 mw_1237 mw_121 mw_1238 (by decide +kernel) ⟨by decide, by decide⟩ hl.1 rfl (Nat.le_of_ble_eq_true rfl) ⟨Nat.zero_le _, Nat.zero_le _⟩ dX8_votes_65 (fun r203 hr203 => ?_)
                obtain ⟨z203, hz203, rfl⟩ := hr203
                refine s_if_eq (a := z203) (tgt := 83) hE.1 hE.2.1 (by omega) dX8_votes_68 (by decide) (fun c204 => ?_) (fun c204 => ?_)
                · skip
                  refine lv_bipush (v := iI (-2)) hE.1 hE.2.1 dX8_votes_83 (by decide) ?_
                  exact kr _ _ _ rfl ⟨-2, by omega, rfl⟩ dX8_votes_85
                · skip
                  refine lv_aload hE.1 hE.2.1 dX8_votes_71 (lv_at hl 0 rfl) ?_
                  refine lv_aload_n hE.1 hE.2.1 dX8_votes_73 rfl (lv_at hl 2 rfl) ?_
                  refine x_get (x := .ref (ad 3)) hE hK hP 0 (Nat.lt_of_lt_of_le (by decide) hNN) (xG_8 rfl) rfl hin8 1 (by decide) mw_481 rfl dX8_votes_74 ?_
                  refine x_vp (nn := 1) (As := [.ref (ad 3)]) (rest := []) hE (s_X5_isOfMotifs_69_3 l D K ad mm N hNN v ar al hI  ) wPre_blind (wPre_now hK hN hP) (x_recv hK hP 69 (Nat.lt_of_lt_of_le (by decide) hNN) (xG_5 rfl) rfl) rfl mw_1235 mw_1236 mw_1237 mw_121 mw_1238 (by decide +kernel) ⟨by decide, by decide⟩ hl.1 rfl (Nat.le_of_ble_eq_true rfl) ⟨Nat.zero_le _, Nat.zero_le _⟩ dX8_votes_77 (fun r205 hr205 => ?_)
                  obtain ⟨z205, hz205, rfl⟩ := hr205
                  refine s_if_ne (a := z205) (tgt := 86) hE.1 hE.2.1 (by omega) dX8_votes_80 (by decide) (fun c206 => ?_) (fun c206 => ?_)
                  · skip
                    refine lv_iconst (v := iI (0)) hE.1 hE.2.1 dX8_votes_86 (by decide) ?_
                    refine lv_istore (lv' := [(5, .int (iI (0))), (4, .ref (ad 69)), (3, .ref (ad 73)), (0, .ref (ad 0)), (1, .int (iI (3))), (2, .int (iI (1)))]) hE.1 hE.2.1 dX8_votes_87 hl (by decide) rfl (fun ls hl => ?_)
                    refine lv_iconst (v := iI (0)) hE.1 hE.2.1 dX8_votes_89 (by decide) ?_
                    refine lv_istore (lv' := [(6, .int (iI (0))), (5, .int (iI (0))), (4, .ref (ad 69)), (3, .ref (ad 73)), (0, .ref (ad 0)), (1, .int (iI (3))), (2, .int (iI (1)))]) hE.1 hE.2.1 dX8_votes_90 hl (by decide) rfl (fun ls hl => ?_)
                    have loop207 : ∀ (k207 : Nat) (y207_6 : Int) (y207_5 : Int) (ls : Array Slot), (8 - y207_6).toNat = k207 → (0 ≤ y207_6 ∧ y207_6 ≤ 8) → (-2147483648 ≤ y207_5 ∧ y207_5 ≤ 2147483647) → lv_has ls 7 [(6, .int (iI (y207_6))), (5, .int (iI (y207_5))), (4, .ref (ad 69)), (3, .ref (ad 73)), (0, .ref (ad 0)), (1, .int (iI (3))), (2, .int (iI (1)))] → W p l e (rmD 2) s m args below meth c s.heap [] 0 0 Q (F0 m 92 ls []) := by
                      intro k207
                      induction k207 using Nat.strongRecOn with
                      | _ k207 ih207 =>
                        intro y207_6 y207_5 ls hk207 hb_y207_6 hb_y207_5 hl
                        refine lv_iload hE.1 hE.2.1 dX8_votes_92 (lv_at hl 0 rfl) ?_
                        refine lv_aload_n hE.1 hE.2.1 dX8_votes_94 rfl (lv_at hl 4 rfl) ?_
                        refine x_get (x := .ref (ad 3)) hE hK hP 0 (Nat.lt_of_lt_of_le (by decide) hNN) (xG_8 rfl) rfl hin8 1 (by decide) mw_481 rfl dX8_votes_95 ?_
                        obtain ⟨z208, hz208, ez208⟩ := XI_get hI 3 3 0 8 (by decide)
                        refine x_get (x := .int (v 3 3)) hE hK hP 3 (Nat.lt_of_lt_of_le (by decide) hNN) (xG_1 rfl) rfl hin1 3 (by decide) mw_193 rfl dX8_votes_98 ?_
                        refine x_top (y := iI (z208)) ez208 ?_
                        refine s_icmp_ge (a := y207_6) (b := z208) (tgt := 137) hE.1 hE.2.1 (by omega) (by omega) dX8_votes_101 (by decide) (fun c209 => ?_) (fun c209 => ?_)
                        · skip
                          refine lv_iload hE.1 hE.2.1 dX8_votes_137 (lv_at hl 1 rfl) ?_
                          exact kr _ _ _ rfl ⟨y207_5, by omega, rfl⟩ dX8_votes_139
                        · skip
                          refine lv_aload_n hE.1 hE.2.1 dX8_votes_104 rfl (lv_at hl 3 rfl) ?_
                          refine lv_aload_n hE.1 hE.2.1 dX8_votes_105 rfl (lv_at hl 4 rfl) ?_
                          refine x_get (x := .ref (ad 3)) hE hK hP 0 (Nat.lt_of_lt_of_le (by decide) hNN) (xG_8 rfl) rfl hin8 1 (by decide) mw_481 rfl dX8_votes_106 ?_
                          refine lv_iload hE.1 hE.2.1 dX8_votes_109 (lv_at hl 0 rfl) ?_
                          refine x_vp (nn := 2) (As := [.ref (ad 3), .int (iI (y207_6))]) (rest := []) hE (s_X5_tasteFor_73_3 l D K ad mm N hNN v ar al hI  (y207_6) (by omega)) wPre_blind (wPre_now hK hN hP) (x_recv hK hP 73 (Nat.lt_of_lt_of_le (by decide) hNN) (xG_5 rfl) rfl) rfl mw_1240 mw_1241 mw_1242 mw_121 mw_1243 (by decide +kernel) ⟨by decide, by decide⟩ hl.1 rfl (Nat.le_of_ble_eq_true rfl) ⟨Nat.zero_le _, Nat.zero_le _⟩ dX8_votes_111 (fun r210 hr210 => ?_)
                          obtain ⟨z210, hz210, rfl⟩ := hr210
                          refine lv_aload hE.1 hE.2.1 dX8_votes_114 (lv_at hl 2 rfl) ?_
                          refine lv_aload_n hE.1 hE.2.1 dX8_votes_116 rfl (lv_at hl 4 rfl) ?_
                          refine x_get (x := .ref (ad 3)) hE hK hP 0 (Nat.lt_of_lt_of_le (by decide) hNN) (xG_8 rfl) rfl hin8 1 (by decide) mw_481 rfl dX8_votes_117 ?_
                          refine lv_iload hE.1 hE.2.1 dX8_votes_120 (lv_at hl 0 rfl) ?_
                          refine x_vp (nn := 2) (As := [.ref (ad 3), .int (iI (y207_6))]) (rest := [.int (iI (z210))]) hE (s_X5_tasteFor_69_3 l D K ad mm N hNN v ar al hI  (y207_6) (by omega)) wPre_blind (wPre_now hK hN hP) (x_recv hK hP 69 (Nat.lt_of_lt_of_le (by decide) hNN) (xG_5 rfl) rfl) rfl mw_1240 mw_1241 mw_1242 mw_121 mw_1243 (by decide +kernel) ⟨by decide, by decide⟩ hl.1 rfl (Nat.le_of_ble_eq_true rfl) ⟨Nat.zero_le _, Nat.zero_le _⟩ dX8_votes_122 (fun r211 hr211 => ?_)
                          obtain ⟨z211, hz211, rfl⟩ := hr211
                          refine s_icmp_le (a := z210) (b := z211) (tgt := 131) hE.1 hE.2.1 (by omega) (by omega) dX8_votes_125 (by decide) (fun c212 => ?_) (fun c212 => ?_)
                          · skip
                            refine lv_iinc (v := iI (y207_6 + 1)) (lv' := [(6, .int (iI (y207_6 + 1))), (5, .int (iI (y207_5))), (4, .ref (ad 69)), (3, .ref (ad 73)), (0, .ref (ad 0)), (1, .int (iI (3))), (2, .int (iI (1)))]) hE.1 hE.2.1 dX8_votes_131 hl (k := 0) rfl ((iI_add (y207_6) (1)).trans (congrArg iI (by omega))) (by decide) rfl (fun ls hl => ?_)
                            refine lv_goto (tgt := 92) hE.1 hE.2.1 dX8_votes_134 (by decide) ?_
                            exact ih207 _ (by omega) (y207_6 + 1) (y207_5) _ rfl (by omega) (by omega) (lv_sub hl [0, 1, 2, 3, 4, 5, 6] rfl)
                          · skip
                            obtain ⟨z213, hz213, ez213⟩ := iI_of (iI (y207_5) + iI (1))
                            refine lv_iinc (v := iI (z213)) (lv' := [(5, .int (iI (z213))), (6, .int (iI (y207_6))), (4, .ref (ad 69)), (3, .ref (ad 73)), (0, .ref (ad 0)), (1, .int (iI (3))), (2, .int (iI (1)))]) hE.1 hE.2.1 dX8_votes_128 hl (k := 1) rfl ez213 (by decide) rfl (fun ls hl => ?_)
                            refine lv_iinc (v := iI (y207_6 + 1)) (lv' := [(6, .int (iI (y207_6 + 1))), (5, .int (iI (z213))), (4, .ref (ad 69)), (3, .ref (ad 73)), (0, .ref (ad 0)), (1, .int (iI (3))), (2, .int (iI (1)))]) hE.1 hE.2.1 dX8_votes_131 hl (k := 1) rfl ((iI_add (y207_6) (1)).trans (congrArg iI (by omega))) (by decide) rfl (fun ls hl => ?_)
                            refine lv_goto (tgt := 92) hE.1 hE.2.1 dX8_votes_134 (by decide) ?_
                            exact ih207 _ (by omega) (y207_6 + 1) (z213) _ rfl (by omega) (by omega) (lv_sub hl [0, 1, 2, 3, 4, 5, 6] rfl)
                    exact loop207 _ (0) (0) _ rfl (by omega) (by omega) hl
                  · skip
                    refine lv_bipush (v := iI (-2)) hE.1 hE.2.1 dX8_votes_83 (by decide) ?_
                    exact kr _ _ _ rfl ⟨-2, by omega, rfl⟩ dX8_votes_85
              · skip
                refine lv_bipush (v := iI (-6)) hE.1 hE.2.1 dX8_votes_57 (by decide) ?_
                exact kr _ _ _ rfl ⟨-6, by omega, rfl⟩ dX8_votes_59
          · skip
            refine x_aald (r := .ref (ad 71)) hE hK hP 65 4 (Nat.lt_of_lt_of_le (by decide) hNN) (xG_13 rfl) rfl (by unfold vp_in; decide) rfl dX8_votes_39 ?_
            refine lv_astore (lv' := [(4, .ref (ad 71)), (3, .ref (ad 73)), (0, .ref (ad 0)), (1, .int (iI (3))), (2, .int (iI (2)))]) hE.1 hE.2.1 dX8_votes_40 hl (by decide) rfl (fun ls hl => ?_)
            refine lv_aload_n hE.1 hE.2.1 dX8_votes_42 rfl (lv_at hl 1 rfl) ?_
            obtain ⟨z214, hz214, ez214⟩ := XI_get hI 73 2 (-1) 60 (by decide)
            refine x_get (x := .int (v 73 2)) hE hK hP 73 (Nat.lt_of_lt_of_le (by decide) hNN) (xG_5 rfl) rfl hin5 2 (by decide) mw_451 rfl dX8_votes_43 ?_
            refine x_top (y := iI (z214)) ez214 ?_
            refine s_if_lt (a := z214) (tgt := 57) hE.1 hE.2.1 (by omega) dX8_votes_46 (by decide) (fun c215 => ?_) (fun c215 => ?_)
            · skip
              refine lv_bipush (v := iI (-6)) hE.1 hE.2.1 dX8_votes_57 (by decide) ?_
              exact kr _ _ _ rfl ⟨-6, by omega, rfl⟩ dX8_votes_59
            · skip
              refine lv_aload hE.1 hE.2.1 dX8_votes_49 (lv_at hl 0 rfl) ?_
              obtain ⟨z216, hz216, ez216⟩ := XI_get hI 71 2 (-1) 60 (by decide)
              refine x_get (x := .int (v 71 2)) hE hK hP 71 (Nat.lt_of_lt_of_le (by decide) hNN) (xG_5 rfl) rfl hin5 2 (by decide) mw_451 rfl dX8_votes_51 ?_
              refine x_top (y := iI (z216)) ez216 ?_
              refine s_if_ge (a := z216) (tgt := 60) hE.1 hE.2.1 (by omega) dX8_votes_54 (by decide) (fun c217 => ?_) (fun c217 => ?_)
              · skip
                refine lv_aload_n hE.1 hE.2.1 dX8_votes_60 rfl (lv_at hl 1 rfl) ?_
                refine lv_aload_n hE.1 hE.2.1 dX8_votes_61 rfl (lv_at hl 2 rfl) ?_
                refine x_get (x := .ref (ad 3)) hE hK hP 0 (Nat.lt_of_lt_of_le (by decide) hNN) (xG_8 rfl) rfl hin8 1 (by decide) mw_481 rfl dX8_votes_62 ?_
                refine x_vp (nn := 1) (As := [.ref (ad 3)]) (rest := []) hE (s_X5_isOfMotifs_73_3 l D K ad mm N hNN v ar al hI  ) wPre_blind (wPre_now hK hN hP) (x_recv hK hP 73 (Nat.lt_of_lt_of_le (by decide) hNN) (xG_5 rfl) rfl) rfl mw_1235 mw_1236 mw_1237 mw_121 mw_1238 (by decide +kernel) ⟨by decide, by decide⟩ hl.1 rfl (Nat.le_of_ble_eq_true rfl) ⟨Nat.zero_le _, Nat.zero_le _⟩ dX8_votes_65 (fun r218 hr218 => ?_)
                obtain ⟨z218, hz218, rfl⟩ := hr218
                refine s_if_eq (a := z218) (tgt := 83) hE.1 hE.2.1 (by omega) dX8_votes_68 (by decide) (fun c219 => ?_) (fun c219 => ?_)
                · skip
                  refine lv_bipush (v := iI (-2)) hE.1 hE.2.1 dX8_votes_83 (by decide) ?_
                  exact kr _ _ _ rfl ⟨-2, by omega, rfl⟩ dX8_votes_85
                · skip
                  refine lv_aload hE.1 hE.2.1 dX8_votes_71 (lv_at hl 0 rfl) ?_
                  refine lv_aload_n hE.1 hE.2.1 dX8_votes_73 rfl (lv_at hl 2 rfl) ?_
                  refine x_get (x := .ref (ad 3)) hE hK hP 0 (Nat.lt_of_lt_of_le (by decide) hNN) (xG_8 rfl) rfl hin8 1 (by decide) mw_481 rfl dX8_votes_74 ?_
                  refine x_vp (nn := 1) (As := [.ref (ad 3)]) (rest := []) hE (s_X5_isOfMotifs_71_3 l D K ad mm N hNN v ar al hI  ) wPre_blind (wPre_now hK hN hP) (x_recv hK hP 71 (Nat.lt_of_lt_of_le (by decide) hNN) (xG_5 rfl) rfl) rfl mw_1235 mw_1236 mw_1237 mw_121 mw_1238 (by decide +kernel) ⟨by decide, by decide⟩ hl.1 rfl (Nat.le_of_ble_eq_true rfl) ⟨Nat.zero_le _, Nat.zero_le _⟩ dX8_votes_77 (fun r220 hr220 => ?_)
                  obtain ⟨z220, hz220, rfl⟩ := hr220
                  refine s_if_ne (a := z220) (tgt := 86) hE.1 hE.2.1 (by omega) dX8_votes_80 (by decide) (fun c221 => ?_) (fun c221 => ?_)
                  · skip
                    refine lv_iconst (v := iI (0)) hE.1 hE.2.1 dX8_votes_86 (by decide) ?_
                    refine lv_istore (lv' := [(5, .int (iI (0))), (4, .ref (ad 71)), (3, .ref (ad 73)), (0, .ref (ad 0)), (1, .int (iI (3))), (2, .int (iI (2)))]) hE.1 hE.2.1 dX8_votes_87 hl (by decide) rfl (fun ls hl => ?_)
                    refine lv_iconst (v := iI (0)) hE.1 hE.2.1 dX8_votes_89 (by decide) ?_
                    refine lv_istore (lv' := [(6, .int (iI (0))), (5, .int (iI (0))), (4, .ref (ad 71)), (3, .ref (ad 73)), (0, .ref (ad 0)), (1, .int (iI (3))), (2, .int (iI (2)))]) hE.1 hE.2.1 dX8_votes_90 hl (by decide) rfl (fun ls hl => ?_)
                    have loop222 : ∀ (k222 : Nat) (y222_6 : Int) (y222_5 : Int) (ls : Array Slot), (8 - y222_6).toNat = k222 → (0 ≤ y222_6 ∧ y222_6 ≤ 8) → (-2147483648 ≤ y222_5 ∧ y222_5 ≤ 2147483647) → lv_has ls 7 [(6, .int (iI (y222_6))), (5, .int (iI (y222_5))), (4, .ref (ad 71)), (3, .ref (ad 73)), (0, .ref (ad 0)), (1, .int (iI (3))), (2, .int (iI (2)))] → W p l e (rmD 2) s m args below meth c s.heap [] 0 0 Q (F0 m 92 ls []) := by
                      intro k222
                      induction k222 using Nat.strongRecOn with
                      | _ k222 ih222 =>
                        intro y222_6 y222_5 ls hk222 hb_y222_6 hb_y222_5 hl
                        refine lv_iload hE.1 hE.2.1 dX8_votes_92 (lv_at hl 0 rfl) ?_
                        refine lv_aload_n hE.1 hE.2.1 dX8_votes_94 rfl (lv_at hl 4 rfl) ?_
                        refine x_get (x := .ref (ad 3)) hE hK hP 0 (Nat.lt_of_lt_of_le (by decide) hNN) (xG_8 rfl) rfl hin8 1 (by decide) mw_481 rfl dX8_votes_95 ?_
                        obtain ⟨z223, hz223, ez223⟩ := XI_get hI 3 3 0 8 (by decide)
                        refine x_get (x := .int (v 3 3)) hE hK hP 3 (Nat.lt_of_lt_of_le (by decide) hNN) (xG_1 rfl) rfl hin1 3 (by decide) mw_193 rfl dX8_votes_98 ?_
                        refine x_top (y := iI (z223)) ez223 ?_
                        refine s_icmp_ge (a := y222_6) (b := z223) (tgt := 137) hE.1 hE.2.1 (by omega) (by omega) dX8_votes_101 (by decide) (fun c224 => ?_) (fun c224 => ?_)
                        · skip
                          refine lv_iload hE.1 hE.2.1 dX8_votes_137 (lv_at hl 1 rfl) ?_
                          exact kr _ _ _ rfl ⟨y222_5, by omega, rfl⟩ dX8_votes_139
                        · skip
                          refine lv_aload_n hE.1 hE.2.1 dX8_votes_104 rfl (lv_at hl 3 rfl) ?_
                          refine lv_aload_n hE.1 hE.2.1 dX8_votes_105 rfl (lv_at hl 4 rfl) ?_
                          refine x_get (x := .ref (ad 3)) hE hK hP 0 (Nat.lt_of_lt_of_le (by decide) hNN) (xG_8 rfl) rfl hin8 1 (by decide) mw_481 rfl dX8_votes_106 ?_
                          refine lv_iload hE.1 hE.2.1 dX8_votes_109 (lv_at hl 0 rfl) ?_
                          refine x_vp (nn := 2) (As := [.ref (ad 3), .int (iI (y222_6))]) (rest := []) hE (s_X5_tasteFor_73_3 l D K ad mm N hNN v ar al hI  (y222_6) (by omega)) wPre_blind (wPre_now hK hN hP) (x_recv hK hP 73 (Nat.lt_of_lt_of_le (by decide) hNN) (xG_5 rfl) rfl) rfl mw_1240 mw_1241 mw_1242 mw_121 mw_1243 (by decide +kernel) ⟨by decide, by decide⟩ hl.1 rfl (Nat.le_of_ble_eq_true rfl) ⟨Nat.zero_le _, Nat.zero_le _⟩ dX8_votes_111 (fun r225 hr225 => ?_)
                          obtain ⟨z225, hz225, rfl⟩ := hr225
                          refine lv_aload hE.1 hE.2.1 dX8_votes_114 (lv_at hl 2 rfl) ?_
                          refine lv_aload_n hE.1 hE.2.1 dX8_votes_116 rfl (lv_at hl 4 rfl) ?_
                          refine x_get (x := .ref (ad 3)) hE hK hP 0 (Nat.lt_of_lt_of_le (by decide) hNN) (xG_8 rfl) rfl hin8 1 (by decide) mw_481 rfl dX8_votes_117 ?_
                          refine lv_iload hE.1 hE.2.1 dX8_votes_120 (lv_at hl 0 rfl) ?_
                          refine x_vp (nn := 2) (As := [.ref (ad 3), .int (iI (y222_6))]) (rest := [.int (iI (z225))]) hE (s_X5_tasteFor_71_3 l D K ad mm N hNN v ar al hI  (y222_6) (by omega)) wPre_blind (wPre_now hK hN hP) (x_recv hK hP 71 (Nat.lt_of_lt_of_le (by decide) hNN) (xG_5 rfl) rfl) rfl mw_1240 mw_1241 mw_1242 mw_121 mw_1243 (by decide +kernel) ⟨by decide, by decide⟩ hl.1 rfl (Nat.le_of_ble_eq_true rfl) ⟨Nat.zero_le _, Nat.zero_le _⟩ dX8_votes_122 (fun r226 hr226 => ?_)
                          obtain ⟨z226, hz226, rfl⟩ := hr226
                          refine s_icmp_le (a := z225) (b := z226) (tgt := 131) hE.1 hE.2.1 (by omega) (by omega) dX8_votes_125 (by decide) (fun c227 => ?_) (fun c227 => ?_)
                          · skip
                            refine lv_iinc (v := iI (y222_6 + 1)) (lv' := [(6, .int (iI (y222_6 + 1))), (5, .int (iI (y222_5))), (4, .ref (ad 71)), (3, .ref (ad 73)), (0, .ref (ad 0)), (1, .int (iI (3))), (2, .int (iI (2)))]) hE.1 hE.2.1 dX8_votes_131 hl (k := 0) rfl ((iI_add (y222_6) (1)).trans (congrArg iI (by omega))) (by decide) rfl (fun ls hl => ?_)
                            refine lv_goto (tgt := 92) hE.1 hE.2.1 dX8_votes_134 (by decide) ?_
                            exact ih222 _ (by omega) (y222_6 + 1) (y222_5) _ rfl (by omega) (by omega) (lv_sub hl [0, 1, 2, 3, 4, 5, 6] rfl)
                          · skip
                            obtain ⟨z228, hz228, ez228⟩ := iI_of (iI (y222_5) + iI (1))
                            refine lv_iinc (v := iI (z228)) (lv' := [(5, .int (iI (z228))), (6, .int (iI (y222_6))), (4, .ref (ad 71)), (3, .ref (ad 73)), (0, .ref (ad 0)), (1, .int (iI (3))), (2, .int (iI (2)))]) hE.1 hE.2.1 dX8_votes_128 hl (k := 1) rfl ez228 (by decide) rfl (fun ls hl => ?_)
                            refine lv_iinc (v := iI (y222_6 + 1)) (lv' := [(6, .int (iI (y222_6 + 1))), (5, .int (iI (z228))), (4, .ref (ad 71)), (3, .ref (ad 73)), (0, .ref (ad 0)), (1, .int (iI (3))), (2, .int (iI (2)))]) hE.1 hE.2.1 dX8_votes_131 hl (k := 1) rfl ((iI_add (y222_6) (1)).trans (congrArg iI (by omega))) (by decide) rfl (fun ls hl => ?_)
                            refine lv_goto (tgt := 92) hE.1 hE.2.1 dX8_votes_134 (by decide) ?_
                            exact ih222 _ (by omega) (y222_6 + 1) (z228) _ rfl (by omega) (by omega) (lv_sub hl [0, 1, 2, 3, 4, 5, 6] rfl)
                    exact loop222 _ (0) (0) _ rfl (by omega) (by omega) hl
                  · skip
                    refine lv_bipush (v := iI (-2)) hE.1 hE.2.1 dX8_votes_83 (by decide) ?_
                    exact kr _ _ _ rfl ⟨-2, by omega, rfl⟩ dX8_votes_85
              · skip
                refine lv_bipush (v := iI (-6)) hE.1 hE.2.1 dX8_votes_57 (by decide) ?_
                exact kr _ _ _ rfl ⟨-6, by omega, rfl⟩ dX8_votes_59
          · skip
            refine x_aald (r := .ref (ad 73)) hE hK hP 65 4 (Nat.lt_of_lt_of_le (by decide) hNN) (xG_13 rfl) rfl (by unfold vp_in; decide) rfl dX8_votes_39 ?_
            refine lv_astore (lv' := [(4, .ref (ad 73)), (3, .ref (ad 73)), (0, .ref (ad 0)), (1, .int (iI (3))), (2, .int (iI (3)))]) hE.1 hE.2.1 dX8_votes_40 hl (by decide) rfl (fun ls hl => ?_)
            refine lv_aload_n hE.1 hE.2.1 dX8_votes_42 rfl (lv_at hl 1 rfl) ?_
            obtain ⟨z229, hz229, ez229⟩ := XI_get hI 73 2 (-1) 60 (by decide)
            refine x_get (x := .int (v 73 2)) hE hK hP 73 (Nat.lt_of_lt_of_le (by decide) hNN) (xG_5 rfl) rfl hin5 2 (by decide) mw_451 rfl dX8_votes_43 ?_
            refine x_top (y := iI (z229)) ez229 ?_
            refine s_if_lt (a := z229) (tgt := 57) hE.1 hE.2.1 (by omega) dX8_votes_46 (by decide) (fun c230 => ?_) (fun c230 => ?_)
            · skip
              refine lv_bipush (v := iI (-6)) hE.1 hE.2.1 dX8_votes_57 (by decide) ?_
              exact kr _ _ _ rfl ⟨-6, by omega, rfl⟩ dX8_votes_59
            · skip
              refine lv_aload hE.1 hE.2.1 dX8_votes_49 (lv_at hl 0 rfl) ?_
              refine x_get (x := .int (v 73 2)) hE hK hP 73 (Nat.lt_of_lt_of_le (by decide) hNN) (xG_5 rfl) rfl hin5 2 (by decide) mw_451 rfl dX8_votes_51 ?_
              refine x_top (y := iI (z229)) ez229 ?_
              refine s_if_ge (a := z229) (tgt := 60) hE.1 hE.2.1 (by omega) dX8_votes_54 (by decide) (fun _ => ?_) (fun c231 => False.elim (by omega))
              refine lv_aload_n hE.1 hE.2.1 dX8_votes_60 rfl (lv_at hl 1 rfl) ?_
              refine lv_aload_n hE.1 hE.2.1 dX8_votes_61 rfl (lv_at hl 2 rfl) ?_
              refine x_get (x := .ref (ad 3)) hE hK hP 0 (Nat.lt_of_lt_of_le (by decide) hNN) (xG_8 rfl) rfl hin8 1 (by decide) mw_481 rfl dX8_votes_62 ?_
              refine x_vp (nn := 1) (As := [.ref (ad 3)]) (rest := []) hE (s_X5_isOfMotifs_73_3 l D K ad mm N hNN v ar al hI  ) wPre_blind (wPre_now hK hN hP) (x_recv hK hP 73 (Nat.lt_of_lt_of_le (by decide) hNN) (xG_5 rfl) rfl) rfl mw_1235 mw_1236 mw_1237 mw_121 mw_1238 (by decide +kernel) ⟨by decide, by decide⟩ hl.1 rfl (Nat.le_of_ble_eq_true rfl) ⟨Nat.zero_le _, Nat.zero_le _⟩ dX8_votes_65 (fun r232 hr232 => ?_)
              obtain ⟨z232, hz232, rfl⟩ := hr232
              refine s_if_eq (a := z232) (tgt := 83) hE.1 hE.2.1 (by omega) dX8_votes_68 (by decide) (fun c233 => ?_) (fun c233 => ?_)
              · skip
                refine lv_bipush (v := iI (-2)) hE.1 hE.2.1 dX8_votes_83 (by decide) ?_
                exact kr _ _ _ rfl ⟨-2, by omega, rfl⟩ dX8_votes_85
              · skip
                refine lv_aload hE.1 hE.2.1 dX8_votes_71 (lv_at hl 0 rfl) ?_
                refine lv_aload_n hE.1 hE.2.1 dX8_votes_73 rfl (lv_at hl 2 rfl) ?_
                refine x_get (x := .ref (ad 3)) hE hK hP 0 (Nat.lt_of_lt_of_le (by decide) hNN) (xG_8 rfl) rfl hin8 1 (by decide) mw_481 rfl dX8_votes_74 ?_
                refine x_vp (nn := 1) (As := [.ref (ad 3)]) (rest := []) hE (s_X5_isOfMotifs_73_3 l D K ad mm N hNN v ar al hI  ) wPre_blind (wPre_now hK hN hP) (x_recv hK hP 73 (Nat.lt_of_lt_of_le (by decide) hNN) (xG_5 rfl) rfl) rfl mw_1235 mw_1236 mw_1237 mw_121 mw_1238 (by decide +kernel) ⟨by decide, by decide⟩ hl.1 rfl (Nat.le_of_ble_eq_true rfl) ⟨Nat.zero_le _, Nat.zero_le _⟩ dX8_votes_77 (fun r234 hr234 => ?_)
                obtain ⟨z234, hz234, rfl⟩ := hr234
                refine s_if_ne (a := z234) (tgt := 86) hE.1 hE.2.1 (by omega) dX8_votes_80 (by decide) (fun c235 => ?_) (fun c235 => ?_)
                · skip
                  refine lv_iconst (v := iI (0)) hE.1 hE.2.1 dX8_votes_86 (by decide) ?_
                  refine lv_istore (lv' := [(5, .int (iI (0))), (4, .ref (ad 73)), (3, .ref (ad 73)), (0, .ref (ad 0)), (1, .int (iI (3))), (2, .int (iI (3)))]) hE.1 hE.2.1 dX8_votes_87 hl (by decide) rfl (fun ls hl => ?_)
                  refine lv_iconst (v := iI (0)) hE.1 hE.2.1 dX8_votes_89 (by decide) ?_
                  refine lv_istore (lv' := [(6, .int (iI (0))), (5, .int (iI (0))), (4, .ref (ad 73)), (3, .ref (ad 73)), (0, .ref (ad 0)), (1, .int (iI (3))), (2, .int (iI (3)))]) hE.1 hE.2.1 dX8_votes_90 hl (by decide) rfl (fun ls hl => ?_)
                  have loop236 : ∀ (k236 : Nat) (y236_6 : Int) (y236_5 : Int) (ls : Array Slot), (8 - y236_6).toNat = k236 → (0 ≤ y236_6 ∧ y236_6 ≤ 8) → (-2147483648 ≤ y236_5 ∧ y236_5 ≤ 2147483647) → lv_has ls 7 [(6, .int (iI (y236_6))), (5, .int (iI (y236_5))), (4, .ref (ad 73)), (3, .ref (ad 73)), (0, .ref (ad 0)), (1, .int (iI (3))), (2, .int (iI (3)))] → W p l e (rmD 2) s m args below meth c s.heap [] 0 0 Q (F0 m 92 ls []) := by
                    intro k236
                    induction k236 using Nat.strongRecOn with
                    | _ k236 ih236 =>
                      intro y236_6 y236_5 ls hk236 hb_y236_6 hb_y236_5 hl
                      refine lv_iload hE.1 hE.2.1 dX8_votes_92 (lv_at hl 0 rfl) ?_
                      refine lv_aload_n hE.1 hE.2.1 dX8_votes_94 rfl (lv_at hl 4 rfl) ?_
                      refine x_get (x := .ref (ad 3)) hE hK hP 0 (Nat.lt_of_lt_of_le (by decide) hNN) (xG_8 rfl) rfl hin8 1 (by decide) mw_481 rfl dX8_votes_95 ?_
                      obtain ⟨z237, hz237, ez237⟩ := XI_get hI 3 3 0 8 (by decide)
                      refine x_get (x := .int (v 3 3)) hE hK hP 3 (Nat.lt_of_lt_of_le (by decide) hNN) (xG_1 rfl) rfl hin1 3 (by decide) mw_193 rfl dX8_votes_98 ?_
                      refine x_top (y := iI (z237)) ez237 ?_
                      refine s_icmp_ge (a := y236_6) (b := z237) (tgt := 137) hE.1 hE.2.1 (by omega) (by omega) dX8_votes_101 (by decide) (fun c238 => ?_) (fun c238 => ?_)
                      · skip
                        refine lv_iload hE.1 hE.2.1 dX8_votes_137 (lv_at hl 1 rfl) ?_
                        exact kr _ _ _ rfl ⟨y236_5, by omega, rfl⟩ dX8_votes_139
                      · skip
                        refine lv_aload_n hE.1 hE.2.1 dX8_votes_104 rfl (lv_at hl 3 rfl) ?_
                        refine lv_aload_n hE.1 hE.2.1 dX8_votes_105 rfl (lv_at hl 4 rfl) ?_
                        refine x_get (x := .ref (ad 3)) hE hK hP 0 (Nat.lt_of_lt_of_le (by decide) hNN) (xG_8 rfl) rfl hin8 1 (by decide) mw_481 rfl dX8_votes_106 ?_
                        refine lv_iload hE.1 hE.2.1 dX8_votes_109 (lv_at hl 0 rfl) ?_
                        refine x_vp (nn := 2) (As := [.ref (ad 3), .int (iI (y236_6))]) (rest := []) hE (s_X5_tasteFor_73_3 l D K ad mm N hNN v ar al hI  (y236_6) (by omega)) wPre_blind (wPre_now hK hN hP) (x_recv hK hP 73 (Nat.lt_of_lt_of_le (by decide) hNN) (xG_5 rfl) rfl) rfl mw_1240 mw_1241 mw_1242 mw_121 mw_1243 (by decide +kernel) ⟨by decide, by decide⟩ hl.1 rfl (Nat.le_of_ble_eq_true rfl) ⟨Nat.zero_le _, Nat.zero_le _⟩ dX8_votes_111 (fun r239 hr239 => ?_)
                        obtain ⟨z239, hz239, rfl⟩ := hr239
                        refine lv_aload hE.1 hE.2.1 dX8_votes_114 (lv_at hl 2 rfl) ?_
                        refine lv_aload_n hE.1 hE.2.1 dX8_votes_116 rfl (lv_at hl 4 rfl) ?_
                        refine x_get (x := .ref (ad 3)) hE hK hP 0 (Nat.lt_of_lt_of_le (by decide) hNN) (xG_8 rfl) rfl hin8 1 (by decide) mw_481 rfl dX8_votes_117 ?_
                        refine lv_iload hE.1 hE.2.1 dX8_votes_120 (lv_at hl 0 rfl) ?_
                        refine x_vp (nn := 2) (As := [.ref (ad 3), .int (iI (y236_6))]) (rest := [.int (iI (z239))]) hE (s_X5_tasteFor_73_3 l D K ad mm N hNN v ar al hI  (y236_6) (by omega)) wPre_blind (wPre_now hK hN hP) (x_recv hK hP 73 (Nat.lt_of_lt_of_le (by decide) hNN) (xG_5 rfl) rfl) rfl mw_1240 mw_1241 mw_1242 mw_121 mw_1243 (by decide +kernel) ⟨by decide, by decide⟩ hl.1 rfl (Nat.le_of_ble_eq_true rfl) ⟨Nat.zero_le _, Nat.zero_le _⟩ dX8_votes_122 (fun r240 hr240 => ?_)
                        obtain ⟨z240, hz240, rfl⟩ := hr240
                        refine s_icmp_le (a := z239) (b := z240) (tgt := 131) hE.1 hE.2.1 (by omega) (by omega) dX8_votes_125 (by decide) (fun c241 => ?_) (fun c241 => ?_)
                        · skip
                          refine lv_iinc (v := iI (y236_6 + 1)) (lv' := [(6, .int (iI (y236_6 + 1))), (5, .int (iI (y236_5))), (4, .ref (ad 73)), (3, .ref (ad 73)), (0, .ref (ad 0)), (1, .int (iI (3))), (2, .int (iI (3)))]) hE.1 hE.2.1 dX8_votes_131 hl (k := 0) rfl ((iI_add (y236_6) (1)).trans (congrArg iI (by omega))) (by decide) rfl (fun ls hl => ?_)
                          refine lv_goto (tgt := 92) hE.1 hE.2.1 dX8_votes_134 (by decide) ?_
                          exact ih236 _ (by omega) (y236_6 + 1) (y236_5) _ rfl (by omega) (by omega) (lv_sub hl [0, 1, 2, 3, 4, 5, 6] rfl)
                        · skip
                          obtain ⟨z242, hz242, ez242⟩ := iI_of (iI (y236_5) + iI (1))
                          refine lv_iinc (v := iI (z242)) (lv' := [(5, .int (iI (z242))), (6, .int (iI (y236_6))), (4, .ref (ad 73)), (3, .ref (ad 73)), (0, .ref (ad 0)), (1, .int (iI (3))), (2, .int (iI (3)))]) hE.1 hE.2.1 dX8_votes_128 hl (k := 1) rfl ez242 (by decide) rfl (fun ls hl => ?_)
                          refine lv_iinc (v := iI (y236_6 + 1)) (lv' := [(6, .int (iI (y236_6 + 1))), (5, .int (iI (z242))), (4, .ref (ad 73)), (3, .ref (ad 73)), (0, .ref (ad 0)), (1, .int (iI (3))), (2, .int (iI (3)))]) hE.1 hE.2.1 dX8_votes_131 hl (k := 1) rfl ((iI_add (y236_6) (1)).trans (congrArg iI (by omega))) (by decide) rfl (fun ls hl => ?_)
                          refine lv_goto (tgt := 92) hE.1 hE.2.1 dX8_votes_134 (by decide) ?_
                          exact ih236 _ (by omega) (y236_6 + 1) (z242) _ rfl (by omega) (by omega) (lv_sub hl [0, 1, 2, 3, 4, 5, 6] rfl)
                  exact loop236 _ (0) (0) _ rfl (by omega) (by omega) hl
                · skip
                  refine lv_bipush (v := iI (-2)) hE.1 hE.2.1 dX8_votes_83 (by decide) ?_
                  exact kr _ _ _ rfl ⟨-2, by omega, rfl⟩ dX8_votes_85
      · skip
        refine lv_bipush (v := iI (-2)) hE.1 hE.2.1 dX8_votes_24 (by decide) ?_
        exact kr _ _ _ rfl ⟨-2, by omega, rfl⟩ dX8_votes_26

theorem dX8_taste_0 : decode cX8_taste 0 = .ok (.iload_n 2, 1) := by decide +kernel
theorem dX8_taste_1 : decode cX8_taste 1 = .ok (.invokestatic 260, 3) := by decide +kernel
theorem dX8_taste_4 : decode cX8_taste 4 = .ok (.ifCond .eq 14, 3) := by decide +kernel
theorem dX8_taste_7 : decode cX8_taste 7 = .ok (.aload_n 0, 1) := by decide +kernel
theorem dX8_taste_8 : decode cX8_taste 8 = .ok (.getfield 19, 3) := by decide +kernel
theorem dX8_taste_11 : decode cX8_taste 11 = .ok (.iload_n 1, 1) := by decide +kernel
theorem dX8_taste_12 : decode cX8_taste 12 = .ok (.invokevirtual 323, 3) := by decide +kernel
theorem dX8_taste_15 : decode cX8_taste 15 = .ok (.ifCond .ne 7, 3) := by decide +kernel
theorem dX8_taste_18 : decode cX8_taste 18 = .ok (.sipush (-1000), 3) := by decide +kernel
theorem dX8_taste_21 : decode cX8_taste 21 = .ok (.ireturn, 1) := by decide +kernel
theorem dX8_taste_22 : decode cX8_taste 22 = .ok (.aload_n 0, 1) := by decide +kernel
theorem dX8_taste_23 : decode cX8_taste 23 = .ok (.getfield 63, 3) := by decide +kernel
theorem dX8_taste_26 : decode cX8_taste 26 = .ok (.iload_n 2, 1) := by decide +kernel
theorem dX8_taste_27 : decode cX8_taste 27 = .ok (.aaload, 1) := by decide +kernel
theorem dX8_taste_28 : decode cX8_taste 28 = .ok (.astore_n 3, 1) := by decide +kernel
theorem dX8_taste_29 : decode cX8_taste 29 = .ok (.aload_n 3, 1) := by decide +kernel
theorem dX8_taste_30 : decode cX8_taste 30 = .ok (.getfield 263, 3) := by decide +kernel
theorem dX8_taste_33 : decode cX8_taste 33 = .ok (.ifCond .ge 7, 3) := by decide +kernel
theorem dX8_taste_36 : decode cX8_taste 36 = .ok (.sipush (-6000), 3) := by decide +kernel
theorem dX8_taste_39 : decode cX8_taste 39 = .ok (.ireturn, 1) := by decide +kernel
theorem dX8_taste_40 : decode cX8_taste 40 = .ok (.aload_n 3, 1) := by decide +kernel
theorem dX8_taste_41 : decode cX8_taste 41 = .ok (.aload_n 0, 1) := by decide +kernel
theorem dX8_taste_42 : decode cX8_taste 42 = .ok (.getfield 19, 3) := by decide +kernel
theorem dX8_taste_45 : decode cX8_taste 45 = .ok (.invokevirtual 316, 3) := by decide +kernel
theorem dX8_taste_48 : decode cX8_taste 48 = .ok (.ifCond .eq 15, 3) := by decide +kernel
theorem dX8_taste_51 : decode cX8_taste 51 = .ok (.aload_n 3, 1) := by decide +kernel
theorem dX8_taste_52 : decode cX8_taste 52 = .ok (.aload_n 0, 1) := by decide +kernel
theorem dX8_taste_53 : decode cX8_taste 53 = .ok (.getfield 19, 3) := by decide +kernel
theorem dX8_taste_56 : decode cX8_taste 56 = .ok (.iload_n 1, 1) := by decide +kernel
theorem dX8_taste_57 : decode cX8_taste 57 = .ok (.invokevirtual 319, 3) := by decide +kernel
theorem dX8_taste_60 : decode cX8_taste 60 = .ok (.goto 6, 3) := by decide +kernel
theorem dX8_taste_63 : decode cX8_taste 63 = .ok (.sipush (-1000), 3) := by decide +kernel
theorem dX8_taste_66 : decode cX8_taste 66 = .ok (.ireturn, 1) := by decide +kernel
set_option maxHeartbeats 4000000 in
set_option maxRecDepth 100000 in
theorem s_X8_taste_0 (l : Launch) (D : va_G) (K : Nat → ClassId) (ad : Nat → Nat) (mm : Option Nat) (N : Nat) (hNN : 132 ≤ N) (v ar : sI) (al : sL) (hI : XI v) (z_1 : Int) (hz_1 : -2147483648 ≤ z_1 ∧ z_1 ≤ 2147483647) (z_2 : Int) (hz_2 : -2147483648 ≤ z_2 ∧ z_2 ≤ 2147483647) : Met l yX8_taste (wM yX8_taste cX8_taste 4 (some .int)) (rmD 2) (va_Pc [.ref (ad 0), .int (iI (z_1)), .int (iI (z_2))] (wPre D K ad (xG ad K mm) N v ar al)) (vp_Si (fun r => ∃ z : Int, (-2147483648 ≤ z ∧ z ≤ 2147483647) ∧ r = iI z)) 0 0 (fun _ => False) := by
  refine s_metP (by decide) (Nat.le_of_ble_eq_true rfl) ?_
  intro p e s m below meth c ls args Q hE hB hl kr
  have hE : CallFix p m c cX8_taste 4 s args tbG "TaleCourt" := hE
  obtain ⟨hP, hK, hN⟩ := hB
  have hl : lv_has ls 4 [(0, .ref (ad 0)), (1, .int (iI (z_1))), (2, .int (iI (z_2)))] := hl
  refine lv_iload_n hE.1 hE.2.1 dX8_taste_0 rfl (lv_at hl 2 rfl) ?_
  refine x_sp (nn := 1) (As := [.int (iI (z_2))]) (rest := []) hE (s_X8_isSlot l (z_2) (by omega)) tt_blind (fun _ _ _ => trivial) rfl mw_1134 mw_1135 mw_114 mw_1136 (by decide +kernel) ⟨by decide, by decide⟩ hl.1 rfl (Nat.le_of_ble_eq_true rfl) ⟨Nat.zero_le _, Nat.zero_le _⟩ dX8_taste_1 (fun r1 hr1 => ?_)
  obtain ⟨z1, hz1, rfl⟩ := hr1
  refine s_if_eq (a := z1) (tgt := 18) hE.1 hE.2.1 (by omega) dX8_taste_4 (by decide) (fun c2 => ?_) (fun c2 => ?_)
  · skip
    refine lv_sipush (v := iI (-1000)) hE.1 hE.2.1 dX8_taste_18 (by decide) ?_
    exact kr _ _ _ rfl ⟨-1000, by omega, rfl⟩ dX8_taste_21
  · skip
    refine lv_aload_n hE.1 hE.2.1 dX8_taste_7 rfl (lv_at hl 0 rfl) ?_
    refine x_get (x := .ref (ad 3)) hE hK hP 0 (Nat.lt_of_lt_of_le (by decide) hNN) (xG_8 rfl) rfl hin8 1 (by decide) mw_481 rfl dX8_taste_8 ?_
    refine lv_iload_n hE.1 hE.2.1 dX8_taste_11 rfl (lv_at hl 1 rfl) ?_
    refine x_vp (nn := 1) (As := [.int (iI (z_1))]) (rest := []) hE (s_X1_hasListener_3 l D K ad mm N hNN v ar al hI  (z_1) (by omega)) wPre_blind (wPre_now hK hN hP) (x_recv hK hP 3 (Nat.lt_of_lt_of_le (by decide) hNN) (xG_1 rfl) rfl) rfl mw_1253 mw_1245 mw_1246 mw_116 mw_1247 (by decide +kernel) ⟨by decide, by decide⟩ hl.1 rfl (Nat.le_of_ble_eq_true rfl) ⟨Nat.zero_le _, Nat.zero_le _⟩ dX8_taste_12 (fun r3 hr3 => ?_)
    obtain ⟨z3, hz3, rfl⟩ := hr3
    refine s_if_ne (a := z3) (tgt := 22) hE.1 hE.2.1 (by omega) dX8_taste_15 (by decide) (fun c4 => ?_) (fun c4 => ?_)
    · skip
      refine lv_aload_n hE.1 hE.2.1 dX8_taste_22 rfl (lv_at hl 0 rfl) ?_
      refine x_get (x := .ref (ad 65)) hE hK hP 0 (Nat.lt_of_lt_of_le (by decide) hNN) (xG_8 rfl) rfl hin8 8 (by decide) mw_488 rfl dX8_taste_23 ?_
      refine lv_iload_n hE.1 hE.2.1 dX8_taste_26 rfl (lv_at hl 2 rfl) ?_
      rcases (show z_2 = 0 ∨ z_2 = 1 ∨ z_2 = 2 ∨ z_2 = 3 by omega) with rfl | rfl | rfl | rfl
      · skip
        refine x_aald (r := .ref (ad 67)) hE hK hP 65 4 (Nat.lt_of_lt_of_le (by decide) hNN) (xG_13 rfl) rfl (by unfold vp_in; decide) rfl dX8_taste_27 ?_
        refine lv_astore_n (lv' := [(3, .ref (ad 67)), (0, .ref (ad 0)), (1, .int (iI (z_1))), (2, .int (iI (0)))]) hE.1 hE.2.1 dX8_taste_28 rfl hl (by decide) rfl (fun ls hl => ?_)
        refine lv_aload_n hE.1 hE.2.1 dX8_taste_29 rfl (lv_at hl 0 rfl) ?_
        obtain ⟨z5, hz5, ez5⟩ := XI_get hI 67 2 (-1) 60 (by decide)
        refine x_get (x := .int (v 67 2)) hE hK hP 67 (Nat.lt_of_lt_of_le (by decide) hNN) (xG_5 rfl) rfl hin5 2 (by decide) mw_451 rfl dX8_taste_30 ?_
        refine x_top (y := iI (z5)) ez5 ?_
        refine s_if_ge (a := z5) (tgt := 40) hE.1 hE.2.1 (by omega) dX8_taste_33 (by decide) (fun c6 => ?_) (fun c6 => ?_)
        · skip
          refine lv_aload_n hE.1 hE.2.1 dX8_taste_40 rfl (lv_at hl 0 rfl) ?_
          refine lv_aload_n hE.1 hE.2.1 dX8_taste_41 rfl (lv_at hl 1 rfl) ?_
          refine x_get (x := .ref (ad 3)) hE hK hP 0 (Nat.lt_of_lt_of_le (by decide) hNN) (xG_8 rfl) rfl hin8 1 (by decide) mw_481 rfl dX8_taste_42 ?_
          refine x_vp (nn := 1) (As := [.ref (ad 3)]) (rest := []) hE (s_X5_isOfMotifs_67_3 l D K ad mm N hNN v ar al hI  ) wPre_blind (wPre_now hK hN hP) (x_recv hK hP 67 (Nat.lt_of_lt_of_le (by decide) hNN) (xG_5 rfl) rfl) rfl mw_1235 mw_1236 mw_1237 mw_121 mw_1238 (by decide +kernel) ⟨by decide, by decide⟩ hl.1 rfl (Nat.le_of_ble_eq_true rfl) ⟨Nat.zero_le _, Nat.zero_le _⟩ dX8_taste_45 (fun r7 hr7 => ?_)
          obtain ⟨z7, hz7, rfl⟩ := hr7
          refine s_if_eq (a := z7) (tgt := 63) hE.1 hE.2.1 (by omega) dX8_taste_48 (by decide) (fun c8 => ?_) (fun c8 => ?_)
          · skip
            refine lv_sipush (v := iI (-1000)) hE.1 hE.2.1 dX8_taste_63 (by decide) ?_
            exact kr _ _ _ rfl ⟨-1000, by omega, rfl⟩ dX8_taste_66
          · skip
            refine lv_aload_n hE.1 hE.2.1 dX8_taste_51 rfl (lv_at hl 0 rfl) ?_
            refine lv_aload_n hE.1 hE.2.1 dX8_taste_52 rfl (lv_at hl 1 rfl) ?_
            refine x_get (x := .ref (ad 3)) hE hK hP 0 (Nat.lt_of_lt_of_le (by decide) hNN) (xG_8 rfl) rfl hin8 1 (by decide) mw_481 rfl dX8_taste_53 ?_
            refine lv_iload_n hE.1 hE.2.1 dX8_taste_56 rfl (lv_at hl 2 rfl) ?_
            refine x_vp (nn := 2) (As := [.ref (ad 3), .int (iI (z_1))]) (rest := []) hE (s_X5_tasteFor_67_3 l D K ad mm N hNN v ar al hI  (z_1) (by omega)) wPre_blind (wPre_now hK hN hP) (x_recv hK hP 67 (Nat.lt_of_lt_of_le (by decide) hNN) (xG_5 rfl) rfl) rfl mw_1240 mw_1241 mw_1242 mw_121 mw_1243 (by decide +kernel) ⟨by decide, by decide⟩ hl.1 rfl (Nat.le_of_ble_eq_true rfl) ⟨Nat.zero_le _, Nat.zero_le _⟩ dX8_taste_57 (fun r9 hr9 => ?_)
            obtain ⟨z9, hz9, rfl⟩ := hr9
            refine lv_goto (tgt := 66) hE.1 hE.2.1 dX8_taste_60 (by decide) ?_
            exact kr _ _ _ rfl ⟨z9, by omega, rfl⟩ dX8_taste_66
        · skip
          refine lv_sipush (v := iI (-6000)) hE.1 hE.2.1 dX8_taste_36 (by decide) ?_
          exact kr _ _ _ rfl ⟨-6000, by omega, rfl⟩ dX8_taste_39
      · skip
        refine x_aald (r := .ref (ad 69)) hE hK hP 65 4 (Nat.lt_of_lt_of_le (by decide) hNN) (xG_13 rfl) rfl (by unfold vp_in; decide) rfl dX8_taste_27 ?_
        refine lv_astore_n (lv' := [(3, .ref (ad 69)), (0, .ref (ad 0)), (1, .int (iI (z_1))), (2, .int (iI (1)))]) hE.1 hE.2.1 dX8_taste_28 rfl hl (by decide) rfl (fun ls hl => ?_)
        refine lv_aload_n hE.1 hE.2.1 dX8_taste_29 rfl (lv_at hl 0 rfl) ?_
        obtain ⟨z10, hz10, ez10⟩ := XI_get hI 69 2 (-1) 60 (by decide)
        refine x_get (x := .int (v 69 2)) hE hK hP 69 (Nat.lt_of_lt_of_le (by decide) hNN) (xG_5 rfl) rfl hin5 2 (by decide) mw_451 rfl dX8_taste_30 ?_
        refine x_top (y := iI (z10)) ez10 ?_
        refine s_if_ge (a := z10) (tgt := 40) hE.1 hE.2.1 (by omega) dX8_taste_33 (by decide) (fun c11 => ?_) (fun c11 => ?_)
        · skip
          refine lv_aload_n hE.1 hE.2.1 dX8_taste_40 rfl (lv_at hl 0 rfl) ?_
          refine lv_aload_n hE.1 hE.2.1 dX8_taste_41 rfl (lv_at hl 1 rfl) ?_
          refine x_get (x := .ref (ad 3)) hE hK hP 0 (Nat.lt_of_lt_of_le (by decide) hNN) (xG_8 rfl) rfl hin8 1 (by decide) mw_481 rfl dX8_taste_42 ?_
          refine x_vp (nn := 1) (As := [.ref (ad 3)]) (rest := []) hE (s_X5_isOfMotifs_69_3 l D K ad mm N hNN v ar al hI  ) wPre_blind (wPre_now hK hN hP) (x_recv hK hP 69 (Nat.lt_of_lt_of_le (by decide) hNN) (xG_5 rfl) rfl) rfl mw_1235 mw_1236 mw_1237 mw_121 mw_1238 (by decide +kernel) ⟨by decide, by decide⟩ hl.1 rfl (Nat.le_of_ble_eq_true rfl) ⟨Nat.zero_le _, Nat.zero_le _⟩ dX8_taste_45 (fun r12 hr12 => ?_)
          obtain ⟨z12, hz12, rfl⟩ := hr12
          refine s_if_eq (a := z12) (tgt := 63) hE.1 hE.2.1 (by omega) dX8_taste_48 (by decide) (fun c13 => ?_) (fun c13 => ?_)
          · skip
            refine lv_sipush (v := iI (-1000)) hE.1 hE.2.1 dX8_taste_63 (by decide) ?_
            exact kr _ _ _ rfl ⟨-1000, by omega, rfl⟩ dX8_taste_66
          · skip
            refine lv_aload_n hE.1 hE.2.1 dX8_taste_51 rfl (lv_at hl 0 rfl) ?_
            refine lv_aload_n hE.1 hE.2.1 dX8_taste_52 rfl (lv_at hl 1 rfl) ?_
            refine x_get (x := .ref (ad 3)) hE hK hP 0 (Nat.lt_of_lt_of_le (by decide) hNN) (xG_8 rfl) rfl hin8 1 (by decide) mw_481 rfl dX8_taste_53 ?_
            refine lv_iload_n hE.1 hE.2.1 dX8_taste_56 rfl (lv_at hl 2 rfl) ?_
            refine x_vp (nn := 2) (As := [.ref (ad 3), .int (iI (z_1))]) (rest := []) hE (s_X5_tasteFor_69_3 l D K ad mm N hNN v ar al hI  (z_1) (by omega)) wPre_blind (wPre_now hK hN hP) (x_recv hK hP 69 (Nat.lt_of_lt_of_le (by decide) hNN) (xG_5 rfl) rfl) rfl mw_1240 mw_1241 mw_1242 mw_121 mw_1243 (by decide +kernel) ⟨by decide, by decide⟩ hl.1 rfl (Nat.le_of_ble_eq_true rfl) ⟨Nat.zero_le _, Nat.zero_le _⟩ dX8_taste_57 (fun r14 hr14 => ?_)
            obtain ⟨z14, hz14, rfl⟩ := hr14
            refine lv_goto (tgt := 66) hE.1 hE.2.1 dX8_taste_60 (by decide) ?_
            exact kr _ _ _ rfl ⟨z14, by omega, rfl⟩ dX8_taste_66
        · skip
          refine lv_sipush (v := iI (-6000)) hE.1 hE.2.1 dX8_taste_36 (by decide) ?_
          exact kr _ _ _ rfl ⟨-6000, by omega, rfl⟩ dX8_taste_39
      · skip
        refine x_aald (r := .ref (ad 71)) hE hK hP 65 4 (Nat.lt_of_lt_of_le (by decide) hNN) (xG_13 rfl) rfl (by unfold vp_in; decide) rfl dX8_taste_27 ?_
        refine lv_astore_n (lv' := [(3, .ref (ad 71)), (0, .ref (ad 0)), (1, .int (iI (z_1))), (2, .int (iI (2)))]) hE.1 hE.2.1 dX8_taste_28 rfl hl (by decide) rfl (fun ls hl => ?_)
        refine lv_aload_n hE.1 hE.2.1 dX8_taste_29 rfl (lv_at hl 0 rfl) ?_
        obtain ⟨z15, hz15, ez15⟩ := XI_get hI 71 2 (-1) 60 (by decide)
        refine x_get (x := .int (v 71 2)) hE hK hP 71 (Nat.lt_of_lt_of_le (by decide) hNN) (xG_5 rfl) rfl hin5 2 (by decide) mw_451 rfl dX8_taste_30 ?_
        refine x_top (y := iI (z15)) ez15 ?_
        refine s_if_ge (a := z15) (tgt := 40) hE.1 hE.2.1 (by omega) dX8_taste_33 (by decide) (fun c16 => ?_) (fun c16 => ?_)
        · skip
          refine lv_aload_n hE.1 hE.2.1 dX8_taste_40 rfl (lv_at hl 0 rfl) ?_
          refine lv_aload_n hE.1 hE.2.1 dX8_taste_41 rfl (lv_at hl 1 rfl) ?_
          refine x_get (x := .ref (ad 3)) hE hK hP 0 (Nat.lt_of_lt_of_le (by decide) hNN) (xG_8 rfl) rfl hin8 1 (by decide) mw_481 rfl dX8_taste_42 ?_
          refine x_vp (nn := 1) (As := [.ref (ad 3)]) (rest := []) hE (s_X5_isOfMotifs_71_3 l D K ad mm N hNN v ar al hI  ) wPre_blind (wPre_now hK hN hP) (x_recv hK hP 71 (Nat.lt_of_lt_of_le (by decide) hNN) (xG_5 rfl) rfl) rfl mw_1235 mw_1236 mw_1237 mw_121 mw_1238 (by decide +kernel) ⟨by decide, by decide⟩ hl.1 rfl (Nat.le_of_ble_eq_true rfl) ⟨Nat.zero_le _, Nat.zero_le _⟩ dX8_taste_45 (fun r17 hr17 => ?_)
          obtain ⟨z17, hz17, rfl⟩ := hr17
          refine s_if_eq (a := z17) (tgt := 63) hE.1 hE.2.1 (by omega) dX8_taste_48 (by decide) (fun c18 => ?_) (fun c18 => ?_)
          · skip
            refine lv_sipush (v := iI (-1000)) hE.1 hE.2.1 dX8_taste_63 (by decide) ?_
            exact kr _ _ _ rfl ⟨-1000, by omega, rfl⟩ dX8_taste_66
          · skip
            refine lv_aload_n hE.1 hE.2.1 dX8_taste_51 rfl (lv_at hl 0 rfl) ?_
            refine lv_aload_n hE.1 hE.2.1 dX8_taste_52 rfl (lv_at hl 1 rfl) ?_
            refine x_get (x := .ref (ad 3)) hE hK hP 0 (Nat.lt_of_lt_of_le (by decide) hNN) (xG_8 rfl) rfl hin8 1 (by decide) mw_481 rfl dX8_taste_53 ?_
            refine lv_iload_n hE.1 hE.2.1 dX8_taste_56 rfl (lv_at hl 2 rfl) ?_
            refine x_vp (nn := 2) (As := [.ref (ad 3), .int (iI (z_1))]) (rest := []) hE (s_X5_tasteFor_71_3 l D K ad mm N hNN v ar al hI  (z_1) (by omega)) wPre_blind (wPre_now hK hN hP) (x_recv hK hP 71 (Nat.lt_of_lt_of_le (by decide) hNN) (xG_5 rfl) rfl) rfl mw_1240 mw_1241 mw_1242 mw_121 mw_1243 (by decide +kernel) ⟨by decide, by decide⟩ hl.1 rfl (Nat.le_of_ble_eq_true rfl) ⟨Nat.zero_le _, Nat.zero_le _⟩ dX8_taste_57 (fun r19 hr19 => ?_)
            obtain ⟨z19, hz19, rfl⟩ := hr19
            refine lv_goto (tgt := 66) hE.1 hE.2.1 dX8_taste_60 (by decide) ?_
            exact kr _ _ _ rfl ⟨z19, by omega, rfl⟩ dX8_taste_66
        · skip
          refine lv_sipush (v := iI (-6000)) hE.1 hE.2.1 dX8_taste_36 (by decide) ?_
          exact kr _ _ _ rfl ⟨-6000, by omega, rfl⟩ dX8_taste_39
      · skip
        refine x_aald (r := .ref (ad 73)) hE hK hP 65 4 (Nat.lt_of_lt_of_le (by decide) hNN) (xG_13 rfl) rfl (by unfold vp_in; decide) rfl dX8_taste_27 ?_
        refine lv_astore_n (lv' := [(3, .ref (ad 73)), (0, .ref (ad 0)), (1, .int (iI (z_1))), (2, .int (iI (3)))]) hE.1 hE.2.1 dX8_taste_28 rfl hl (by decide) rfl (fun ls hl => ?_)
        refine lv_aload_n hE.1 hE.2.1 dX8_taste_29 rfl (lv_at hl 0 rfl) ?_
        obtain ⟨z20, hz20, ez20⟩ := XI_get hI 73 2 (-1) 60 (by decide)
        refine x_get (x := .int (v 73 2)) hE hK hP 73 (Nat.lt_of_lt_of_le (by decide) hNN) (xG_5 rfl) rfl hin5 2 (by decide) mw_451 rfl dX8_taste_30 ?_
        refine x_top (y := iI (z20)) ez20 ?_
        refine s_if_ge (a := z20) (tgt := 40) hE.1 hE.2.1 (by omega) dX8_taste_33 (by decide) (fun c21 => ?_) (fun c21 => ?_)
        · skip
          refine lv_aload_n hE.1 hE.2.1 dX8_taste_40 rfl (lv_at hl 0 rfl) ?_
          refine lv_aload_n hE.1 hE.2.1 dX8_taste_41 rfl (lv_at hl 1 rfl) ?_
          refine x_get (x := .ref (ad 3)) hE hK hP 0 (Nat.lt_of_lt_of_le (by decide) hNN) (xG_8 rfl) rfl hin8 1 (by decide) mw_481 rfl dX8_taste_42 ?_
          refine x_vp (nn := 1) (As := [.ref (ad 3)]) (rest := []) hE (s_X5_isOfMotifs_73_3 l D K ad mm N hNN v ar al hI  ) wPre_blind (wPre_now hK hN hP) (x_recv hK hP 73 (Nat.lt_of_lt_of_le (by decide) hNN) (xG_5 rfl) rfl) rfl mw_1235 mw_1236 mw_1237 mw_121 mw_1238 (by decide +kernel) ⟨by decide, by decide⟩ hl.1 rfl (Nat.le_of_ble_eq_true rfl) ⟨Nat.zero_le _, Nat.zero_le _⟩ dX8_taste_45 (fun r22 hr22 => ?_)
          obtain ⟨z22, hz22, rfl⟩ := hr22
          refine s_if_eq (a := z22) (tgt := 63) hE.1 hE.2.1 (by omega) dX8_taste_48 (by decide) (fun c23 => ?_) (fun c23 => ?_)
          · skip
            refine lv_sipush (v := iI (-1000)) hE.1 hE.2.1 dX8_taste_63 (by decide) ?_
            exact kr _ _ _ rfl ⟨-1000, by omega, rfl⟩ dX8_taste_66
          · skip
            refine lv_aload_n hE.1 hE.2.1 dX8_taste_51 rfl (lv_at hl 0 rfl) ?_
            refine lv_aload_n hE.1 hE.2.1 dX8_taste_52 rfl (lv_at hl 1 rfl) ?_
            refine x_get (x := .ref (ad 3)) hE hK hP 0 (Nat.lt_of_lt_of_le (by decide) hNN) (xG_8 rfl) rfl hin8 1 (by decide) mw_481 rfl dX8_taste_53 ?_
            refine lv_iload_n hE.1 hE.2.1 dX8_taste_56 rfl (lv_at hl 2 rfl) ?_
            refine x_vp (nn := 2) (As := [.ref (ad 3), .int (iI (z_1))]) (rest := []) hE (s_X5_tasteFor_73_3 l D K ad mm N hNN v ar al hI  (z_1) (by omega)) wPre_blind (wPre_now hK hN hP) (x_recv hK hP 73 (Nat.lt_of_lt_of_le (by decide) hNN) (xG_5 rfl) rfl) rfl mw_1240 mw_1241 mw_1242 mw_121 mw_1243 (by decide +kernel) ⟨by decide, by decide⟩ hl.1 rfl (Nat.le_of_ble_eq_true rfl) ⟨Nat.zero_le _, Nat.zero_le _⟩ dX8_taste_57 (fun r24 hr24 => ?_)
            obtain ⟨z24, hz24, rfl⟩ := hr24
            refine lv_goto (tgt := 66) hE.1 hE.2.1 dX8_taste_60 (by decide) ?_
            exact kr _ _ _ rfl ⟨z24, by omega, rfl⟩ dX8_taste_66
        · skip
          refine lv_sipush (v := iI (-6000)) hE.1 hE.2.1 dX8_taste_36 (by decide) ?_
          exact kr _ _ _ rfl ⟨-6000, by omega, rfl⟩ dX8_taste_39
    · skip
      refine lv_sipush (v := iI (-1000)) hE.1 hE.2.1 dX8_taste_18 (by decide) ?_
      exact kr _ _ _ rfl ⟨-1000, by omega, rfl⟩ dX8_taste_21

theorem dX8_mayDraw_0 : decode cX8_mayDraw 0 = .ok (.aload_n 0, 1) := by decide +kernel
theorem dX8_mayDraw_1 : decode cX8_mayDraw 1 = .ok (.getfield 19, 3) := by decide +kernel
theorem dX8_mayDraw_4 : decode cX8_mayDraw 4 = .ok (.invokevirtual 157, 3) := by decide +kernel
theorem dX8_mayDraw_7 : decode cX8_mayDraw 7 = .ok (.ifCond .eq 18, 3) := by decide +kernel
theorem dX8_mayDraw_10 : decode cX8_mayDraw 10 = .ok (.iload_n 1, 1) := by decide +kernel
theorem dX8_mayDraw_11 : decode cX8_mayDraw 11 = .ok (.ifCond .lt 14, 3) := by decide +kernel
theorem dX8_mayDraw_14 : decode cX8_mayDraw 14 = .ok (.iload_n 1, 1) := by decide +kernel
theorem dX8_mayDraw_15 : decode cX8_mayDraw 15 = .ok (.ldc_w 326, 3) := by decide +kernel
theorem dX8_mayDraw_18 : decode cX8_mayDraw 18 = .ok (.if_icmp .gt 7, 3) := by decide +kernel
theorem dX8_mayDraw_21 : decode cX8_mayDraw 21 = .ok (.iconst 1, 1) := by decide +kernel
theorem dX8_mayDraw_22 : decode cX8_mayDraw 22 = .ok (.goto 4, 3) := by decide +kernel
theorem dX8_mayDraw_25 : decode cX8_mayDraw 25 = .ok (.iconst 0, 1) := by decide +kernel
theorem dX8_mayDraw_26 : decode cX8_mayDraw 26 = .ok (.ireturn, 1) := by decide +kernel
set_option maxHeartbeats 4000000 in
set_option maxRecDepth 100000 in
theorem s_X8_mayDraw_0 (l : Launch) (D : va_G) (K : Nat → ClassId) (ad : Nat → Nat) (mm : Option Nat) (N : Nat) (hNN : 132 ≤ N) (v ar : sI) (al : sL) (hI : XI v) (z_1 : Int) (hz_1 : -2147483648 ≤ z_1 ∧ z_1 ≤ 2147483647) : Met l yX8_mayDraw (wM yX8_mayDraw cX8_mayDraw 2 (some .boolean)) (rmD 1) (va_Pc [.ref (ad 0), .int (iI (z_1))] (wPre D K ad (xG ad K mm) N v ar al)) (vp_Si (fun r => ∃ z : Int, (0 ≤ z ∧ z ≤ 1) ∧ r = iI z)) 0 0 (fun _ => False) := by
  refine s_metP (by decide) (Nat.le_of_ble_eq_true rfl) ?_
  intro p e s m below meth c ls args Q hE hB hl kr
  have hE : CallFix p m c cX8_mayDraw 2 s args tbG "TaleCourt" := hE
  obtain ⟨hP, hK, hN⟩ := hB
  have hl : lv_has ls 2 [(0, .ref (ad 0)), (1, .int (iI (z_1)))] := hl
  refine lv_aload_n hE.1 hE.2.1 dX8_mayDraw_0 rfl (lv_at hl 0 rfl) ?_
  refine x_get (x := .ref (ad 3)) hE hK hP 0 (Nat.lt_of_lt_of_le (by decide) hNN) (xG_8 rfl) rfl hin8 1 (by decide) mw_481 rfl dX8_mayDraw_1 ?_
  refine x_vp (nn := 0) (As := []) (rest := []) hE (s_X1_stands_3 l D K ad mm N hNN v ar al hI  ) wPre_blind (wPre_now hK hN hP) (x_recv hK hP 3 (Nat.lt_of_lt_of_le (by decide) hNN) (xG_1 rfl) rfl) rfl mw_788 mw_789 mw_790 mw_116 mw_791 (by decide +kernel) ⟨by decide, by decide⟩ hl.1 rfl (Nat.le_of_ble_eq_true rfl) ⟨Nat.zero_le _, Nat.zero_le _⟩ dX8_mayDraw_4 (fun r1 hr1 => ?_)
  obtain ⟨z1, hz1, rfl⟩ := hr1
  refine s_if_eq (a := z1) (tgt := 25) hE.1 hE.2.1 (by omega) dX8_mayDraw_7 (by decide) (fun c2 => ?_) (fun c2 => ?_)
  · skip
    refine lv_iconst (v := iI (0)) hE.1 hE.2.1 dX8_mayDraw_25 (by decide) ?_
    exact kr _ _ _ (nar01 (by omega)) ⟨0, by omega, rfl⟩ dX8_mayDraw_26
  · skip
    refine lv_iload_n hE.1 hE.2.1 dX8_mayDraw_10 rfl (lv_at hl 1 rfl) ?_
    refine s_if_lt (a := z_1) (tgt := 25) hE.1 hE.2.1 (by omega) dX8_mayDraw_11 (by decide) (fun c3 => ?_) (fun c3 => ?_)
    · skip
      refine lv_iconst (v := iI (0)) hE.1 hE.2.1 dX8_mayDraw_25 (by decide) ?_
      exact kr _ _ _ (nar01 (by omega)) ⟨0, by omega, rfl⟩ dX8_mayDraw_26
    · skip
      refine lv_iload_n hE.1 hE.2.1 dX8_mayDraw_14 rfl (lv_at hl 1 rfl) ?_
      refine lv_ldcw (v := 2000000000) hE.1 hE.2.1 hE.2.2.2.1 (hE.2.2.2.2 _ mw_1262) dX8_mayDraw_15 ?_
      refine x_top (y := iI (2000000000)) (by decide) ?_
      refine s_icmp_gt (a := z_1) (b := 2000000000) (tgt := 25) hE.1 hE.2.1 (by omega) (by omega) dX8_mayDraw_18 (by decide) (fun c4 => ?_) (fun c4 => ?_)
      · skip
        refine lv_iconst (v := iI (0)) hE.1 hE.2.1 dX8_mayDraw_25 (by decide) ?_
        exact kr _ _ _ (nar01 (by omega)) ⟨0, by omega, rfl⟩ dX8_mayDraw_26
      · skip
        refine lv_iconst (v := iI (1)) hE.1 hE.2.1 dX8_mayDraw_21 (by decide) ?_
        refine lv_goto (tgt := 26) hE.1 hE.2.1 dX8_mayDraw_22 (by decide) ?_
        exact kr _ _ _ (nar01 (by omega)) ⟨1, by omega, rfl⟩ dX8_mayDraw_26

set_option maxHeartbeats 4000000 in
set_option maxRecDepth 100000 in
theorem s_X7_copyFrom_31_23 (l : Launch) (D : va_G) (K : Nat → ClassId) (ad : Nat → Nat) (mm : Option Nat) (N : Nat) (hNN : 132 ≤ N) (v ar : sI) (al : sL) (hI : XI v) : Met l yX7_copyFrom (wM yX7_copyFrom cX7_copyFrom 2 none) (rmD 1) (va_Pc [.ref (ad 31), .ref (ad 23)] (wPre D K ad (xG ad K mm) N v ar al)) (va_Qv (fun u : sT => XI u.1 ∧ (∀ i j : Nat, (i, j) ∉ ([(31, 2), (31, 3), (31, 4), (31, 5), (31, 8), (31, 9)] : List (Nat × Nat)) → u.1 i j = v i j)) (wB D ad (xG ad K mm) N) (inW ad N)) 0 0 (inW ad N) := by
  refine s_metV (by decide) (Nat.le_of_ble_eq_true rfl) ?_
  intro p e s m below meth c ls args Q hE hB hl kr
  have hE : CallFix p m c cX7_copyFrom 2 s args tbG "TaleCourt$Telling" := hE
  obtain ⟨hP, hK, hN⟩ := hB
  have hS : va_S (inW ad N) s.heap s.heap [] := va_S.rf
  have hl : lv_has ls 2 [(0, .ref (ad 31)), (1, .ref (ad 23))] := hl
  refine lv_aload_n hE.1 hE.2.1 dX7_copyFrom_0 rfl (lv_at hl 0 rfl) ?_
  refine lv_aload_n hE.1 hE.2.1 dX7_copyFrom_1 rfl (lv_at hl 1 rfl) ?_
  obtain ⟨z1, hz1, ez1⟩ := XI_get hI 23 2 0 18 (by decide)
  refine x_get (x := .int (v 23 2)) hE hK hP 23 (Nat.lt_of_lt_of_le (by decide) hNN) (xG_7 rfl) rfl hin7 2 (by decide) mw_301 rfl dX7_copyFrom_2 ?_
  refine x_top (y := iI (z1)) ez1 ?_
  refine x_put (x := iI (z1)) hE hK hN hP hS 31 (Nat.lt_of_lt_of_le (by decide) hNN) (xG_7 rfl) rfl hin7 tyX7 tyX7_ok nmX7 2 (by decide) mw_301 rfl rfl rfl (Nat.le_of_ble_eq_true rfl) (xG_7 rfl) dX7_copyFrom_5 (fun v2 H locs hv2 hP hS => ?_)
  have hI := XI_putB (z := z1) hI hv2 0 18 (by omega) (by decide) (by omega)
  refine lv_aload_n hE.1 hE.2.1 dX7_copyFrom_8 rfl (lv_at hl 0 rfl) ?_
  refine lv_aload_n hE.1 hE.2.1 dX7_copyFrom_9 rfl (lv_at hl 1 rfl) ?_
  obtain ⟨z3, hz3, ez3⟩ := iI_of (v2 23 3)
  refine x_get (x := .int (v2 23 3)) hE hK hP 23 (Nat.lt_of_lt_of_le (by decide) hNN) (xG_7 rfl) rfl hin7 3 (by decide) mw_305 rfl dX7_copyFrom_10 ?_
  refine x_top (y := iI (z3)) ez3 ?_
  refine x_put (x := iI (z3)) hE hK hN hP hS 31 (Nat.lt_of_lt_of_le (by decide) hNN) (xG_7 rfl) rfl hin7 tyX7 tyX7_ok nmX7 3 (by decide) mw_305 rfl rfl rfl (Nat.le_of_ble_eq_true rfl) (xG_7 rfl) dX7_copyFrom_13 (fun v4 H locs hv4 hP hS => ?_)
  have hI := XI_putN hI hv4 (by decide)
  refine lv_aload_n hE.1 hE.2.1 dX7_copyFrom_16 rfl (lv_at hl 0 rfl) ?_
  refine lv_aload_n hE.1 hE.2.1 dX7_copyFrom_17 rfl (lv_at hl 1 rfl) ?_
  obtain ⟨z5, hz5, ez5⟩ := iI_of (v4 23 4)
  refine x_get (x := .int (v4 23 4)) hE hK hP 23 (Nat.lt_of_lt_of_le (by decide) hNN) (xG_7 rfl) rfl hin7 4 (by decide) mw_309 rfl dX7_copyFrom_18 ?_
  refine x_top (y := iI (z5)) ez5 ?_
  refine x_put (x := iI (z5)) hE hK hN hP hS 31 (Nat.lt_of_lt_of_le (by decide) hNN) (xG_7 rfl) rfl hin7 tyX7 tyX7_ok nmX7 4 (by decide) mw_309 rfl rfl rfl (Nat.le_of_ble_eq_true rfl) (xG_7 rfl) dX7_copyFrom_21 (fun v6 H locs hv6 hP hS => ?_)
  have hI := XI_putN hI hv6 (by decide)
  refine lv_aload_n hE.1 hE.2.1 dX7_copyFrom_24 rfl (lv_at hl 0 rfl) ?_
  refine lv_aload_n hE.1 hE.2.1 dX7_copyFrom_25 rfl (lv_at hl 1 rfl) ?_
  obtain ⟨z7, hz7, ez7⟩ := iI_of (v6 23 5)
  refine x_get (x := .int (v6 23 5)) hE hK hP 23 (Nat.lt_of_lt_of_le (by decide) hNN) (xG_7 rfl) rfl hin7 5 (by decide) mw_312 rfl dX7_copyFrom_26 ?_
  refine x_top (y := iI (z7)) ez7 ?_
  refine x_put (x := iI (z7)) hE hK hN hP hS 31 (Nat.lt_of_lt_of_le (by decide) hNN) (xG_7 rfl) rfl hin7 tyX7 tyX7_ok nmX7 5 (by decide) mw_312 rfl rfl rfl (Nat.le_of_ble_eq_true rfl) (xG_7 rfl) dX7_copyFrom_29 (fun v8 H locs hv8 hP hS => ?_)
  have hI := XI_putN hI hv8 (by decide)
  refine lv_aload_n hE.1 hE.2.1 dX7_copyFrom_32 rfl (lv_at hl 0 rfl) ?_
  refine lv_aload_n hE.1 hE.2.1 dX7_copyFrom_33 rfl (lv_at hl 1 rfl) ?_
  obtain ⟨z9, hz9, ez9⟩ := iI_of (v8 23 8)
  refine x_get (x := .int (v8 23 8)) hE hK hP 23 (Nat.lt_of_lt_of_le (by decide) hNN) (xG_7 rfl) rfl hin7 8 (by decide) mw_317 rfl dX7_copyFrom_34 ?_
  refine x_top (y := iI (z9)) ez9 ?_
  refine x_put (x := iI (z9)) hE hK hN hP hS 31 (Nat.lt_of_lt_of_le (by decide) hNN) (xG_7 rfl) rfl hin7 tyX7 tyX7_ok nmX7 8 (by decide) mw_317 rfl rfl rfl (Nat.le_of_ble_eq_true rfl) (xG_7 rfl) dX7_copyFrom_37 (fun v10 H locs hv10 hP hS => ?_)
  have hI := XI_putN hI hv10 (by decide)
  refine lv_aload_n hE.1 hE.2.1 dX7_copyFrom_40 rfl (lv_at hl 0 rfl) ?_
  refine lv_aload_n hE.1 hE.2.1 dX7_copyFrom_41 rfl (lv_at hl 1 rfl) ?_
  obtain ⟨z11, hz11, ez11⟩ := iI_of (v10 23 9)
  refine x_get (x := .int (v10 23 9)) hE hK hP 23 (Nat.lt_of_lt_of_le (by decide) hNN) (xG_7 rfl) rfl hin7 9 (by decide) mw_318 rfl dX7_copyFrom_42 ?_
  refine x_top (y := iI (z11)) ez11 ?_
  refine x_put (x := iI (z11)) hE hK hN hP hS 31 (Nat.lt_of_lt_of_le (by decide) hNN) (xG_7 rfl) rfl hin7 tyX7 tyX7_ok nmX7 9 (by decide) mw_318 rfl rfl rfl (Nat.le_of_ble_eq_true rfl) (xG_7 rfl) dX7_copyFrom_45 (fun v12 H locs hv12 hP hS => ?_)
  have hI := XI_putN hI hv12 (by decide)
  refine lv_aload_n hE.1 hE.2.1 dX7_copyFrom_48 rfl (lv_at hl 1 rfl) ?_
  refine x_get (x := .ref (ad 24)) hE hK hP 23 (Nat.lt_of_lt_of_le (by decide) hNN) (xG_7 rfl) rfl hin7 0 (by decide) mw_295 rfl dX7_copyFrom_49 ?_
  refine lv_iconst (v := iI (0)) hE.1 hE.2.1 dX7_copyFrom_52 (by decide) ?_
  refine lv_aload_n hE.1 hE.2.1 dX7_copyFrom_53 rfl (lv_at hl 0 rfl) ?_
  refine x_get (x := .ref (ad 32)) hE hK hP 31 (Nat.lt_of_lt_of_le (by decide) hNN) (xG_7 rfl) rfl hin7 0 (by decide) mw_295 rfl dX7_copyFrom_54 ?_
  refine lv_iconst (v := iI (0)) hE.1 hE.2.1 dX7_copyFrom_57 (by decide) ?_
  refine lv_bipush (v := iI (18)) hE.1 hE.2.1 dX7_copyFrom_58 (by decide) ?_
  refine x_copyi (rest := []) (sp := iI (0)) (dp := iI (0)) (n := iI (18)) (n0 := 18) (n1 := 18) hE hl.1 hK hN hP hS mw_912 mw_680 mw_679 mw_130 24 32 (Nat.lt_of_lt_of_le (by decide) hNN) (Nat.lt_of_lt_of_le (by decide) hNN) (xG_10 rfl) (fun _ => xG_10 rfl) (by decide) (by decide) (by decide) (by decide) (by decide) (by decide) (by decide) dX7_copyFrom_60 (fun ar13 H locs ha13 hP hS => ?_)
  refine lv_aload_n hE.1 hE.2.1 dX7_copyFrom_63 rfl (lv_at hl 1 rfl) ?_
  refine x_get (x := .ref (ad 25)) hE hK hP 23 (Nat.lt_of_lt_of_le (by decide) hNN) (xG_7 rfl) rfl hin7 1 (by decide) mw_299 rfl dX7_copyFrom_64 ?_
  refine lv_iconst (v := iI (0)) hE.1 hE.2.1 dX7_copyFrom_67 (by decide) ?_
  refine lv_aload_n hE.1 hE.2.1 dX7_copyFrom_68 rfl (lv_at hl 0 rfl) ?_
  refine x_get (x := .ref (ad 33)) hE hK hP 31 (Nat.lt_of_lt_of_le (by decide) hNN) (xG_7 rfl) rfl hin7 1 (by decide) mw_299 rfl dX7_copyFrom_69 ?_
  refine lv_iconst (v := iI (0)) hE.1 hE.2.1 dX7_copyFrom_72 (by decide) ?_
  refine lv_bipush (v := iI (9)) hE.1 hE.2.1 dX7_copyFrom_73 (by decide) ?_
  refine x_copyi (rest := []) (sp := iI (0)) (dp := iI (0)) (n := iI (9)) (n0 := 9) (n1 := 9) hE hl.1 hK hN hP hS mw_912 mw_680 mw_679 mw_130 25 33 (Nat.lt_of_lt_of_le (by decide) hNN) (Nat.lt_of_lt_of_le (by decide) hNN) (xG_10 rfl) (fun _ => xG_10 rfl) (by decide) (by decide) (by decide) (by decide) (by decide) (by decide) (by decide) dX7_copyFrom_75 (fun ar14 H locs ha14 hP hS => ?_)
  refine lv_aload_n hE.1 hE.2.1 dX7_copyFrom_78 rfl (lv_at hl 1 rfl) ?_
  refine x_get (x := .ref (ad 26)) hE hK hP 23 (Nat.lt_of_lt_of_le (by decide) hNN) (xG_7 rfl) rfl hin7 7 (by decide) mw_316 rfl dX7_copyFrom_79 ?_
  refine lv_iconst (v := iI (0)) hE.1 hE.2.1 dX7_copyFrom_82 (by decide) ?_
  refine lv_aload_n hE.1 hE.2.1 dX7_copyFrom_83 rfl (lv_at hl 0 rfl) ?_
  refine x_get (x := .ref (ad 34)) hE hK hP 31 (Nat.lt_of_lt_of_le (by decide) hNN) (xG_7 rfl) rfl hin7 7 (by decide) mw_316 rfl dX7_copyFrom_84 ?_
  refine lv_iconst (v := iI (0)) hE.1 hE.2.1 dX7_copyFrom_87 (by decide) ?_
  refine lv_iconst (v := iI (3)) hE.1 hE.2.1 dX7_copyFrom_88 (by decide) ?_
  refine x_copyi (rest := []) (sp := iI (0)) (dp := iI (0)) (n := iI (3)) (n0 := 3) (n1 := 3) hE hl.1 hK hN hP hS mw_912 mw_680 mw_679 mw_130 26 34 (Nat.lt_of_lt_of_le (by decide) hNN) (Nat.lt_of_lt_of_le (by decide) hNN) (xG_10 rfl) (fun _ => xG_10 rfl) (by decide) (by decide) (by decide) (by decide) (by decide) (by decide) (by decide) dX7_copyFrom_89 (fun ar15 H locs ha15 hP hS => ?_)
  refine lv_aload_n hE.1 hE.2.1 dX7_copyFrom_92 rfl (lv_at hl 1 rfl) ?_
  refine x_get (x := .ref (ad 27)) hE hK hP 23 (Nat.lt_of_lt_of_le (by decide) hNN) (xG_7 rfl) rfl hin7 10 (by decide) mw_319 rfl dX7_copyFrom_93 ?_
  refine lv_iconst (v := iI (0)) hE.1 hE.2.1 dX7_copyFrom_96 (by decide) ?_
  refine lv_aload_n hE.1 hE.2.1 dX7_copyFrom_97 rfl (lv_at hl 0 rfl) ?_
  refine x_get (x := .ref (ad 35)) hE hK hP 31 (Nat.lt_of_lt_of_le (by decide) hNN) (xG_7 rfl) rfl hin7 10 (by decide) mw_319 rfl dX7_copyFrom_98 ?_
  refine lv_iconst (v := iI (0)) hE.1 hE.2.1 dX7_copyFrom_101 (by decide) ?_
  refine lv_bipush (v := iI (18)) hE.1 hE.2.1 dX7_copyFrom_102 (by decide) ?_
  refine x_copyi (rest := []) (sp := iI (0)) (dp := iI (0)) (n := iI (18)) (n0 := 18) (n1 := 18) hE hl.1 hK hN hP hS mw_912 mw_680 mw_679 mw_130 27 35 (Nat.lt_of_lt_of_le (by decide) hNN) (Nat.lt_of_lt_of_le (by decide) hNN) (xG_10 rfl) (fun _ => xG_10 rfl) (by decide) (by decide) (by decide) (by decide) (by decide) (by decide) (by decide) dX7_copyFrom_104 (fun ar16 H locs ha16 hP hS => ?_)
  refine lv_aload_n hE.1 hE.2.1 dX7_copyFrom_107 rfl (lv_at hl 1 rfl) ?_
  refine x_get (x := .ref (ad 28)) hE hK hP 23 (Nat.lt_of_lt_of_le (by decide) hNN) (xG_7 rfl) rfl hin7 11 (by decide) mw_320 rfl dX7_copyFrom_108 ?_
  refine lv_iconst (v := iI (0)) hE.1 hE.2.1 dX7_copyFrom_111 (by decide) ?_
  refine lv_aload_n hE.1 hE.2.1 dX7_copyFrom_112 rfl (lv_at hl 0 rfl) ?_
  refine x_get (x := .ref (ad 36)) hE hK hP 31 (Nat.lt_of_lt_of_le (by decide) hNN) (xG_7 rfl) rfl hin7 11 (by decide) mw_320 rfl dX7_copyFrom_113 ?_
  refine lv_iconst (v := iI (0)) hE.1 hE.2.1 dX7_copyFrom_116 (by decide) ?_
  refine lv_bipush (v := iI (18)) hE.1 hE.2.1 dX7_copyFrom_117 (by decide) ?_
  refine x_copyi (rest := []) (sp := iI (0)) (dp := iI (0)) (n := iI (18)) (n0 := 18) (n1 := 18) hE hl.1 hK hN hP hS mw_912 mw_680 mw_679 mw_130 28 36 (Nat.lt_of_lt_of_le (by decide) hNN) (Nat.lt_of_lt_of_le (by decide) hNN) (xG_10 rfl) (fun _ => xG_10 rfl) (by decide) (by decide) (by decide) (by decide) (by decide) (by decide) (by decide) dX7_copyFrom_119 (fun ar17 H locs ha17 hP hS => ?_)
  refine lv_aload_n hE.1 hE.2.1 dX7_copyFrom_122 rfl (lv_at hl 1 rfl) ?_
  refine x_get (x := .ref (ad 29)) hE hK hP 23 (Nat.lt_of_lt_of_le (by decide) hNN) (xG_7 rfl) rfl hin7 12 (by decide) mw_321 rfl dX7_copyFrom_123 ?_
  refine lv_iconst (v := iI (0)) hE.1 hE.2.1 dX7_copyFrom_126 (by decide) ?_
  refine lv_aload_n hE.1 hE.2.1 dX7_copyFrom_127 rfl (lv_at hl 0 rfl) ?_
  refine x_get (x := .ref (ad 37)) hE hK hP 31 (Nat.lt_of_lt_of_le (by decide) hNN) (xG_7 rfl) rfl hin7 12 (by decide) mw_321 rfl dX7_copyFrom_128 ?_
  refine lv_iconst (v := iI (0)) hE.1 hE.2.1 dX7_copyFrom_131 (by decide) ?_
  refine lv_bipush (v := iI (18)) hE.1 hE.2.1 dX7_copyFrom_132 (by decide) ?_
  refine x_copyi (rest := []) (sp := iI (0)) (dp := iI (0)) (n := iI (18)) (n0 := 18) (n1 := 18) hE hl.1 hK hN hP hS mw_912 mw_680 mw_679 mw_130 29 37 (Nat.lt_of_lt_of_le (by decide) hNN) (Nat.lt_of_lt_of_le (by decide) hNN) (xG_10 rfl) (fun _ => xG_10 rfl) (by decide) (by decide) (by decide) (by decide) (by decide) (by decide) (by decide) dX7_copyFrom_134 (fun ar18 H locs ha18 hP hS => ?_)
  refine lv_aload_n hE.1 hE.2.1 dX7_copyFrom_137 rfl (lv_at hl 1 rfl) ?_
  refine x_get (x := .ref (ad 30)) hE hK hP 23 (Nat.lt_of_lt_of_le (by decide) hNN) (xG_7 rfl) rfl hin7 13 (by decide) mw_322 rfl dX7_copyFrom_138 ?_
  refine lv_iconst (v := iI (0)) hE.1 hE.2.1 dX7_copyFrom_141 (by decide) ?_
  refine lv_aload_n hE.1 hE.2.1 dX7_copyFrom_142 rfl (lv_at hl 0 rfl) ?_
  refine x_get (x := .ref (ad 38)) hE hK hP 31 (Nat.lt_of_lt_of_le (by decide) hNN) (xG_7 rfl) rfl hin7 13 (by decide) mw_322 rfl dX7_copyFrom_143 ?_
  refine lv_iconst (v := iI (0)) hE.1 hE.2.1 dX7_copyFrom_146 (by decide) ?_
  refine lv_bipush (v := iI (18)) hE.1 hE.2.1 dX7_copyFrom_147 (by decide) ?_
  refine x_copyi (rest := []) (sp := iI (0)) (dp := iI (0)) (n := iI (18)) (n0 := 18) (n1 := 18) hE hl.1 hK hN hP hS mw_912 mw_680 mw_679 mw_130 30 38 (Nat.lt_of_lt_of_le (by decide) hNN) (Nat.lt_of_lt_of_le (by decide) hNN) (xG_10 rfl) (fun _ => xG_10 rfl) (by decide) (by decide) (by decide) (by decide) (by decide) (by decide) (by decide) dX7_copyFrom_149 (fun ar19 H locs ha19 hP hS => ?_)
  exact kr _ _ _ _ _ _ _ ⟨hI, fun i j h => ((up_oth hv12 (fun q => h (by rcases q with ⟨rfl, rfl⟩; decide))).trans ((up_oth hv10 (fun q => h (by rcases q with ⟨rfl, rfl⟩; decide))).trans ((up_oth hv8 (fun q => h (by rcases q with ⟨rfl, rfl⟩; decide))).trans ((up_oth hv6 (fun q => h (by rcases q with ⟨rfl, rfl⟩; decide))).trans ((up_oth hv4 (fun q => h (by rcases q with ⟨rfl, rfl⟩; decide))).trans (up_oth hv2 (fun q => h (by rcases q with ⟨rfl, rfl⟩; decide))))))))⟩ hP hS dX7_copyFrom_152

set_option maxHeartbeats 4000000 in
set_option maxRecDepth 100000 in
theorem s_X7_playable_31 (l : Launch) (D : va_G) (K : Nat → ClassId) (ad : Nat → Nat) (mm : Option Nat) (N : Nat) (hNN : 132 ≤ N) (v ar : sI) (al : sL) (hI : XI v) : Met l yX7_playable (wM yX7_playable cX7_playable 2 (some .int)) (rmD 1) (va_Pc [.ref (ad 31)] (wPre D K ad (xG ad K mm) N v ar al)) (vp_Si (fun r => ∃ z : Int, (-2147483648 ≤ z ∧ z ≤ 2147483647) ∧ r = iI z)) 0 0 (fun _ => False) := by
  refine s_metP (by decide) (Nat.le_of_ble_eq_true rfl) ?_
  intro p e s m below meth c ls args Q hE hB hl kr
  have hE : CallFix p m c cX7_playable 2 s args tbG "TaleCourt$Telling" := hE
  obtain ⟨hP, hK, hN⟩ := hB
  have hl : lv_has ls 2 [(0, .ref (ad 31))] := hl
  refine lv_aload_n hE.1 hE.2.1 dX7_playable_0 rfl (lv_at hl 0 rfl) ?_
  obtain ⟨z1, hz1, ez1⟩ := iI_of (v 31 3)
  refine x_get (x := .int (v 31 3)) hE hK hP 31 (Nat.lt_of_lt_of_le (by decide) hNN) (xG_7 rfl) rfl hin7 3 (by decide) mw_305 rfl dX7_playable_1 ?_
  refine x_top (y := iI (z1)) ez1 ?_
  refine lv_aload_n hE.1 hE.2.1 dX7_playable_4 rfl (lv_at hl 0 rfl) ?_
  obtain ⟨z2, hz2, ez2⟩ := iI_of (v 31 8)
  refine x_get (x := .int (v 31 8)) hE hK hP 31 (Nat.lt_of_lt_of_le (by decide) hNN) (xG_7 rfl) rfl hin7 8 (by decide) mw_317 rfl dX7_playable_5 ?_
  refine x_top (y := iI (z2)) ez2 ?_
  refine lv_ior hE.1 hE.2.1 dX7_playable_8 ?_
  obtain ⟨z3, hz3, ez3⟩ := iI_of (iI (z1) ||| iI (z2))
  refine x_top ez3 ?_
  refine lv_aload_n hE.1 hE.2.1 dX7_playable_9 rfl (lv_at hl 0 rfl) ?_
  refine x_get (x := .ref (ad 3)) hE hK hP 31 (Nat.lt_of_lt_of_le (by decide) hNN) (xG_7 rfl) rfl hin7 6 (by decide) mw_315 rfl dX7_playable_10 ?_
  refine x_get (x := .ref (ad 10)) hE hK hP 3 (Nat.lt_of_lt_of_le (by decide) hNN) (xG_1 rfl) rfl hin1 17 (by decide) mw_240 rfl dX7_playable_13 ?_
  refine lv_aload_n hE.1 hE.2.1 dX7_playable_16 rfl (lv_at hl 0 rfl) ?_
  refine x_vp (nn := 0) (As := []) (rest := [.ref (ad 10), .int (iI (z3))]) hE (s_X7_teller_31 l D K ad mm N hNN v ar al hI  ) wPre_blind (wPre_now hK hN hP) (x_recv hK hP 31 (Nat.lt_of_lt_of_le (by decide) hNN) (xG_7 rfl) rfl) rfl mw_758 mw_759 mw_760 mw_117 mw_761 (by decide +kernel) ⟨by decide, by decide⟩ hl.1 rfl (Nat.le_of_ble_eq_true rfl) ⟨Nat.zero_le _, Nat.zero_le _⟩ dX7_playable_17 (fun r4 hr4 => ?_)
  obtain ⟨z4, hz4, rfl⟩ := hr4
  refine x_iald (j := iI (z4)) hE hK hP 10 (Nat.lt_of_lt_of_le (by decide) hNN) (xG_10 rfl) (iI_in (n := 3) (by omega)) dX7_playable_20 ?_
  obtain ⟨z6, hz6, ez6⟩ := iI_of (ar 10 (iI (z4)).toNatClampNeg)
  refine x_top ez6 ?_
  refine lv_ior hE.1 hE.2.1 dX7_playable_21 ?_
  obtain ⟨z7, hz7, ez7⟩ := iI_of (iI (z3) ||| iI (z6))
  refine x_top ez7 ?_
  refine lv_istore_n (lv' := [(1, .int (iI (z7))), (0, .ref (ad 31))]) hE.1 hE.2.1 dX7_playable_22 rfl hl (by decide) rfl (fun ls hl => ?_)
  refine lv_aload_n hE.1 hE.2.1 dX7_playable_23 rfl (lv_at hl 1 rfl) ?_
  obtain ⟨z8, hz8, ez8⟩ := XI_get hI 31 2 0 18 (by decide)
  refine x_get (x := .int (v 31 2)) hE hK hP 31 (Nat.lt_of_lt_of_le (by decide) hNN) (xG_7 rfl) rfl hin7 2 (by decide) mw_301 rfl dX7_playable_24 ?_
  refine x_top (y := iI (z8)) ez8 ?_
  refine lv_iconst (v := iI (1)) hE.1 hE.2.1 dX7_playable_27 (by decide) ?_
  refine lv_iand hE.1 hE.2.1 dX7_playable_28 ?_
  obtain ⟨z9, hz9, ez9⟩ := iI_and (iI (z8)) (iI (1)) 1 (by decide)
  refine x_top ez9 ?_
  refine s_if_ne (a := z9) (tgt := 42) hE.1 hE.2.1 (by omega) dX7_playable_29 (by decide) (fun c10 => ?_) (fun c10 => ?_)
  · skip
    refine lv_aload_n hE.1 hE.2.1 dX7_playable_42 rfl (lv_at hl 1 rfl) ?_
    refine x_vp (nn := 0) (As := []) (rest := []) hE (s_X7_joined_31 l D K ad mm N hNN v ar al hI  ) wPre_blind (wPre_now hK hN hP) (x_recv hK hP 31 (Nat.lt_of_lt_of_le (by decide) hNN) (xG_7 rfl) rfl) rfl mw_746 mw_748 mw_16 mw_117 mw_749 (by decide +kernel) ⟨by decide, by decide⟩ hl.1 rfl (Nat.le_of_ble_eq_true rfl) ⟨Nat.zero_le _, Nat.zero_le _⟩ dX7_playable_43 (fun r11 hr11 => ?_)
    obtain ⟨z11, hz11, rfl⟩ := hr11
    refine lv_iload_n hE.1 hE.2.1 dX7_playable_46 rfl (lv_at hl 0 rfl) ?_
    refine lv_iconst (v := iI (-1)) hE.1 hE.2.1 dX7_playable_47 (by decide) ?_
    refine lv_ixor hE.1 hE.2.1 dX7_playable_48 ?_
    obtain ⟨z12, hz12, ez12⟩ := iI_of (iI (z7) ^^^ iI (-1))
    refine x_top ez12 ?_
    refine lv_iand hE.1 hE.2.1 dX7_playable_49 ?_
    obtain ⟨z13, hz13, ez13⟩ := iI_of (iI (z11) &&& iI (z12))
    refine x_top ez13 ?_
    exact kr _ _ _ rfl ⟨z13, by omega, rfl⟩ dX7_playable_50
  · skip
    refine lv_iload_n hE.1 hE.2.1 dX7_playable_32 rfl (lv_at hl 0 rfl) ?_
    refine lv_aload_n hE.1 hE.2.1 dX7_playable_33 rfl (lv_at hl 1 rfl) ?_
    refine x_get (x := .ref (ad 3)) hE hK hP 31 (Nat.lt_of_lt_of_le (by decide) hNN) (xG_7 rfl) rfl hin7 6 (by decide) mw_315 rfl dX7_playable_34 ?_
    obtain ⟨z14, hz14, ez14⟩ := iI_of (v 3 8)
    refine x_get (x := .int (v 3 8)) hE hK hP 3 (Nat.lt_of_lt_of_le (by decide) hNN) (xG_1 rfl) rfl hin1 8 (by decide) mw_210 rfl dX7_playable_37 ?_
    refine x_top (y := iI (z14)) ez14 ?_
    refine lv_ior hE.1 hE.2.1 dX7_playable_40 ?_
    obtain ⟨z15, hz15, ez15⟩ := iI_of (iI (z7) ||| iI (z14))
    refine x_top ez15 ?_
    refine lv_istore_n (lv' := [(1, .int (iI (z15))), (0, .ref (ad 31))]) hE.1 hE.2.1 dX7_playable_41 rfl hl (by decide) rfl (fun ls hl => ?_)
    refine lv_aload_n hE.1 hE.2.1 dX7_playable_42 rfl (lv_at hl 1 rfl) ?_
    refine x_vp (nn := 0) (As := []) (rest := []) hE (s_X7_joined_31 l D K ad mm N hNN v ar al hI  ) wPre_blind (wPre_now hK hN hP) (x_recv hK hP 31 (Nat.lt_of_lt_of_le (by decide) hNN) (xG_7 rfl) rfl) rfl mw_746 mw_748 mw_16 mw_117 mw_749 (by decide +kernel) ⟨by decide, by decide⟩ hl.1 rfl (Nat.le_of_ble_eq_true rfl) ⟨Nat.zero_le _, Nat.zero_le _⟩ dX7_playable_43 (fun r16 hr16 => ?_)
    obtain ⟨z16, hz16, rfl⟩ := hr16
    refine lv_iload_n hE.1 hE.2.1 dX7_playable_46 rfl (lv_at hl 0 rfl) ?_
    refine lv_iconst (v := iI (-1)) hE.1 hE.2.1 dX7_playable_47 (by decide) ?_
    refine lv_ixor hE.1 hE.2.1 dX7_playable_48 ?_
    obtain ⟨z17, hz17, ez17⟩ := iI_of (iI (z15) ^^^ iI (-1))
    refine x_top ez17 ?_
    refine lv_iand hE.1 hE.2.1 dX7_playable_49 ?_
    obtain ⟨z18, hz18, ez18⟩ := iI_of (iI (z16) &&& iI (z17))
    refine x_top ez18 ?_
    exact kr _ _ _ rfl ⟨z18, by omega, rfl⟩ dX7_playable_50

set_option maxHeartbeats 4000000 in
set_option maxRecDepth 100000 in
theorem s_X7_tellable_31 (l : Launch) (D : va_G) (K : Nat → ClassId) (ad : Nat → Nat) (mm : Option Nat) (N : Nat) (hNN : 132 ≤ N) (v ar : sI) (al : sL) (hI : XI v) : Met l yX7_tellable (wM yX7_tellable cX7_tellable 2 (some .int)) (rmD 2) (va_Pc [.ref (ad 31)] (wPre D K ad (xG ad K mm) N v ar al)) (vp_Si (fun r => ∃ z : Int, (-2147483648 ≤ z ∧ z ≤ 2147483647) ∧ r = iI z)) 0 0 (fun _ => False) := by
  refine s_metP (by decide) (Nat.le_of_ble_eq_true rfl) ?_
  intro p e s m below meth c ls args Q hE hB hl kr
  have hE : CallFix p m c cX7_tellable 2 s args tbG "TaleCourt$Telling" := hE
  obtain ⟨hP, hK, hN⟩ := hB
  have hl : lv_has ls 2 [(0, .ref (ad 31))] := hl
  refine lv_aload_n hE.1 hE.2.1 dX7_tellable_0 rfl (lv_at hl 0 rfl) ?_
  refine x_vp (nn := 0) (As := []) (rest := []) hE (s_X7_pressing_31 l D K ad mm N hNN v ar al hI  ) wPre_blind (wPre_now hK hN hP) (x_recv hK hP 31 (Nat.lt_of_lt_of_le (by decide) hNN) (xG_7 rfl) rfl) rfl mw_750 mw_752 mw_17 mw_117 mw_753 (by decide +kernel) ⟨by decide, by decide⟩ hl.1 rfl (Nat.le_of_ble_eq_true rfl) ⟨Nat.zero_le _, Nat.zero_le _⟩ dX7_tellable_1 (fun r1 hr1 => ?_)
  obtain ⟨z1, hz1, rfl⟩ := hr1
  refine lv_istore_n (lv' := [(1, .int (iI (z1))), (0, .ref (ad 31))]) hE.1 hE.2.1 dX7_tellable_4 rfl hl (by decide) rfl (fun ls hl => ?_)
  refine lv_iload_n hE.1 hE.2.1 dX7_tellable_5 rfl (lv_at hl 0 rfl) ?_
  refine s_if_ne (a := z1) (tgt := 14) hE.1 hE.2.1 (by omega) dX7_tellable_6 (by decide) (fun c2 => ?_) (fun c2 => ?_)
  · skip
    refine lv_iload_n hE.1 hE.2.1 dX7_tellable_14 rfl (lv_at hl 0 rfl) ?_
    refine x_sp (nn := 1) (As := [.int (iI (z1))]) (rest := []) hE (s_J6_bitCount_0f7a4 l (z1) (by omega)) tt_blind (fun _ _ _ => trivial) rfl mw_849 mw_850 mw_131 mw_851 (by decide +kernel) ⟨by decide, by decide⟩ hl.1 rfl (Nat.le_of_ble_eq_true rfl) ⟨Nat.zero_le _, Nat.zero_le _⟩ dX7_tellable_15 (fun r3 hr3 => ?_)
    obtain ⟨z3, hz3, rfl⟩ := hr3
    refine lv_iconst (v := iI (1)) hE.1 hE.2.1 dX7_tellable_18 (by decide) ?_
    refine s_icmp_ne (a := z3) (b := 1) (tgt := 31) hE.1 hE.2.1 (by omega) (by omega) dX7_tellable_19 (by decide) (fun c4 => ?_) (fun c4 => ?_)
    · skip
      refine lv_iconst (v := iI (0)) hE.1 hE.2.1 dX7_tellable_31 (by decide) ?_
      exact kr _ _ _ rfl ⟨0, by omega, rfl⟩ dX7_tellable_32
    · skip
      refine lv_aload_n hE.1 hE.2.1 dX7_tellable_22 rfl (lv_at hl 1 rfl) ?_
      refine x_vp (nn := 0) (As := []) (rest := []) hE (s_X7_playable_31 l D K ad mm N hNN v ar al hI  ) wPre_blind (wPre_now hK hN hP) (x_recv hK hP 31 (Nat.lt_of_lt_of_le (by decide) hNN) (xG_7 rfl) rfl) rfl mw_845 mw_846 mw_847 mw_117 mw_848 (by decide +kernel) ⟨by decide, by decide⟩ hl.1 rfl (Nat.le_of_ble_eq_true rfl) ⟨Nat.zero_le _, Nat.zero_le _⟩ dX7_tellable_23 (fun r5 hr5 => ?_)
      obtain ⟨z5, hz5, rfl⟩ := hr5
      refine lv_iload_n hE.1 hE.2.1 dX7_tellable_26 rfl (lv_at hl 0 rfl) ?_
      refine lv_iand hE.1 hE.2.1 dX7_tellable_27 ?_
      obtain ⟨z6, hz6, ez6⟩ := iI_of (iI (z5) &&& iI (z1))
      refine x_top ez6 ?_
      refine lv_goto (tgt := 32) hE.1 hE.2.1 dX7_tellable_28 (by decide) ?_
      exact kr _ _ _ rfl ⟨z6, by omega, rfl⟩ dX7_tellable_32
  · skip
    refine lv_aload_n hE.1 hE.2.1 dX7_tellable_9 rfl (lv_at hl 1 rfl) ?_
    refine x_vp (nn := 0) (As := []) (rest := []) hE (s_X7_playable_31 l D K ad mm N hNN v ar al hI  ) wPre_blind (wPre_now hK hN hP) (x_recv hK hP 31 (Nat.lt_of_lt_of_le (by decide) hNN) (xG_7 rfl) rfl) rfl mw_845 mw_846 mw_847 mw_117 mw_848 (by decide +kernel) ⟨by decide, by decide⟩ hl.1 rfl (Nat.le_of_ble_eq_true rfl) ⟨Nat.zero_le _, Nat.zero_le _⟩ dX7_tellable_10 (fun r7 hr7 => ?_)
    obtain ⟨z7, hz7, rfl⟩ := hr7
    exact kr _ _ _ rfl ⟨z7, by omega, rfl⟩ dX7_tellable_13

theorem dX8_bitAt_0 : decode cX8_bitAt 0 = .ok (.iload_n 1, 1) := by decide +kernel
theorem dX8_bitAt_1 : decode cX8_bitAt 1 = .ok (.istore_n 2, 1) := by decide +kernel
theorem dX8_bitAt_2 : decode cX8_bitAt 2 = .ok (.iconst 0, 1) := by decide +kernel
theorem dX8_bitAt_3 : decode cX8_bitAt 3 = .ok (.istore_n 3, 1) := by decide +kernel
theorem dX8_bitAt_4 : decode cX8_bitAt 4 = .ok (.iload_n 3, 1) := by decide +kernel
theorem dX8_bitAt_5 : decode cX8_bitAt 5 = .ok (.bipush 9, 2) := by decide +kernel
theorem dX8_bitAt_7 : decode cX8_bitAt 7 = .ok (.if_icmp .ge 26, 3) := by decide +kernel
theorem dX8_bitAt_10 : decode cX8_bitAt 10 = .ok (.iload_n 0, 1) := by decide +kernel
theorem dX8_bitAt_11 : decode cX8_bitAt 11 = .ok (.iload_n 3, 1) := by decide +kernel
theorem dX8_bitAt_12 : decode cX8_bitAt 12 = .ok (.ishr, 1) := by decide +kernel
theorem dX8_bitAt_13 : decode cX8_bitAt 13 = .ok (.iconst 1, 1) := by decide +kernel
theorem dX8_bitAt_14 : decode cX8_bitAt 14 = .ok (.iand, 1) := by decide +kernel
theorem dX8_bitAt_15 : decode cX8_bitAt 15 = .ok (.ifCond .eq 12, 3) := by decide +kernel
theorem dX8_bitAt_18 : decode cX8_bitAt 18 = .ok (.iload_n 2, 1) := by decide +kernel
theorem dX8_bitAt_19 : decode cX8_bitAt 19 = .ok (.ifCond .ne 5, 3) := by decide +kernel
theorem dX8_bitAt_22 : decode cX8_bitAt 22 = .ok (.iload_n 3, 1) := by decide +kernel
theorem dX8_bitAt_23 : decode cX8_bitAt 23 = .ok (.ireturn, 1) := by decide +kernel
theorem dX8_bitAt_24 : decode cX8_bitAt 24 = .ok (.iinc 2 (-1), 3) := by decide +kernel
theorem dX8_bitAt_27 : decode cX8_bitAt 27 = .ok (.iinc 3 1, 3) := by decide +kernel
theorem dX8_bitAt_30 : decode cX8_bitAt 30 = .ok (.goto (-26), 3) := by decide +kernel
theorem dX8_bitAt_33 : decode cX8_bitAt 33 = .ok (.iconst (-1), 1) := by decide +kernel
theorem dX8_bitAt_34 : decode cX8_bitAt 34 = .ok (.ireturn, 1) := by decide +kernel
set_option maxHeartbeats 4000000 in
set_option maxRecDepth 100000 in
theorem s_X8_bitAt (l : Launch) (z_1 : Int) (hz_1 : -2147483648 ≤ z_1 ∧ z_1 ≤ 2147483647) (z_2 : Int) (hz_2 : -2147483648 ≤ z_2 ∧ z_2 ≤ 2147483647) : Met l yX8_bitAt (wM yX8_bitAt cX8_bitAt 4 (some .int)) (rmD 0) (va_Pc [.int (iI (z_1)), .int (iI (z_2))] (fun _ => True)) (vp_Si (fun r => ∃ z : Int, (-2147483648 ≤ z ∧ z ≤ 2147483647) ∧ r = iI z)) 0 0 (fun _ => False) := by
  refine s_metP (by decide) (Nat.le_of_ble_eq_true rfl) ?_
  intro p e s m below meth c ls args Q hE hB hl kr
  have hE : CallFix p m c cX8_bitAt 4 s args tbG "TaleCourt" := hE
  have hl : lv_has ls 4 [(0, .int (iI (z_1))), (1, .int (iI (z_2)))] := hl
  refine lv_iload_n hE.1 hE.2.1 dX8_bitAt_0 rfl (lv_at hl 1 rfl) ?_
  refine lv_istore_n (lv' := [(2, .int (iI (z_2))), (0, .int (iI (z_1))), (1, .int (iI (z_2)))]) hE.1 hE.2.1 dX8_bitAt_1 rfl hl (by decide) rfl (fun ls hl => ?_)
  refine lv_iconst (v := iI (0)) hE.1 hE.2.1 dX8_bitAt_2 (by decide) ?_
  refine lv_istore_n (lv' := [(3, .int (iI (0))), (2, .int (iI (z_2))), (0, .int (iI (z_1))), (1, .int (iI (z_2)))]) hE.1 hE.2.1 dX8_bitAt_3 rfl hl (by decide) rfl (fun ls hl => ?_)
  have loop1 : ∀ (k1 : Nat) (y1_3 : Int) (y1_2 : Int) (ls : Array Slot), (9 - y1_3).toNat = k1 → (0 ≤ y1_3 ∧ y1_3 ≤ 9) → (-2147483648 ≤ y1_2 ∧ y1_2 ≤ 2147483647) → lv_has ls 4 [(3, .int (iI (y1_3))), (2, .int (iI (y1_2))), (0, .int (iI (z_1))), (1, .int (iI (z_2)))] → W p l e (rmD 0) s m args below meth c s.heap [] 0 0 Q (F0 m 4 ls []) := by
    intro k1
    induction k1 using Nat.strongRecOn with
    | _ k1 ih1 =>
      intro y1_3 y1_2 ls hk1 hb_y1_3 hb_y1_2 hl
      refine lv_iload_n hE.1 hE.2.1 dX8_bitAt_4 rfl (lv_at hl 0 rfl) ?_
      refine lv_bipush (v := iI (9)) hE.1 hE.2.1 dX8_bitAt_5 (by decide) ?_
      refine s_icmp_ge (a := y1_3) (b := 9) (tgt := 33) hE.1 hE.2.1 (by omega) (by omega) dX8_bitAt_7 (by decide) (fun c2 => ?_) (fun c2 => ?_)
      · skip
        refine lv_iconst (v := iI (-1)) hE.1 hE.2.1 dX8_bitAt_33 (by decide) ?_
        exact kr _ _ _ rfl ⟨-1, by omega, rfl⟩ dX8_bitAt_34
      · skip
        refine lv_iload_n hE.1 hE.2.1 dX8_bitAt_10 rfl (lv_at hl 2 rfl) ?_
        refine lv_iload_n hE.1 hE.2.1 dX8_bitAt_11 rfl (lv_at hl 0 rfl) ?_
        refine lv_ishr hE.1 hE.2.1 dX8_bitAt_12 ?_
        obtain ⟨z3, hz3, ez3⟩ := iI_of (iI (z_1) >>> (iI (y1_3) &&& 31))
        refine x_top ez3 ?_
        refine lv_iconst (v := iI (1)) hE.1 hE.2.1 dX8_bitAt_13 (by decide) ?_
        refine lv_iand hE.1 hE.2.1 dX8_bitAt_14 ?_
        obtain ⟨z4, hz4, ez4⟩ := iI_and (iI (z3)) (iI (1)) 1 (by decide)
        refine x_top ez4 ?_
        refine s_if_eq (a := z4) (tgt := 27) hE.1 hE.2.1 (by omega) dX8_bitAt_15 (by decide) (fun c5 => ?_) (fun c5 => ?_)
        · skip
          refine lv_iinc (v := iI (y1_3 + 1)) (lv' := [(3, .int (iI (y1_3 + 1))), (2, .int (iI (y1_2))), (0, .int (iI (z_1))), (1, .int (iI (z_2)))]) hE.1 hE.2.1 dX8_bitAt_27 hl (k := 0) rfl ((iI_add (y1_3) (1)).trans (congrArg iI (by omega))) (by decide) rfl (fun ls hl => ?_)
          refine lv_goto (tgt := 4) hE.1 hE.2.1 dX8_bitAt_30 (by decide) ?_
          exact ih1 _ (by omega) (y1_3 + 1) (y1_2) _ rfl (by omega) (by omega) (lv_sub hl [0, 1, 2, 3] rfl)
        · skip
          refine lv_iload_n hE.1 hE.2.1 dX8_bitAt_18 rfl (lv_at hl 1 rfl) ?_
          refine s_if_ne (a := y1_2) (tgt := 24) hE.1 hE.2.1 (by omega) dX8_bitAt_19 (by decide) (fun c6 => ?_) (fun c6 => ?_)
          · skip
            obtain ⟨z7, hz7, ez7⟩ := iI_of (iI (y1_2) + iI (-1))
            refine lv_iinc (v := iI (z7)) (lv' := [(2, .int (iI (z7))), (3, .int (iI (y1_3))), (0, .int (iI (z_1))), (1, .int (iI (z_2)))]) hE.1 hE.2.1 dX8_bitAt_24 hl (k := 1) rfl ez7 (by decide) rfl (fun ls hl => ?_)
            refine lv_iinc (v := iI (y1_3 + 1)) (lv' := [(3, .int (iI (y1_3 + 1))), (2, .int (iI (z7))), (0, .int (iI (z_1))), (1, .int (iI (z_2)))]) hE.1 hE.2.1 dX8_bitAt_27 hl (k := 1) rfl ((iI_add (y1_3) (1)).trans (congrArg iI (by omega))) (by decide) rfl (fun ls hl => ?_)
            refine lv_goto (tgt := 4) hE.1 hE.2.1 dX8_bitAt_30 (by decide) ?_
            exact ih1 _ (by omega) (y1_3 + 1) (z7) _ rfl (by omega) (by omega) (lv_sub hl [0, 1, 2, 3] rfl)
          · skip
            refine lv_iload_n hE.1 hE.2.1 dX8_bitAt_22 rfl (lv_at hl 0 rfl) ?_
            exact kr _ _ _ rfl ⟨y1_3, by omega, rfl⟩ dX8_bitAt_23
  exact loop1 _ (0) (z_2) _ rfl (by omega) (by omega) hl

theorem dX8_drawFrom_0 : decode cX8_drawFrom 0 = .ok (.aload_n 0, 1) := by decide +kernel
theorem dX8_drawFrom_1 : decode cX8_drawFrom 1 = .ok (.getfield 35, 3) := by decide +kernel
theorem dX8_drawFrom_4 : decode cX8_drawFrom 4 = .ok (.aload_n 0, 1) := by decide +kernel
theorem dX8_drawFrom_5 : decode cX8_drawFrom 5 = .ok (.getfield 31, 3) := by decide +kernel
theorem dX8_drawFrom_8 : decode cX8_drawFrom 8 = .ok (.invokevirtual 327, 3) := by decide +kernel
theorem dX8_drawFrom_11 : decode cX8_drawFrom 11 = .ok (.iload_n 1, 1) := by decide +kernel
theorem dX8_drawFrom_12 : decode cX8_drawFrom 12 = .ok (.i2l, 1) := by decide +kernel
theorem dX8_drawFrom_13 : decode cX8_drawFrom 13 = .ok (.lstore_n 2, 1) := by decide +kernel
theorem dX8_drawFrom_14 : decode cX8_drawFrom 14 = .ok (.iconst 0, 1) := by decide +kernel
theorem dX8_drawFrom_15 : decode cX8_drawFrom 15 = .ok (.istore 4, 2) := by decide +kernel
theorem dX8_drawFrom_17 : decode cX8_drawFrom 17 = .ok (.iload 4, 2) := by decide +kernel
theorem dX8_drawFrom_19 : decode cX8_drawFrom 19 = .ok (.bipush 9, 2) := by decide +kernel
theorem dX8_drawFrom_21 : decode cX8_drawFrom 21 = .ok (.if_icmp .ge 67, 3) := by decide +kernel
theorem dX8_drawFrom_24 : decode cX8_drawFrom 24 = .ok (.aload_n 0, 1) := by decide +kernel
theorem dX8_drawFrom_25 : decode cX8_drawFrom 25 = .ok (.getfield 35, 3) := by decide +kernel
theorem dX8_drawFrom_28 : decode cX8_drawFrom 28 = .ok (.invokevirtual 180, 3) := by decide +kernel
theorem dX8_drawFrom_31 : decode cX8_drawFrom 31 = .ok (.istore 5, 2) := by decide +kernel
theorem dX8_drawFrom_33 : decode cX8_drawFrom 33 = .ok (.iload 5, 2) := by decide +kernel
theorem dX8_drawFrom_35 : decode cX8_drawFrom 35 = .ok (.invokestatic 311, 3) := by decide +kernel
theorem dX8_drawFrom_38 : decode cX8_drawFrom 38 = .ok (.istore 6, 2) := by decide +kernel
theorem dX8_drawFrom_40 : decode cX8_drawFrom 40 = .ok (.iload 6, 2) := by decide +kernel
theorem dX8_drawFrom_42 : decode cX8_drawFrom 42 = .ok (.ifCond .ne 4, 3) := by decide +kernel
theorem dX8_drawFrom_45 : decode cX8_drawFrom 45 = .ok (.return_, 1) := by decide +kernel
theorem dX8_drawFrom_46 : decode cX8_drawFrom 46 = .ok (.ldc2_w 330, 3) := by decide +kernel
theorem dX8_drawFrom_49 : decode cX8_drawFrom 49 = .ok (.lload_n 2, 1) := by decide +kernel
theorem dX8_drawFrom_50 : decode cX8_drawFrom 50 = .ok (.lmul, 1) := by decide +kernel
theorem dX8_drawFrom_51 : decode cX8_drawFrom 51 = .ok (.ldc2_w 332, 3) := by decide +kernel
theorem dX8_drawFrom_54 : decode cX8_drawFrom 54 = .ok (.ladd, 1) := by decide +kernel
theorem dX8_drawFrom_55 : decode cX8_drawFrom 55 = .ok (.ldc2_w 334, 3) := by decide +kernel
theorem dX8_drawFrom_58 : decode cX8_drawFrom 58 = .ok (.land, 1) := by decide +kernel
theorem dX8_drawFrom_59 : decode cX8_drawFrom 59 = .ok (.lstore_n 2, 1) := by decide +kernel
theorem dX8_drawFrom_60 : decode cX8_drawFrom 60 = .ok (.aload_n 0, 1) := by decide +kernel
theorem dX8_drawFrom_61 : decode cX8_drawFrom 61 = .ok (.getfield 35, 3) := by decide +kernel
theorem dX8_drawFrom_64 : decode cX8_drawFrom 64 = .ok (.iload 5, 2) := by decide +kernel
theorem dX8_drawFrom_66 : decode cX8_drawFrom 66 = .ok (.lload_n 2, 1) := by decide +kernel
theorem dX8_drawFrom_67 : decode cX8_drawFrom 67 = .ok (.ldc2_w 336, 3) := by decide +kernel
theorem dX8_drawFrom_70 : decode cX8_drawFrom 70 = .ok (.ldiv, 1) := by decide +kernel
theorem dX8_drawFrom_71 : decode cX8_drawFrom 71 = .ok (.iload 6, 2) := by decide +kernel
theorem dX8_drawFrom_73 : decode cX8_drawFrom 73 = .ok (.i2l, 1) := by decide +kernel
theorem dX8_drawFrom_74 : decode cX8_drawFrom 74 = .ok (.lrem, 1) := by decide +kernel
theorem dX8_drawFrom_75 : decode cX8_drawFrom 75 = .ok (.l2i, 1) := by decide +kernel
theorem dX8_drawFrom_76 : decode cX8_drawFrom 76 = .ok (.invokestatic 338, 3) := by decide +kernel
theorem dX8_drawFrom_79 : decode cX8_drawFrom 79 = .ok (.invokevirtual 151, 3) := by decide +kernel
theorem dX8_drawFrom_82 : decode cX8_drawFrom 82 = .ok (.iinc 4 1, 3) := by decide +kernel
theorem dX8_drawFrom_85 : decode cX8_drawFrom 85 = .ok (.goto (-68), 3) := by decide +kernel
theorem dX8_drawFrom_88 : decode cX8_drawFrom 88 = .ok (.return_, 1) := by decide +kernel
set_option maxHeartbeats 4000000 in
set_option maxRecDepth 100000 in
theorem s_X8_drawFrom_0 (l : Launch) (D : va_G) (K : Nat → ClassId) (ad : Nat → Nat) (mm : Option Nat) (N : Nat) (hNN : 132 ≤ N) (v ar : sI) (al : sL) (hI : XI v) (z_1 : Int) (hz_1 : -2147483648 ≤ z_1 ∧ z_1 ≤ 2147483647) : Met l yX8_drawFrom (wM yX8_drawFrom cX8_drawFrom 7 none) (rmD 3) (va_Pc [.ref (ad 0), .int (iI (z_1))] (wPre D K ad (xG ad K mm) N v ar al)) (va_Qv (fun u : sT => XI u.1 ∧ (∀ i j : Nat, (i, j) ∉ ([(31, 2), (31, 3), (31, 4), (31, 5), (31, 8), (31, 9)] : List (Nat × Nat)) → u.1 i j = v i j)) (wB D ad (xG ad K mm) N) (inW ad N)) 0 0 (inW ad N) := by
  refine s_metV (by decide) (Nat.le_of_ble_eq_true rfl) ?_
  intro p e s m below meth c ls args Q hE hB hl kr
  have hE : CallFix p m c cX8_drawFrom 7 s args tbG "TaleCourt" := hE
  obtain ⟨hP, hK, hN⟩ := hB
  have hS : va_S (inW ad N) s.heap s.heap [] := va_S.rf
  have hl : lv_has ls 7 [(0, .ref (ad 0)), (1, .int (iI (z_1)))] := hl
  refine lv_aload_n hE.1 hE.2.1 dX8_drawFrom_0 rfl (lv_at hl 0 rfl) ?_
  refine x_get (x := .ref (ad 31)) hE hK hP 0 (Nat.lt_of_lt_of_le (by decide) hNN) (xG_8 rfl) rfl hin8 4 (by decide) mw_484 rfl dX8_drawFrom_1 ?_
  refine lv_aload_n hE.1 hE.2.1 dX8_drawFrom_4 rfl (lv_at hl 0 rfl) ?_
  refine x_get (x := .ref (ad 23)) hE hK hP 0 (Nat.lt_of_lt_of_le (by decide) hNN) (xG_8 rfl) rfl hin8 3 (by decide) mw_483 rfl dX8_drawFrom_5 ?_
  refine x_vv (nn := 1) (As := [.ref (ad 23)]) (rest := []) hE hK hN hP hS (s_X7_copyFrom_31_23 l D K ad mm N hNN v ar al hI  ) (x_recv hK hP 31 (Nat.lt_of_lt_of_le (by decide) hNN) (xG_7 rfl) rfl) rfl mw_1267 mw_909 mw_910 mw_117 mw_911 (by decide +kernel) ⟨by decide, by decide⟩ hl.1 rfl (Nat.le_of_ble_eq_true rfl) ⟨Nat.zero_le _, Nat.zero_le _⟩ dX8_drawFrom_8 (fun v1 ar1 al1 H locs hq1 hP hS => ?_)
  obtain ⟨hI, hq1⟩ := hq1
  have hI : XI v1 := hI
  refine lv_iload_n hE.1 hE.2.1 dX8_drawFrom_11 rfl (lv_at hl 1 rfl) ?_
  refine lv_i2l (v := lI (z_1)) hE.1 hE.2.1 dX8_drawFrom_12 (iI_i2l (by omega)) ?_
  refine lv_lstore_n (lv' := [(2, .long (lI (z_1))), (0, .ref (ad 0)), (1, .int (iI (z_1)))]) hE.1 hE.2.1 dX8_drawFrom_13 rfl hl (by decide) rfl (fun ls hl => ?_)
  refine lv_iconst (v := iI (0)) hE.1 hE.2.1 dX8_drawFrom_14 (by decide) ?_
  refine lv_istore (lv' := [(4, .int (iI (0))), (2, .long (lI (z_1))), (0, .ref (ad 0)), (1, .int (iI (z_1)))]) hE.1 hE.2.1 dX8_drawFrom_15 hl (by decide) rfl (fun ls hl => ?_)
  have loop2 : ∀ (k2 : Nat) (y2_4 : Int) (y2_2 : Int) (vl2 arl2 : sI) (all2 : sL) (H : Heap) (locs : List Loc) (ls : Array Slot), (9 - y2_4).toNat = k2 → (0 ≤ y2_4 ∧ y2_4 ≤ 9) → (-9223372036854775808 ≤ y2_2 ∧ y2_2 ≤ 9223372036854775807) → XI vl2 → (∀ i j : Nat, (i, j) ∉ ([(31, 2), (31, 3), (31, 4), (31, 5), (31, 8), (31, 9)] : List (Nat × Nat)) → vl2 i j = v1 i j) → va_P D xcl (wW ad (xG ad K mm) N vl2 arl2 all2) H → va_S (inW ad N) s.heap H locs → lv_has ls 7 [(4, .int (iI (y2_4))), (2, .long (lI (y2_2))), (0, .ref (ad 0)), (1, .int (iI (z_1)))] → W p l e (rmD 3) s m args below meth c H locs 0 0 Q (F0 m 17 ls []) := by
    intro k2
    induction k2 using Nat.strongRecOn with
    | _ k2 ih2 =>
      intro y2_4 y2_2 vl2 arl2 all2 H locs ls hk2 hb_y2_4 hb_y2_2 hI hfr2 hP hS hl
      refine lv_iload hE.1 hE.2.1 dX8_drawFrom_17 (lv_at hl 0 rfl) ?_
      refine lv_bipush (v := iI (9)) hE.1 hE.2.1 dX8_drawFrom_19 (by decide) ?_
      refine s_icmp_ge (a := y2_4) (b := 9) (tgt := 88) hE.1 hE.2.1 (by omega) (by omega) dX8_drawFrom_21 (by decide) (fun c3 => ?_) (fun c3 => ?_)
      · skip
        exact kr _ _ _ _ _ _ _ ⟨hI, fun i j h => ((hfr2 i j (fun q => h (mem_sub (by decide) q))).trans (hq1 i j (fun q => h (mem_sub (by decide) q))))⟩ hP hS dX8_drawFrom_88
      · skip
        refine lv_aload_n hE.1 hE.2.1 dX8_drawFrom_24 rfl (lv_at hl 2 rfl) ?_
        refine x_get (x := .ref (ad 31)) hE hK hP 0 (Nat.lt_of_lt_of_le (by decide) hNN) (xG_8 rfl) rfl hin8 4 (by decide) mw_484 rfl dX8_drawFrom_25 ?_
        refine x_vp (nn := 0) (As := []) (rest := []) hE (s_X7_tellable_31 l D K ad mm N hNN vl2 arl2 all2 hI  ) wPre_blind (wPre_now hK hN hP) (x_recv hK hP 31 (Nat.lt_of_lt_of_le (by decide) hNN) (xG_7 rfl) rfl) rfl mw_841 mw_842 mw_843 mw_117 mw_844 (by decide +kernel) ⟨by decide, by decide⟩ hl.1 rfl (Nat.le_of_ble_eq_true rfl) ⟨Nat.zero_le _, Nat.zero_le _⟩ dX8_drawFrom_28 (fun r4 hr4 => ?_)
        obtain ⟨z4, hz4, rfl⟩ := hr4
        refine lv_istore (lv' := [(5, .int (iI (z4))), (4, .int (iI (y2_4))), (2, .long (lI (y2_2))), (0, .ref (ad 0)), (1, .int (iI (z_1)))]) hE.1 hE.2.1 dX8_drawFrom_31 hl (by decide) rfl (fun ls hl => ?_)
        refine lv_iload hE.1 hE.2.1 dX8_drawFrom_33 (lv_at hl 0 rfl) ?_
        refine x_sp (nn := 1) (As := [.int (iI (z4))]) (rest := []) hE (s_J6_bitCount_0f7a4 l (z4) (by omega)) tt_blind (fun _ _ _ => trivial) rfl mw_1226 mw_850 mw_131 mw_851 (by decide +kernel) ⟨by decide, by decide⟩ hl.1 rfl (Nat.le_of_ble_eq_true rfl) ⟨Nat.zero_le _, Nat.zero_le _⟩ dX8_drawFrom_35 (fun r5 hr5 => ?_)
        obtain ⟨z5, hz5, rfl⟩ := hr5
        refine lv_istore (lv' := [(6, .int (iI (z5))), (5, .int (iI (z4))), (4, .int (iI (y2_4))), (2, .long (lI (y2_2))), (0, .ref (ad 0)), (1, .int (iI (z_1)))]) hE.1 hE.2.1 dX8_drawFrom_38 hl (by decide) rfl (fun ls hl => ?_)
        refine lv_iload hE.1 hE.2.1 dX8_drawFrom_40 (lv_at hl 0 rfl) ?_
        refine s_if_ne (a := z5) (tgt := 46) hE.1 hE.2.1 (by omega) dX8_drawFrom_42 (by decide) (fun c6 => ?_) (fun c6 => ?_)
        · skip
          refine lv_ldc2 (v := 1103515245) hE.1 hE.2.1 hE.2.2.2.1 (hE.2.2.2.2 _ mw_1268) dX8_drawFrom_46 ?_
          refine x_topl (y := lI (1103515245)) (by decide) ?_
          refine lv_lload_n hE.1 hE.2.1 dX8_drawFrom_49 rfl (lv_at hl 3 rfl) ?_
          refine lv_lmul hE.1 hE.2.1 dX8_drawFrom_50 ?_
          obtain ⟨z7, hz7, ez7⟩ := lI_of (lI (1103515245) * lI (y2_2))
          refine x_topl ez7 ?_
          refine lv_ldc2 (v := 12345) hE.1 hE.2.1 hE.2.2.2.1 (hE.2.2.2.2 _ mw_1269) dX8_drawFrom_51 ?_
          refine x_topl (y := lI (12345)) (by decide) ?_
          refine lv_ladd hE.1 hE.2.1 dX8_drawFrom_54 ?_
          obtain ⟨z8, hz8, ez8⟩ := lI_of (lI (z7) + lI (12345))
          refine x_topl ez8 ?_
          refine lv_ldc2 (v := 2147483647) hE.1 hE.2.1 hE.2.2.2.1 (hE.2.2.2.2 _ mw_1270) dX8_drawFrom_55 ?_
          refine x_topl (y := lI (2147483647)) (by decide) ?_
          refine lv_land hE.1 hE.2.1 dX8_drawFrom_58 ?_
          obtain ⟨z9, hz9, ez9⟩ := lI_of (lI (z8) &&& lI (2147483647))
          refine x_topl ez9 ?_
          refine lv_lstore_n (lv' := [(2, .long (lI (z9))), (6, .int (iI (z5))), (5, .int (iI (z4))), (4, .int (iI (y2_4))), (0, .ref (ad 0)), (1, .int (iI (z_1)))]) hE.1 hE.2.1 dX8_drawFrom_59 rfl hl (by decide) rfl (fun ls hl => ?_)
          refine lv_aload_n hE.1 hE.2.1 dX8_drawFrom_60 rfl (lv_at hl 4 rfl) ?_
          refine x_get (x := .ref (ad 31)) hE hK hP 0 (Nat.lt_of_lt_of_le (by decide) hNN) (xG_8 rfl) rfl hin8 4 (by decide) mw_484 rfl dX8_drawFrom_61 ?_
          refine lv_iload hE.1 hE.2.1 dX8_drawFrom_64 (lv_at hl 2 rfl) ?_
          refine lv_lload_n hE.1 hE.2.1 dX8_drawFrom_66 rfl (lv_at hl 0 rfl) ?_
          refine lv_ldc2 (v := 65536) hE.1 hE.2.1 hE.2.2.2.1 (hE.2.2.2.2 _ mw_1271) dX8_drawFrom_67 ?_
          refine x_topl (y := lI (65536)) (by decide) ?_
          refine lv_ldiv hE.1 hE.2.1 dX8_drawFrom_70 (lI_ne0 (by omega) (by omega)) ?_
          obtain ⟨z10, hz10, ez10⟩ := lI_of (lI (z9) / lI (65536))
          refine x_topl ez10 ?_
          refine lv_iload hE.1 hE.2.1 dX8_drawFrom_71 (lv_at hl 1 rfl) ?_
          refine lv_i2l (v := lI (z5)) hE.1 hE.2.1 dX8_drawFrom_73 (iI_i2l (by omega)) ?_
          refine lv_lrem hE.1 hE.2.1 dX8_drawFrom_74 (lI_ne0 (by omega) (by omega)) ?_
          obtain ⟨z11, hz11, ez11⟩ := lI_of (lI (z10) - lI (z10) / lI (z5) * lI (z5))
          refine x_topl ez11 ?_
          refine lv_l2i (v := iI (z11)) hE.1 hE.2.1 dX8_drawFrom_75 (lI_l2i _) ?_
          obtain ⟨z12, hz12, ez12⟩ := iI_of (iI (z11))
          refine x_top ez12 ?_
          refine x_sp (nn := 2) (As := [.int (iI (z4)), .int (iI (z12))]) (rest := [.ref (ad 31)]) hE (s_X8_bitAt l (z4) (by omega) (z12) (by omega)) tt_blind (fun _ _ _ => trivial) rfl mw_1272 mw_1273 mw_114 mw_1274 (by decide +kernel) ⟨by decide, by decide⟩ hl.1 rfl (Nat.le_of_ble_eq_true rfl) ⟨Nat.zero_le _, Nat.zero_le _⟩ dX8_drawFrom_76 (fun r13 hr13 => ?_)
          obtain ⟨z13, hz13, rfl⟩ := hr13
          refine x_vv (nn := 1) (As := [.int (iI (z13))]) (rest := []) hE hK hN hP hS (s_X7_tell_31 l D K ad mm N hNN vl2 arl2 all2 hI  (z13) (by omega)) (x_recv hK hP 31 (Nat.lt_of_lt_of_le (by decide) hNN) (xG_7 rfl) rfl) rfl mw_762 mw_763 mw_764 mw_117 mw_765 (by decide +kernel) ⟨by decide, by decide⟩ hl.1 rfl (Nat.le_of_ble_eq_true rfl) ⟨Nat.zero_le _, Nat.zero_le _⟩ dX8_drawFrom_79 (fun v14 ar14 al14 H locs hq14 hP hS => ?_)
          obtain ⟨hI, hq14⟩ := hq14
          have hI : XI v14 := hI
          refine lv_iinc (v := iI (y2_4 + 1)) (lv' := [(4, .int (iI (y2_4 + 1))), (2, .long (lI (z9))), (6, .int (iI (z5))), (5, .int (iI (z4))), (0, .ref (ad 0)), (1, .int (iI (z_1)))]) hE.1 hE.2.1 dX8_drawFrom_82 hl (k := 3) rfl ((iI_add (y2_4) (1)).trans (congrArg iI (by omega))) (by decide) rfl (fun ls hl => ?_)
          refine lv_goto (tgt := 17) hE.1 hE.2.1 dX8_drawFrom_85 (by decide) ?_
          exact ih2 _ (by omega) (y2_4 + 1) (z9) v14 ar14 al14 _ _ _ rfl (by omega) (by omega) hI (fun i j h => ((hq14 i j (fun q => h (mem_sub (by decide) q))).trans (hfr2 i j h))) hP hS (lv_sub hl [0, 1, 4, 5] rfl)
        · skip
          exact kr _ _ _ _ _ _ _ ⟨hI, fun i j h => ((hfr2 i j (fun q => h (mem_sub (by decide) q))).trans (hq1 i j (fun q => h (mem_sub (by decide) q))))⟩ hP hS dX8_drawFrom_45
  exact loop2 _ (0) (z_1) v1 ar1 al1 _ _ _ rfl (by omega) (by omega) hI (fun _ _ _ => rfl) hP hS hl

set_option maxHeartbeats 4000000 in
set_option maxRecDepth 100000 in
theorem s_X7_isWhole_31 (l : Launch) (D : va_G) (K : Nat → ClassId) (ad : Nat → Nat) (mm : Option Nat) (N : Nat) (hNN : 132 ≤ N) (v ar : sI) (al : sL) (hI : XI v) : Met l yX7_isWhole (wM yX7_isWhole cX7_isWhole 1 (some .boolean)) (rmD 1) (va_Pc [.ref (ad 31)] (wPre D K ad (xG ad K mm) N v ar al)) (vp_Si (fun r => ∃ z : Int, (0 ≤ z ∧ z ≤ 1) ∧ r = iI z)) 0 0 (fun _ => False) := by
  refine s_metP (by decide) (Nat.le_of_ble_eq_true rfl) ?_
  intro p e s m below meth c ls args Q hE hB hl kr
  have hE : CallFix p m c cX7_isWhole 1 s args tbG "TaleCourt$Telling" := hE
  obtain ⟨hP, hK, hN⟩ := hB
  have hl : lv_has ls 1 [(0, .ref (ad 31))] := hl
  refine lv_aload_n hE.1 hE.2.1 dX7_isWhole_0 rfl (lv_at hl 0 rfl) ?_
  obtain ⟨z1, hz1, ez1⟩ := iI_of (v 31 4)
  refine x_get (x := .int (v 31 4)) hE hK hP 31 (Nat.lt_of_lt_of_le (by decide) hNN) (xG_7 rfl) rfl hin7 4 (by decide) mw_309 rfl dX7_isWhole_1 ?_
  refine x_top (y := iI (z1)) ez1 ?_
  refine s_if_lt (a := z1) (tgt := 35) hE.1 hE.2.1 (by omega) dX7_isWhole_4 (by decide) (fun c2 => ?_) (fun c2 => ?_)
  · skip
    refine lv_iconst (v := iI (0)) hE.1 hE.2.1 dX7_isWhole_35 (by decide) ?_
    exact kr _ _ _ (nar01 (by omega)) ⟨0, by omega, rfl⟩ dX7_isWhole_36
  · skip
    refine lv_aload_n hE.1 hE.2.1 dX7_isWhole_7 rfl (lv_at hl 0 rfl) ?_
    refine x_vp (nn := 0) (As := []) (rest := []) hE (s_X7_unpaid_31 l D K ad mm N hNN v ar al hI  ) wPre_blind (wPre_now hK hN hP) (x_recv hK hP 31 (Nat.lt_of_lt_of_le (by decide) hNN) (xG_7 rfl) rfl) rfl mw_754 mw_755 mw_756 mw_117 mw_757 (by decide +kernel) ⟨by decide, by decide⟩ hl.1 rfl (Nat.le_of_ble_eq_true rfl) ⟨Nat.zero_le _, Nat.zero_le _⟩ dX7_isWhole_8 (fun r3 hr3 => ?_)
    obtain ⟨z3, hz3, rfl⟩ := hr3
    refine s_if_ne (a := z3) (tgt := 35) hE.1 hE.2.1 (by omega) dX7_isWhole_11 (by decide) (fun c4 => ?_) (fun c4 => ?_)
    · skip
      refine lv_iconst (v := iI (0)) hE.1 hE.2.1 dX7_isWhole_35 (by decide) ?_
      exact kr _ _ _ (nar01 (by omega)) ⟨0, by omega, rfl⟩ dX7_isWhole_36
    · skip
      refine lv_aload_n hE.1 hE.2.1 dX7_isWhole_14 rfl (lv_at hl 0 rfl) ?_
      refine x_get (x := .ref (ad 3)) hE hK hP 31 (Nat.lt_of_lt_of_le (by decide) hNN) (xG_7 rfl) rfl hin7 6 (by decide) mw_315 rfl dX7_isWhole_15 ?_
      obtain ⟨z5, hz5, ez5⟩ := iI_of (v 3 10)
      refine x_get (x := .int (v 3 10)) hE hK hP 3 (Nat.lt_of_lt_of_le (by decide) hNN) (xG_1 rfl) rfl hin1 10 (by decide) mw_217 rfl dX7_isWhole_18 ?_
      refine x_top (y := iI (z5)) ez5 ?_
      refine lv_aload_n hE.1 hE.2.1 dX7_isWhole_21 rfl (lv_at hl 0 rfl) ?_
      refine x_get (x := .int (v 31 4)) hE hK hP 31 (Nat.lt_of_lt_of_le (by decide) hNN) (xG_7 rfl) rfl hin7 4 (by decide) mw_309 rfl dX7_isWhole_22 ?_
      refine x_top (y := iI (z1)) ez1 ?_
      refine lv_ishr hE.1 hE.2.1 dX7_isWhole_25 ?_
      obtain ⟨z6, hz6, ez6⟩ := iI_of (iI (z5) >>> (iI (z1) &&& 31))
      refine x_top ez6 ?_
      refine lv_iconst (v := iI (1)) hE.1 hE.2.1 dX7_isWhole_26 (by decide) ?_
      refine lv_iand hE.1 hE.2.1 dX7_isWhole_27 ?_
      obtain ⟨z7, hz7, ez7⟩ := iI_and (iI (z6)) (iI (1)) 1 (by decide)
      refine x_top ez7 ?_
      refine s_if_ne (a := z7) (tgt := 35) hE.1 hE.2.1 (by omega) dX7_isWhole_28 (by decide) (fun c8 => ?_) (fun c8 => ?_)
      · skip
        refine lv_iconst (v := iI (0)) hE.1 hE.2.1 dX7_isWhole_35 (by decide) ?_
        exact kr _ _ _ (nar01 (by omega)) ⟨0, by omega, rfl⟩ dX7_isWhole_36
      · skip
        refine lv_iconst (v := iI (1)) hE.1 hE.2.1 dX7_isWhole_31 (by decide) ?_
        refine lv_goto (tgt := 36) hE.1 hE.2.1 dX7_isWhole_32 (by decide) ?_
        exact kr _ _ _ (nar01 (by omega)) ⟨1, by omega, rfl⟩ dX7_isWhole_36

theorem dX8_drawn_0 : decode cX8_drawn 0 = .ok (.aload_n 0, 1) := by decide +kernel
theorem dX8_drawn_1 : decode cX8_drawn 1 = .ok (.iload_n 1, 1) := by decide +kernel
theorem dX8_drawn_2 : decode cX8_drawn 2 = .ok (.invokevirtual 341, 3) := by decide +kernel
theorem dX8_drawn_5 : decode cX8_drawn 5 = .ok (.ifCond .eq 12, 3) := by decide +kernel
theorem dX8_drawn_8 : decode cX8_drawn 8 = .ok (.iload_n 2, 1) := by decide +kernel
theorem dX8_drawn_9 : decode cX8_drawn 9 = .ok (.ifCond .lt 8, 3) := by decide +kernel
theorem dX8_drawn_12 : decode cX8_drawn 12 = .ok (.iload_n 2, 1) := by decide +kernel
theorem dX8_drawn_13 : decode cX8_drawn 13 = .ok (.iconst 2, 1) := by decide +kernel
theorem dX8_drawn_14 : decode cX8_drawn 14 = .ok (.if_icmp .le 6, 3) := by decide +kernel
theorem dX8_drawn_17 : decode cX8_drawn 17 = .ok (.bipush (-2), 2) := by decide +kernel
theorem dX8_drawn_19 : decode cX8_drawn 19 = .ok (.ireturn, 1) := by decide +kernel
theorem dX8_drawn_20 : decode cX8_drawn 20 = .ok (.aload_n 0, 1) := by decide +kernel
theorem dX8_drawn_21 : decode cX8_drawn 21 = .ok (.iload_n 1, 1) := by decide +kernel
theorem dX8_drawn_22 : decode cX8_drawn 22 = .ok (.invokevirtual 344, 3) := by decide +kernel
theorem dX8_drawn_25 : decode cX8_drawn 25 = .ok (.iload_n 2, 1) := by decide +kernel
theorem dX8_drawn_26 : decode cX8_drawn 26 = .ok (.ifCond .ne 19, 3) := by decide +kernel
theorem dX8_drawn_29 : decode cX8_drawn 29 = .ok (.aload_n 0, 1) := by decide +kernel
theorem dX8_drawn_30 : decode cX8_drawn 30 = .ok (.getfield 35, 3) := by decide +kernel
theorem dX8_drawn_33 : decode cX8_drawn 33 = .ok (.getfield 167, 3) := by decide +kernel
theorem dX8_drawn_36 : decode cX8_drawn 36 = .ok (.aload_n 0, 1) := by decide +kernel
theorem dX8_drawn_37 : decode cX8_drawn 37 = .ok (.getfield 31, 3) := by decide +kernel
theorem dX8_drawn_40 : decode cX8_drawn 40 = .ok (.getfield 167, 3) := by decide +kernel
theorem dX8_drawn_43 : decode cX8_drawn 43 = .ok (.isub, 1) := by decide +kernel
theorem dX8_drawn_44 : decode cX8_drawn 44 = .ok (.ireturn, 1) := by decide +kernel
theorem dX8_drawn_45 : decode cX8_drawn 45 = .ok (.iload_n 2, 1) := by decide +kernel
theorem dX8_drawn_46 : decode cX8_drawn 46 = .ok (.iconst 1, 1) := by decide +kernel
theorem dX8_drawn_47 : decode cX8_drawn 47 = .ok (.if_icmp .ne 11, 3) := by decide +kernel
theorem dX8_drawn_50 : decode cX8_drawn 50 = .ok (.aload_n 0, 1) := by decide +kernel
theorem dX8_drawn_51 : decode cX8_drawn 51 = .ok (.getfield 35, 3) := by decide +kernel
theorem dX8_drawn_54 : decode cX8_drawn 54 = .ok (.getfield 192, 3) := by decide +kernel
theorem dX8_drawn_57 : decode cX8_drawn 57 = .ok (.ireturn, 1) := by decide +kernel
theorem dX8_drawn_58 : decode cX8_drawn 58 = .ok (.aload_n 0, 1) := by decide +kernel
theorem dX8_drawn_59 : decode cX8_drawn 59 = .ok (.getfield 35, 3) := by decide +kernel
theorem dX8_drawn_62 : decode cX8_drawn 62 = .ok (.invokevirtual 189, 3) := by decide +kernel
theorem dX8_drawn_65 : decode cX8_drawn 65 = .ok (.ifCond .eq 7, 3) := by decide +kernel
theorem dX8_drawn_68 : decode cX8_drawn 68 = .ok (.iconst 1, 1) := by decide +kernel
theorem dX8_drawn_69 : decode cX8_drawn 69 = .ok (.goto 4, 3) := by decide +kernel
theorem dX8_drawn_72 : decode cX8_drawn 72 = .ok (.iconst 0, 1) := by decide +kernel
theorem dX8_drawn_73 : decode cX8_drawn 73 = .ok (.ireturn, 1) := by decide +kernel
set_option maxHeartbeats 4000000 in
set_option maxRecDepth 100000 in
theorem s_X8_drawn_0 (l : Launch) (D : va_G) (K : Nat → ClassId) (ad : Nat → Nat) (mm : Option Nat) (N : Nat) (hNN : 132 ≤ N) (v ar : sI) (al : sL) (hI : XI v) (z_1 : Int) (hz_1 : -2147483648 ≤ z_1 ∧ z_1 ≤ 2147483647) (z_2 : Int) (hz_2 : -2147483648 ≤ z_2 ∧ z_2 ≤ 2147483647) : Met l yX8_drawn (wM yX8_drawn cX8_drawn 3 (some .int)) (rmD 4) (va_Pc [.ref (ad 0), .int (iI (z_1)), .int (iI (z_2))] (wPre D K ad (xG ad K mm) N v ar al)) (va_Qi (fun (r : Int32) (u : sT) => (∃ z : Int, (-2147483648 ≤ z ∧ z ≤ 2147483647) ∧ r = iI z) ∧ XI u.1 ∧ (∀ i j : Nat, (i, j) ∉ ([(31, 2), (31, 3), (31, 4), (31, 5), (31, 8), (31, 9)] : List (Nat × Nat)) → u.1 i j = v i j)) (wB D ad (xG ad K mm) N) (inW ad N)) 0 0 (inW ad N) := by
  refine s_metI (by decide) (Nat.le_of_ble_eq_true rfl) ?_
  intro p e s m below meth c ls args Q hE hB hl kr
  have hE : CallFix p m c cX8_drawn 3 s args tbG "TaleCourt" := hE
  obtain ⟨hP, hK, hN⟩ := hB
  have hS : va_S (inW ad N) s.heap s.heap [] := va_S.rf
  have hl : lv_has ls 3 [(0, .ref (ad 0)), (1, .int (iI (z_1))), (2, .int (iI (z_2)))] := hl
  refine lv_aload_n hE.1 hE.2.1 dX8_drawn_0 rfl (lv_at hl 0 rfl) ?_
  refine lv_iload_n hE.1 hE.2.1 dX8_drawn_1 rfl (lv_at hl 1 rfl) ?_
  refine x_vp (nn := 1) (As := [.int (iI (z_1))]) (rest := []) hE (s_X8_mayDraw_0 l D K ad mm N hNN v ar al hI  (z_1) (by omega)) wPre_blind (wPre_now hK hN hP) (x_recv hK hP 0 (Nat.lt_of_lt_of_le (by decide) hNN) (xG_8 rfl) rfl) rfl mw_1258 mw_1260 mw_44 mw_114 mw_1261 (by decide +kernel) ⟨by decide, by decide⟩ hl.1 rfl (Nat.le_of_ble_eq_true rfl) ⟨Nat.zero_le _, Nat.zero_le _⟩ dX8_drawn_2 (fun r1 hr1 => ?_)
  obtain ⟨z1, hz1, rfl⟩ := hr1
  refine s_if_eq (a := z1) (tgt := 17) hE.1 hE.2.1 (by omega) dX8_drawn_5 (by decide) (fun c2 => ?_) (fun c2 => ?_)
  · skip
    refine lv_bipush (v := iI (-2)) hE.1 hE.2.1 dX8_drawn_17 (by decide) ?_
    exact kr _ _ _ _ _ _ _ _ rfl ⟨⟨-2, by omega, rfl⟩, hI, fun i j h => rfl⟩ hP hS dX8_drawn_19
  · skip
    refine lv_iload_n hE.1 hE.2.1 dX8_drawn_8 rfl (lv_at hl 2 rfl) ?_
    refine s_if_lt (a := z_2) (tgt := 17) hE.1 hE.2.1 (by omega) dX8_drawn_9 (by decide) (fun c3 => ?_) (fun c3 => ?_)
    · skip
      refine lv_bipush (v := iI (-2)) hE.1 hE.2.1 dX8_drawn_17 (by decide) ?_
      exact kr _ _ _ _ _ _ _ _ rfl ⟨⟨-2, by omega, rfl⟩, hI, fun i j h => rfl⟩ hP hS dX8_drawn_19
    · skip
      refine lv_iload_n hE.1 hE.2.1 dX8_drawn_12 rfl (lv_at hl 2 rfl) ?_
      refine lv_iconst (v := iI (2)) hE.1 hE.2.1 dX8_drawn_13 (by decide) ?_
      refine s_icmp_le (a := z_2) (b := 2) (tgt := 20) hE.1 hE.2.1 (by omega) (by omega) dX8_drawn_14 (by decide) (fun c4 => ?_) (fun c4 => ?_)
      · skip
        refine lv_aload_n hE.1 hE.2.1 dX8_drawn_20 rfl (lv_at hl 0 rfl) ?_
        refine lv_iload_n hE.1 hE.2.1 dX8_drawn_21 rfl (lv_at hl 1 rfl) ?_
        refine x_vv (nn := 1) (As := [.int (iI (z_1))]) (rest := []) hE hK hN hP hS (s_X8_drawFrom_0 l D K ad mm N hNN v ar al hI  (z_1) (by omega)) (x_recv hK hP 0 (Nat.lt_of_lt_of_le (by decide) hNN) (xG_8 rfl) rfl) rfl mw_1263 mw_1265 mw_45 mw_114 mw_1266 (by decide +kernel) ⟨by decide, by decide⟩ hl.1 rfl (Nat.le_of_ble_eq_true rfl) ⟨Nat.zero_le _, Nat.zero_le _⟩ dX8_drawn_22 (fun v5 ar5 al5 H locs hq5 hP hS => ?_)
        obtain ⟨hI, hq5⟩ := hq5
        have hI : XI v5 := hI
        refine lv_iload_n hE.1 hE.2.1 dX8_drawn_25 rfl (lv_at hl 2 rfl) ?_
        refine s_if_ne (a := z_2) (tgt := 45) hE.1 hE.2.1 (by omega) dX8_drawn_26 (by decide) (fun c6 => ?_) (fun c6 => ?_)
        · skip
          refine lv_iload_n hE.1 hE.2.1 dX8_drawn_45 rfl (lv_at hl 2 rfl) ?_
          refine lv_iconst (v := iI (1)) hE.1 hE.2.1 dX8_drawn_46 (by decide) ?_
          refine s_icmp_ne (a := z_2) (b := 1) (tgt := 58) hE.1 hE.2.1 (by omega) (by omega) dX8_drawn_47 (by decide) (fun c7 => ?_) (fun c7 => ?_)
          · skip
            refine lv_aload_n hE.1 hE.2.1 dX8_drawn_58 rfl (lv_at hl 0 rfl) ?_
            refine x_get (x := .ref (ad 31)) hE hK hP 0 (Nat.lt_of_lt_of_le (by decide) hNN) (xG_8 rfl) rfl hin8 4 (by decide) mw_484 rfl dX8_drawn_59 ?_
            refine x_vp (nn := 0) (As := []) (rest := []) hE (s_X7_isWhole_31 l D K ad mm N hNN v5 ar5 al5 hI  ) wPre_blind (wPre_now hK hN hP) (x_recv hK hP 31 (Nat.lt_of_lt_of_le (by decide) hNN) (xG_7 rfl) rfl) rfl mw_872 mw_873 mw_874 mw_117 mw_875 (by decide +kernel) ⟨by decide, by decide⟩ hl.1 rfl (Nat.le_of_ble_eq_true rfl) ⟨Nat.zero_le _, Nat.zero_le _⟩ dX8_drawn_62 (fun r8 hr8 => ?_)
            obtain ⟨z8, hz8, rfl⟩ := hr8
            refine s_if_eq (a := z8) (tgt := 72) hE.1 hE.2.1 (by omega) dX8_drawn_65 (by decide) (fun c9 => ?_) (fun c9 => ?_)
            · skip
              refine lv_iconst (v := iI (0)) hE.1 hE.2.1 dX8_drawn_72 (by decide) ?_
              exact kr _ _ _ _ _ _ _ _ rfl ⟨⟨0, by omega, rfl⟩, hI, fun i j h => (hq5 i j (fun q => h (mem_sub (by decide) q)))⟩ hP hS dX8_drawn_73
            · skip
              refine lv_iconst (v := iI (1)) hE.1 hE.2.1 dX8_drawn_68 (by decide) ?_
              refine lv_goto (tgt := 73) hE.1 hE.2.1 dX8_drawn_69 (by decide) ?_
              exact kr _ _ _ _ _ _ _ _ rfl ⟨⟨1, by omega, rfl⟩, hI, fun i j h => (hq5 i j (fun q => h (mem_sub (by decide) q)))⟩ hP hS dX8_drawn_73
          · skip
            refine lv_aload_n hE.1 hE.2.1 dX8_drawn_50 rfl (lv_at hl 0 rfl) ?_
            refine x_get (x := .ref (ad 31)) hE hK hP 0 (Nat.lt_of_lt_of_le (by decide) hNN) (xG_8 rfl) rfl hin8 4 (by decide) mw_484 rfl dX8_drawn_51 ?_
            obtain ⟨z10, hz10, ez10⟩ := iI_of (v5 31 5)
            refine x_get (x := .int (v5 31 5)) hE hK hP 31 (Nat.lt_of_lt_of_le (by decide) hNN) (xG_7 rfl) rfl hin7 5 (by decide) mw_314 rfl dX8_drawn_54 ?_
            refine x_top (y := iI (z10)) ez10 ?_
            exact kr _ _ _ _ _ _ _ _ rfl ⟨⟨z10, by omega, rfl⟩, hI, fun i j h => (hq5 i j (fun q => h (mem_sub (by decide) q)))⟩ hP hS dX8_drawn_57
        · skip
          refine lv_aload_n hE.1 hE.2.1 dX8_drawn_29 rfl (lv_at hl 0 rfl) ?_
          refine x_get (x := .ref (ad 31)) hE hK hP 0 (Nat.lt_of_lt_of_le (by decide) hNN) (xG_8 rfl) rfl hin8 4 (by decide) mw_484 rfl dX8_drawn_30 ?_
          obtain ⟨z11, hz11, ez11⟩ := XI_get hI 31 2 0 18 (by decide)
          refine x_get (x := .int (v5 31 2)) hE hK hP 31 (Nat.lt_of_lt_of_le (by decide) hNN) (xG_7 rfl) rfl hin7 2 (by decide) mw_304 rfl dX8_drawn_33 ?_
          refine x_top (y := iI (z11)) ez11 ?_
          refine lv_aload_n hE.1 hE.2.1 dX8_drawn_36 rfl (lv_at hl 0 rfl) ?_
          refine x_get (x := .ref (ad 23)) hE hK hP 0 (Nat.lt_of_lt_of_le (by decide) hNN) (xG_8 rfl) rfl hin8 3 (by decide) mw_483 rfl dX8_drawn_37 ?_
          obtain ⟨z12, hz12, ez12⟩ := XI_get hI 23 2 0 18 (by decide)
          refine x_get (x := .int (v5 23 2)) hE hK hP 23 (Nat.lt_of_lt_of_le (by decide) hNN) (xG_7 rfl) rfl hin7 2 (by decide) mw_304 rfl dX8_drawn_40 ?_
          refine x_top (y := iI (z12)) ez12 ?_
          refine lv_isub hE.1 hE.2.1 dX8_drawn_43 ?_
          refine x_top (y := iI (z11 - z12)) ((iI_sub (z11) (z12)).trans (congrArg iI (by omega))) ?_
          exact kr _ _ _ _ _ _ _ _ rfl ⟨⟨z11 - z12, by omega, rfl⟩, hI, fun i j h => (hq5 i j (fun q => h (mem_sub (by decide) q)))⟩ hP hS dX8_drawn_44
      · skip
        refine lv_bipush (v := iI (-2)) hE.1 hE.2.1 dX8_drawn_17 (by decide) ?_
        exact kr _ _ _ _ _ _ _ _ rfl ⟨⟨-2, by omega, rfl⟩, hI, fun i j h => rfl⟩ hP hS dX8_drawn_19

theorem dX8_lot_0 : decode cX8_lot 0 = .ok (.aload_n 0, 1) := by decide +kernel
theorem dX8_lot_1 : decode cX8_lot 1 = .ok (.iload_n 1, 1) := by decide +kernel
theorem dX8_lot_2 : decode cX8_lot 2 = .ok (.invokevirtual 341, 3) := by decide +kernel
theorem dX8_lot_5 : decode cX8_lot 5 = .ok (.ifCond .ne 6, 3) := by decide +kernel
theorem dX8_lot_8 : decode cX8_lot 8 = .ok (.bipush (-2), 2) := by decide +kernel
theorem dX8_lot_10 : decode cX8_lot 10 = .ok (.ireturn, 1) := by decide +kernel
theorem dX8_lot_11 : decode cX8_lot 11 = .ok (.aload_n 0, 1) := by decide +kernel
theorem dX8_lot_12 : decode cX8_lot 12 = .ok (.iload_n 1, 1) := by decide +kernel
theorem dX8_lot_13 : decode cX8_lot 13 = .ok (.invokevirtual 344, 3) := by decide +kernel
theorem dX8_lot_16 : decode cX8_lot 16 = .ok (.iload_n 2, 1) := by decide +kernel
theorem dX8_lot_17 : decode cX8_lot 17 = .ok (.ifCond .lt 36, 3) := by decide +kernel
theorem dX8_lot_20 : decode cX8_lot 20 = .ok (.iload_n 2, 1) := by decide +kernel
theorem dX8_lot_21 : decode cX8_lot 21 = .ok (.aload_n 0, 1) := by decide +kernel
theorem dX8_lot_22 : decode cX8_lot 22 = .ok (.getfield 35, 3) := by decide +kernel
theorem dX8_lot_25 : decode cX8_lot 25 = .ok (.getfield 167, 3) := by decide +kernel
theorem dX8_lot_28 : decode cX8_lot 28 = .ok (.aload_n 0, 1) := by decide +kernel
theorem dX8_lot_29 : decode cX8_lot 29 = .ok (.getfield 31, 3) := by decide +kernel
theorem dX8_lot_32 : decode cX8_lot 32 = .ok (.getfield 167, 3) := by decide +kernel
theorem dX8_lot_35 : decode cX8_lot 35 = .ok (.isub, 1) := by decide +kernel
theorem dX8_lot_36 : decode cX8_lot 36 = .ok (.if_icmp .ge 17, 3) := by decide +kernel
theorem dX8_lot_39 : decode cX8_lot 39 = .ok (.aload_n 0, 1) := by decide +kernel
theorem dX8_lot_40 : decode cX8_lot 40 = .ok (.getfield 31, 3) := by decide +kernel
theorem dX8_lot_43 : decode cX8_lot 43 = .ok (.getfield 167, 3) := by decide +kernel
theorem dX8_lot_46 : decode cX8_lot 46 = .ok (.iload_n 2, 1) := by decide +kernel
theorem dX8_lot_47 : decode cX8_lot 47 = .ok (.iadd, 1) := by decide +kernel
theorem dX8_lot_48 : decode cX8_lot 48 = .ok (.bipush 18, 2) := by decide +kernel
theorem dX8_lot_50 : decode cX8_lot 50 = .ok (.if_icmp .lt 5, 3) := by decide +kernel
theorem dX8_lot_53 : decode cX8_lot 53 = .ok (.iconst (-1), 1) := by decide +kernel
theorem dX8_lot_54 : decode cX8_lot 54 = .ok (.ireturn, 1) := by decide +kernel
theorem dX8_lot_55 : decode cX8_lot 55 = .ok (.aload_n 0, 1) := by decide +kernel
theorem dX8_lot_56 : decode cX8_lot 56 = .ok (.getfield 35, 3) := by decide +kernel
theorem dX8_lot_59 : decode cX8_lot 59 = .ok (.getfield 173, 3) := by decide +kernel
theorem dX8_lot_62 : decode cX8_lot 62 = .ok (.aload_n 0, 1) := by decide +kernel
theorem dX8_lot_63 : decode cX8_lot 63 = .ok (.getfield 31, 3) := by decide +kernel
theorem dX8_lot_66 : decode cX8_lot 66 = .ok (.getfield 167, 3) := by decide +kernel
theorem dX8_lot_69 : decode cX8_lot 69 = .ok (.iload_n 2, 1) := by decide +kernel
theorem dX8_lot_70 : decode cX8_lot 70 = .ok (.iadd, 1) := by decide +kernel
theorem dX8_lot_71 : decode cX8_lot 71 = .ok (.iaload, 1) := by decide +kernel
theorem dX8_lot_72 : decode cX8_lot 72 = .ok (.ireturn, 1) := by decide +kernel
set_option maxHeartbeats 4000000 in
set_option maxRecDepth 100000 in
theorem s_X8_lot_0 (l : Launch) (D : va_G) (K : Nat → ClassId) (ad : Nat → Nat) (mm : Option Nat) (N : Nat) (hNN : 132 ≤ N) (v ar : sI) (al : sL) (hI : XI v) (z_1 : Int) (hz_1 : -2147483648 ≤ z_1 ∧ z_1 ≤ 2147483647) (z_2 : Int) (hz_2 : -2147483648 ≤ z_2 ∧ z_2 ≤ 2147483647) : Met l yX8_lot (wM yX8_lot cX8_lot 3 (some .int)) (rmD 4) (va_Pc [.ref (ad 0), .int (iI (z_1)), .int (iI (z_2))] (wPre D K ad (xG ad K mm) N v ar al)) (va_Qi (fun (r : Int32) (u : sT) => (∃ z : Int, (-2147483648 ≤ z ∧ z ≤ 2147483647) ∧ r = iI z) ∧ XI u.1 ∧ (∀ i j : Nat, (i, j) ∉ ([(31, 2), (31, 3), (31, 4), (31, 5), (31, 8), (31, 9)] : List (Nat × Nat)) → u.1 i j = v i j)) (wB D ad (xG ad K mm) N) (inW ad N)) 0 0 (inW ad N) := by
  refine s_metI (by decide) (Nat.le_of_ble_eq_true rfl) ?_
  intro p e s m below meth c ls args Q hE hB hl kr
  have hE : CallFix p m c cX8_lot 3 s args tbG "TaleCourt" := hE
  obtain ⟨hP, hK, hN⟩ := hB
  have hS : va_S (inW ad N) s.heap s.heap [] := va_S.rf
  have hl : lv_has ls 3 [(0, .ref (ad 0)), (1, .int (iI (z_1))), (2, .int (iI (z_2)))] := hl
  refine lv_aload_n hE.1 hE.2.1 dX8_lot_0 rfl (lv_at hl 0 rfl) ?_
  refine lv_iload_n hE.1 hE.2.1 dX8_lot_1 rfl (lv_at hl 1 rfl) ?_
  refine x_vp (nn := 1) (As := [.int (iI (z_1))]) (rest := []) hE (s_X8_mayDraw_0 l D K ad mm N hNN v ar al hI  (z_1) (by omega)) wPre_blind (wPre_now hK hN hP) (x_recv hK hP 0 (Nat.lt_of_lt_of_le (by decide) hNN) (xG_8 rfl) rfl) rfl mw_1258 mw_1260 mw_44 mw_114 mw_1261 (by decide +kernel) ⟨by decide, by decide⟩ hl.1 rfl (Nat.le_of_ble_eq_true rfl) ⟨Nat.zero_le _, Nat.zero_le _⟩ dX8_lot_2 (fun r1 hr1 => ?_)
  obtain ⟨z1, hz1, rfl⟩ := hr1
  refine s_if_ne (a := z1) (tgt := 11) hE.1 hE.2.1 (by omega) dX8_lot_5 (by decide) (fun c2 => ?_) (fun c2 => ?_)
  · skip
    refine lv_aload_n hE.1 hE.2.1 dX8_lot_11 rfl (lv_at hl 0 rfl) ?_
    refine lv_iload_n hE.1 hE.2.1 dX8_lot_12 rfl (lv_at hl 1 rfl) ?_
    refine x_vv (nn := 1) (As := [.int (iI (z_1))]) (rest := []) hE hK hN hP hS (s_X8_drawFrom_0 l D K ad mm N hNN v ar al hI  (z_1) (by omega)) (x_recv hK hP 0 (Nat.lt_of_lt_of_le (by decide) hNN) (xG_8 rfl) rfl) rfl mw_1263 mw_1265 mw_45 mw_114 mw_1266 (by decide +kernel) ⟨by decide, by decide⟩ hl.1 rfl (Nat.le_of_ble_eq_true rfl) ⟨Nat.zero_le _, Nat.zero_le _⟩ dX8_lot_13 (fun v3 ar3 al3 H locs hq3 hP hS => ?_)
    obtain ⟨hI, hq3⟩ := hq3
    have hI : XI v3 := hI
    refine lv_iload_n hE.1 hE.2.1 dX8_lot_16 rfl (lv_at hl 2 rfl) ?_
    refine s_if_lt (a := z_2) (tgt := 53) hE.1 hE.2.1 (by omega) dX8_lot_17 (by decide) (fun c4 => ?_) (fun c4 => ?_)
    · skip
      refine lv_iconst (v := iI (-1)) hE.1 hE.2.1 dX8_lot_53 (by decide) ?_
      exact kr _ _ _ _ _ _ _ _ rfl ⟨⟨-1, by omega, rfl⟩, hI, fun i j h => (hq3 i j (fun q => h (mem_sub (by decide) q)))⟩ hP hS dX8_lot_54
    · skip
      refine lv_iload_n hE.1 hE.2.1 dX8_lot_20 rfl (lv_at hl 2 rfl) ?_
      refine lv_aload_n hE.1 hE.2.1 dX8_lot_21 rfl (lv_at hl 0 rfl) ?_
      refine x_get (x := .ref (ad 31)) hE hK hP 0 (Nat.lt_of_lt_of_le (by decide) hNN) (xG_8 rfl) rfl hin8 4 (by decide) mw_484 rfl dX8_lot_22 ?_
      obtain ⟨z5, hz5, ez5⟩ := XI_get hI 31 2 0 18 (by decide)
      refine x_get (x := .int (v3 31 2)) hE hK hP 31 (Nat.lt_of_lt_of_le (by decide) hNN) (xG_7 rfl) rfl hin7 2 (by decide) mw_304 rfl dX8_lot_25 ?_
      refine x_top (y := iI (z5)) ez5 ?_
      refine lv_aload_n hE.1 hE.2.1 dX8_lot_28 rfl (lv_at hl 0 rfl) ?_
      refine x_get (x := .ref (ad 23)) hE hK hP 0 (Nat.lt_of_lt_of_le (by decide) hNN) (xG_8 rfl) rfl hin8 3 (by decide) mw_483 rfl dX8_lot_29 ?_
      obtain ⟨z6, hz6, ez6⟩ := XI_get hI 23 2 0 18 (by decide)
      refine x_get (x := .int (v3 23 2)) hE hK hP 23 (Nat.lt_of_lt_of_le (by decide) hNN) (xG_7 rfl) rfl hin7 2 (by decide) mw_304 rfl dX8_lot_32 ?_
      refine x_top (y := iI (z6)) ez6 ?_
      refine lv_isub hE.1 hE.2.1 dX8_lot_35 ?_
      refine x_top (y := iI (z5 - z6)) ((iI_sub (z5) (z6)).trans (congrArg iI (by omega))) ?_
      refine s_icmp_ge (a := z_2) (b := z5 - z6) (tgt := 53) hE.1 hE.2.1 (by omega) (by omega) dX8_lot_36 (by decide) (fun c7 => ?_) (fun c7 => ?_)
      · skip
        refine lv_iconst (v := iI (-1)) hE.1 hE.2.1 dX8_lot_53 (by decide) ?_
        exact kr _ _ _ _ _ _ _ _ rfl ⟨⟨-1, by omega, rfl⟩, hI, fun i j h => (hq3 i j (fun q => h (mem_sub (by decide) q)))⟩ hP hS dX8_lot_54
      · skip
        refine lv_aload_n hE.1 hE.2.1 dX8_lot_39 rfl (lv_at hl 0 rfl) ?_
        refine x_get (x := .ref (ad 23)) hE hK hP 0 (Nat.lt_of_lt_of_le (by decide) hNN) (xG_8 rfl) rfl hin8 3 (by decide) mw_483 rfl dX8_lot_40 ?_
        refine x_get (x := .int (v3 23 2)) hE hK hP 23 (Nat.lt_of_lt_of_le (by decide) hNN) (xG_7 rfl) rfl hin7 2 (by decide) mw_304 rfl dX8_lot_43 ?_
        refine x_top (y := iI (z6)) ez6 ?_
        refine lv_iload_n hE.1 hE.2.1 dX8_lot_46 rfl (lv_at hl 2 rfl) ?_
        refine lv_iadd hE.1 hE.2.1 dX8_lot_47 ?_
        refine x_top (y := iI (z6 + z_2)) ((iI_add (z6) (z_2)).trans (congrArg iI (by omega))) ?_
        refine lv_bipush (v := iI (18)) hE.1 hE.2.1 dX8_lot_48 (by decide) ?_
        refine s_icmp_lt (a := z6 + z_2) (b := 18) (tgt := 55) hE.1 hE.2.1 (by omega) (by omega) dX8_lot_50 (by decide) (fun c8 => ?_) (fun c8 => ?_)
        · skip
          refine lv_aload_n hE.1 hE.2.1 dX8_lot_55 rfl (lv_at hl 0 rfl) ?_
          refine x_get (x := .ref (ad 31)) hE hK hP 0 (Nat.lt_of_lt_of_le (by decide) hNN) (xG_8 rfl) rfl hin8 4 (by decide) mw_484 rfl dX8_lot_56 ?_
          refine x_get (x := .ref (ad 32)) hE hK hP 31 (Nat.lt_of_lt_of_le (by decide) hNN) (xG_7 rfl) rfl hin7 0 (by decide) mw_298 rfl dX8_lot_59 ?_
          refine lv_aload_n hE.1 hE.2.1 dX8_lot_62 rfl (lv_at hl 0 rfl) ?_
          refine x_get (x := .ref (ad 23)) hE hK hP 0 (Nat.lt_of_lt_of_le (by decide) hNN) (xG_8 rfl) rfl hin8 3 (by decide) mw_483 rfl dX8_lot_63 ?_
          refine x_get (x := .int (v3 23 2)) hE hK hP 23 (Nat.lt_of_lt_of_le (by decide) hNN) (xG_7 rfl) rfl hin7 2 (by decide) mw_304 rfl dX8_lot_66 ?_
          refine x_top (y := iI (z6)) ez6 ?_
          refine lv_iload_n hE.1 hE.2.1 dX8_lot_69 rfl (lv_at hl 2 rfl) ?_
          refine lv_iadd hE.1 hE.2.1 dX8_lot_70 ?_
          refine x_top (y := iI (z6 + z_2)) ((iI_add (z6) (z_2)).trans (congrArg iI (by omega))) ?_
          refine x_iald (j := iI (z6 + z_2)) hE hK hP 32 (Nat.lt_of_lt_of_le (by decide) hNN) (xG_10 rfl) (iI_in (n := 18) (by omega)) dX8_lot_71 ?_
          obtain ⟨z10, hz10, ez10⟩ := iI_of (ar3 32 (iI (z6 + z_2)).toNatClampNeg)
          refine x_top ez10 ?_
          exact kr _ _ _ _ _ _ _ _ rfl ⟨⟨z10, by omega, rfl⟩, hI, fun i j h => (hq3 i j (fun q => h (mem_sub (by decide) q)))⟩ hP hS dX8_lot_72
        · skip
          refine lv_iconst (v := iI (-1)) hE.1 hE.2.1 dX8_lot_53 (by decide) ?_
          exact kr _ _ _ _ _ _ _ _ rfl ⟨⟨-1, by omega, rfl⟩, hI, fun i j h => (hq3 i j (fun q => h (mem_sub (by decide) q)))⟩ hP hS dX8_lot_54
  · skip
    refine lv_bipush (v := iI (-2)) hE.1 hE.2.1 dX8_lot_8 (by decide) ?_
    exact kr _ _ _ _ _ _ _ _ rfl ⟨⟨-2, by omega, rfl⟩, hI, fun i j h => rfl⟩ hP hS dX8_lot_10

theorem dX8_nights_0 : decode cX8_nights 0 = .ok (.aload_n 0, 1) := by decide +kernel
theorem dX8_nights_1 : decode cX8_nights 1 = .ok (.iload_n 1, 1) := by decide +kernel
theorem dX8_nights_2 : decode cX8_nights 2 = .ok (.invokevirtual 341, 3) := by decide +kernel
theorem dX8_nights_5 : decode cX8_nights 5 = .ok (.ifCond .eq 14, 3) := by decide +kernel
theorem dX8_nights_8 : decode cX8_nights 8 = .ok (.iload_n 2, 1) := by decide +kernel
theorem dX8_nights_9 : decode cX8_nights 9 = .ok (.iconst 1, 1) := by decide +kernel
theorem dX8_nights_10 : decode cX8_nights 10 = .ok (.if_icmp .lt 9, 3) := by decide +kernel
theorem dX8_nights_13 : decode cX8_nights 13 = .ok (.iload_n 2, 1) := by decide +kernel
theorem dX8_nights_14 : decode cX8_nights 14 = .ok (.bipush 20, 2) := by decide +kernel
theorem dX8_nights_16 : decode cX8_nights 16 = .ok (.if_icmp .le 6, 3) := by decide +kernel
theorem dX8_nights_19 : decode cX8_nights 19 = .ok (.bipush (-2), 2) := by decide +kernel
theorem dX8_nights_21 : decode cX8_nights 21 = .ok (.ireturn, 1) := by decide +kernel
theorem dX8_nights_22 : decode cX8_nights 22 = .ok (.iconst 0, 1) := by decide +kernel
theorem dX8_nights_23 : decode cX8_nights 23 = .ok (.istore_n 3, 1) := by decide +kernel
theorem dX8_nights_24 : decode cX8_nights 24 = .ok (.iconst 0, 1) := by decide +kernel
theorem dX8_nights_25 : decode cX8_nights 25 = .ok (.istore 4, 2) := by decide +kernel
theorem dX8_nights_27 : decode cX8_nights 27 = .ok (.iload 4, 2) := by decide +kernel
theorem dX8_nights_29 : decode cX8_nights 29 = .ok (.iload_n 2, 1) := by decide +kernel
theorem dX8_nights_30 : decode cX8_nights 30 = .ok (.if_icmp .ge 30, 3) := by decide +kernel
theorem dX8_nights_33 : decode cX8_nights 33 = .ok (.aload_n 0, 1) := by decide +kernel
theorem dX8_nights_34 : decode cX8_nights 34 = .ok (.iload_n 1, 1) := by decide +kernel
theorem dX8_nights_35 : decode cX8_nights 35 = .ok (.iload 4, 2) := by decide +kernel
theorem dX8_nights_37 : decode cX8_nights 37 = .ok (.iadd, 1) := by decide +kernel
theorem dX8_nights_38 : decode cX8_nights 38 = .ok (.invokevirtual 344, 3) := by decide +kernel
theorem dX8_nights_41 : decode cX8_nights 41 = .ok (.aload_n 0, 1) := by decide +kernel
theorem dX8_nights_42 : decode cX8_nights 42 = .ok (.getfield 35, 3) := by decide +kernel
theorem dX8_nights_45 : decode cX8_nights 45 = .ok (.invokevirtual 189, 3) := by decide +kernel
theorem dX8_nights_48 : decode cX8_nights 48 = .ok (.ifCond .eq 6, 3) := by decide +kernel
theorem dX8_nights_51 : decode cX8_nights 51 = .ok (.iinc 3 1, 3) := by decide +kernel
theorem dX8_nights_54 : decode cX8_nights 54 = .ok (.iinc 4 1, 3) := by decide +kernel
theorem dX8_nights_57 : decode cX8_nights 57 = .ok (.goto (-30), 3) := by decide +kernel
theorem dX8_nights_60 : decode cX8_nights 60 = .ok (.iload_n 3, 1) := by decide +kernel
theorem dX8_nights_61 : decode cX8_nights 61 = .ok (.ireturn, 1) := by decide +kernel
set_option maxHeartbeats 4000000 in
set_option maxRecDepth 100000 in
theorem s_X8_nights_0 (l : Launch) (D : va_G) (K : Nat → ClassId) (ad : Nat → Nat) (mm : Option Nat) (N : Nat) (hNN : 132 ≤ N) (v ar : sI) (al : sL) (hI : XI v) (z_1 : Int) (hz_1 : -2147483648 ≤ z_1 ∧ z_1 ≤ 2147483647) (z_2 : Int) (hz_2 : -2147483648 ≤ z_2 ∧ z_2 ≤ 2147483647) : Met l yX8_nights (wM yX8_nights cX8_nights 5 (some .int)) (rmD 4) (va_Pc [.ref (ad 0), .int (iI (z_1)), .int (iI (z_2))] (wPre D K ad (xG ad K mm) N v ar al)) (va_Qi (fun (r : Int32) (u : sT) => (∃ z : Int, (-2147483648 ≤ z ∧ z ≤ 2147483647) ∧ r = iI z) ∧ XI u.1 ∧ (∀ i j : Nat, (i, j) ∉ ([(31, 2), (31, 3), (31, 4), (31, 5), (31, 8), (31, 9)] : List (Nat × Nat)) → u.1 i j = v i j)) (wB D ad (xG ad K mm) N) (inW ad N)) 0 0 (inW ad N) := by
  refine s_metI (by decide) (Nat.le_of_ble_eq_true rfl) ?_
  intro p e s m below meth c ls args Q hE hB hl kr
  have hE : CallFix p m c cX8_nights 5 s args tbG "TaleCourt" := hE
  obtain ⟨hP, hK, hN⟩ := hB
  have hS : va_S (inW ad N) s.heap s.heap [] := va_S.rf
  have hl : lv_has ls 5 [(0, .ref (ad 0)), (1, .int (iI (z_1))), (2, .int (iI (z_2)))] := hl
  refine lv_aload_n hE.1 hE.2.1 dX8_nights_0 rfl (lv_at hl 0 rfl) ?_
  refine lv_iload_n hE.1 hE.2.1 dX8_nights_1 rfl (lv_at hl 1 rfl) ?_
  refine x_vp (nn := 1) (As := [.int (iI (z_1))]) (rest := []) hE (s_X8_mayDraw_0 l D K ad mm N hNN v ar al hI  (z_1) (by omega)) wPre_blind (wPre_now hK hN hP) (x_recv hK hP 0 (Nat.lt_of_lt_of_le (by decide) hNN) (xG_8 rfl) rfl) rfl mw_1258 mw_1260 mw_44 mw_114 mw_1261 (by decide +kernel) ⟨by decide, by decide⟩ hl.1 rfl (Nat.le_of_ble_eq_true rfl) ⟨Nat.zero_le _, Nat.zero_le _⟩ dX8_nights_2 (fun r1 hr1 => ?_)
  obtain ⟨z1, hz1, rfl⟩ := hr1
  refine s_if_eq (a := z1) (tgt := 19) hE.1 hE.2.1 (by omega) dX8_nights_5 (by decide) (fun c2 => ?_) (fun c2 => ?_)
  · skip
    refine lv_bipush (v := iI (-2)) hE.1 hE.2.1 dX8_nights_19 (by decide) ?_
    exact kr _ _ _ _ _ _ _ _ rfl ⟨⟨-2, by omega, rfl⟩, hI, fun i j h => rfl⟩ hP hS dX8_nights_21
  · skip
    refine lv_iload_n hE.1 hE.2.1 dX8_nights_8 rfl (lv_at hl 2 rfl) ?_
    refine lv_iconst (v := iI (1)) hE.1 hE.2.1 dX8_nights_9 (by decide) ?_
    refine s_icmp_lt (a := z_2) (b := 1) (tgt := 19) hE.1 hE.2.1 (by omega) (by omega) dX8_nights_10 (by decide) (fun c3 => ?_) (fun c3 => ?_)
    · skip
      refine lv_bipush (v := iI (-2)) hE.1 hE.2.1 dX8_nights_19 (by decide) ?_
      exact kr _ _ _ _ _ _ _ _ rfl ⟨⟨-2, by omega, rfl⟩, hI, fun i j h => rfl⟩ hP hS dX8_nights_21
    · skip
      refine lv_iload_n hE.1 hE.2.1 dX8_nights_13 rfl (lv_at hl 2 rfl) ?_
      refine lv_bipush (v := iI (20)) hE.1 hE.2.1 dX8_nights_14 (by decide) ?_
      refine s_icmp_le (a := z_2) (b := 20) (tgt := 22) hE.1 hE.2.1 (by omega) (by omega) dX8_nights_16 (by decide) (fun c4 => ?_) (fun c4 => ?_)
      · skip
        refine lv_iconst (v := iI (0)) hE.1 hE.2.1 dX8_nights_22 (by decide) ?_
        refine lv_istore_n (lv' := [(3, .int (iI (0))), (0, .ref (ad 0)), (1, .int (iI (z_1))), (2, .int (iI (z_2)))]) hE.1 hE.2.1 dX8_nights_23 rfl hl (by decide) rfl (fun ls hl => ?_)
        refine lv_iconst (v := iI (0)) hE.1 hE.2.1 dX8_nights_24 (by decide) ?_
        refine lv_istore (lv' := [(4, .int (iI (0))), (3, .int (iI (0))), (0, .ref (ad 0)), (1, .int (iI (z_1))), (2, .int (iI (z_2)))]) hE.1 hE.2.1 dX8_nights_25 hl (by decide) rfl (fun ls hl => ?_)
        have loop5 : ∀ (k5 : Nat) (y5_4 : Int) (y5_3 : Int) (vl5 arl5 : sI) (all5 : sL) (H : Heap) (locs : List Loc) (ls : Array Slot), (20 - y5_4).toNat = k5 → (0 ≤ y5_4 ∧ y5_4 ≤ 20) → (-2147483648 ≤ y5_3 ∧ y5_3 ≤ 2147483647) → XI vl5 → (∀ i j : Nat, (i, j) ∉ ([(31, 2), (31, 3), (31, 4), (31, 5), (31, 8), (31, 9)] : List (Nat × Nat)) → vl5 i j = v i j) → va_P D xcl (wW ad (xG ad K mm) N vl5 arl5 all5) H → va_S (inW ad N) s.heap H locs → lv_has ls 5 [(4, .int (iI (y5_4))), (3, .int (iI (y5_3))), (0, .ref (ad 0)), (1, .int (iI (z_1))), (2, .int (iI (z_2)))] → W p l e (rmD 4) s m args below meth c H locs 0 0 Q (F0 m 27 ls []) := by
          intro k5
          induction k5 using Nat.strongRecOn with
          | _ k5 ih5 =>
            intro y5_4 y5_3 vl5 arl5 all5 H locs ls hk5 hb_y5_4 hb_y5_3 hI hfr5 hP hS hl
            refine lv_iload hE.1 hE.2.1 dX8_nights_27 (lv_at hl 0 rfl) ?_
            refine lv_iload_n hE.1 hE.2.1 dX8_nights_29 rfl (lv_at hl 4 rfl) ?_
            refine s_icmp_ge (a := y5_4) (b := z_2) (tgt := 60) hE.1 hE.2.1 (by omega) (by omega) dX8_nights_30 (by decide) (fun c6 => ?_) (fun c6 => ?_)
            · skip
              refine lv_iload_n hE.1 hE.2.1 dX8_nights_60 rfl (lv_at hl 1 rfl) ?_
              exact kr _ _ _ _ _ _ _ _ rfl ⟨⟨y5_3, by omega, rfl⟩, hI, fun i j h => (hfr5 i j (fun q => h (mem_sub (by decide) q)))⟩ hP hS dX8_nights_61
            · skip
              refine lv_aload_n hE.1 hE.2.1 dX8_nights_33 rfl (lv_at hl 2 rfl) ?_
              refine lv_iload_n hE.1 hE.2.1 dX8_nights_34 rfl (lv_at hl 3 rfl) ?_
              refine lv_iload hE.1 hE.2.1 dX8_nights_35 (lv_at hl 0 rfl) ?_
              refine lv_iadd hE.1 hE.2.1 dX8_nights_37 ?_
              obtain ⟨z7, hz7, ez7⟩ := iI_of (iI (z_1) + iI (y5_4))
              refine x_top ez7 ?_
              refine x_vv (nn := 1) (As := [.int (iI (z7))]) (rest := []) hE hK hN hP hS (s_X8_drawFrom_0 l D K ad mm N hNN vl5 arl5 all5 hI  (z7) (by omega)) (x_recv hK hP 0 (Nat.lt_of_lt_of_le (by decide) hNN) (xG_8 rfl) rfl) rfl mw_1263 mw_1265 mw_45 mw_114 mw_1266 (by decide +kernel) ⟨by decide, by decide⟩ hl.1 rfl (Nat.le_of_ble_eq_true rfl) ⟨Nat.zero_le _, Nat.zero_le _⟩ dX8_nights_38 (fun v8 ar8 al8 H locs hq8 hP hS => ?_)
              obtain ⟨hI, hq8⟩ := hq8
              have hI : XI v8 := hI
              refine lv_aload_n hE.1 hE.2.1 dX8_nights_41 rfl (lv_at hl 2 rfl) ?_
              refine x_get (x := .ref (ad 31)) hE hK hP 0 (Nat.lt_of_lt_of_le (by decide) hNN) (xG_8 rfl) rfl hin8 4 (by decide) mw_484 rfl dX8_nights_42 ?_
              refine x_vp (nn := 0) (As := []) (rest := []) hE (s_X7_isWhole_31 l D K ad mm N hNN v8 ar8 al8 hI  ) wPre_blind (wPre_now hK hN hP) (x_recv hK hP 31 (Nat.lt_of_lt_of_le (by decide) hNN) (xG_7 rfl) rfl) rfl mw_872 mw_873 mw_874 mw_117 mw_875 (by decide +kernel) ⟨by decide, by decide⟩ hl.1 rfl (Nat.le_of_ble_eq_true rfl) ⟨Nat.zero_le _, Nat.zero_le _⟩ dX8_nights_45 (fun r9 hr9 => ?_)
              obtain ⟨z9, hz9, rfl⟩ := hr9
              refine s_if_eq (a := z9) (tgt := 54) hE.1 hE.2.1 (by omega) dX8_nights_48 (by decide) (fun c10 => ?_) (fun c10 => ?_)
              · skip
                refine lv_iinc (v := iI (y5_4 + 1)) (lv' := [(4, .int (iI (y5_4 + 1))), (3, .int (iI (y5_3))), (0, .ref (ad 0)), (1, .int (iI (z_1))), (2, .int (iI (z_2)))]) hE.1 hE.2.1 dX8_nights_54 hl (k := 0) rfl ((iI_add (y5_4) (1)).trans (congrArg iI (by omega))) (by decide) rfl (fun ls hl => ?_)
                refine lv_goto (tgt := 27) hE.1 hE.2.1 dX8_nights_57 (by decide) ?_
                exact ih5 _ (by omega) (y5_4 + 1) (y5_3) v8 ar8 al8 _ _ _ rfl (by omega) (by omega) hI (fun i j h => ((hq8 i j (fun q => h (mem_sub (by decide) q))).trans (hfr5 i j h))) hP hS (lv_sub hl [0, 1, 2, 3, 4] rfl)
              · skip
                obtain ⟨z11, hz11, ez11⟩ := iI_of (iI (y5_3) + iI (1))
                refine lv_iinc (v := iI (z11)) (lv' := [(3, .int (iI (z11))), (4, .int (iI (y5_4))), (0, .ref (ad 0)), (1, .int (iI (z_1))), (2, .int (iI (z_2)))]) hE.1 hE.2.1 dX8_nights_51 hl (k := 1) rfl ez11 (by decide) rfl (fun ls hl => ?_)
                refine lv_iinc (v := iI (y5_4 + 1)) (lv' := [(4, .int (iI (y5_4 + 1))), (3, .int (iI (z11))), (0, .ref (ad 0)), (1, .int (iI (z_1))), (2, .int (iI (z_2)))]) hE.1 hE.2.1 dX8_nights_54 hl (k := 1) rfl ((iI_add (y5_4) (1)).trans (congrArg iI (by omega))) (by decide) rfl (fun ls hl => ?_)
                refine lv_goto (tgt := 27) hE.1 hE.2.1 dX8_nights_57 (by decide) ?_
                exact ih5 _ (by omega) (y5_4 + 1) (z11) v8 ar8 al8 _ _ _ rfl (by omega) (by omega) hI (fun i j h => ((hq8 i j (fun q => h (mem_sub (by decide) q))).trans (hfr5 i j h))) hP hS (lv_sub hl [0, 1, 2, 3, 4] rfl)
        exact loop5 _ (0) (0) v ar al _ _ _ rfl (by omega) (by omega) hI (fun _ _ _ => rfl) hP hS hl
      · skip
        refine lv_bipush (v := iI (-2)) hE.1 hE.2.1 dX8_nights_19 (by decide) ?_
        exact kr _ _ _ _ _ _ _ _ rfl ⟨⟨-2, by omega, rfl⟩, hI, fun i j h => rfl⟩ hP hS dX8_nights_21
