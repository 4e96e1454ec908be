theorem dX8_gameBar_0 : decode cX8_gameBar 0 = .ok (.aload_n 0, 1) := by decide +kernel
theorem dX8_gameBar_1 : decode cX8_gameBar 1 = .ok (.getfield 19, 3) := by decide +kernel
theorem dX8_gameBar_4 : decode cX8_gameBar 4 = .ok (.invokevirtual 157, 3) := by decide +kernel
theorem dX8_gameBar_7 : decode cX8_gameBar 7 = .ok (.ifCond .ne 6, 3) := by decide +kernel
theorem dX8_gameBar_10 : decode cX8_gameBar 10 = .ok (.bipush (-2), 2) := by decide +kernel
theorem dX8_gameBar_12 : decode cX8_gameBar 12 = .ok (.ireturn, 1) := by decide +kernel
theorem dX8_gameBar_13 : decode cX8_gameBar 13 = .ok (.aload_n 0, 1) := by decide +kernel
theorem dX8_gameBar_14 : decode cX8_gameBar 14 = .ok (.getfield 19, 3) := by decide +kernel
theorem dX8_gameBar_17 : decode cX8_gameBar 17 = .ok (.getfield 223, 3) := by decide +kernel
theorem dX8_gameBar_20 : decode cX8_gameBar 20 = .ok (.iconst 2, 1) := by decide +kernel
theorem dX8_gameBar_21 : decode cX8_gameBar 21 = .ok (.if_icmp .ne 7, 3) := by decide +kernel
theorem dX8_gameBar_24 : decode cX8_gameBar 24 = .ok (.iconst 0, 1) := by decide +kernel
theorem dX8_gameBar_25 : decode cX8_gameBar 25 = .ok (.goto 5, 3) := by decide +kernel
theorem dX8_gameBar_28 : decode cX8_gameBar 28 = .ok (.bipush (-9), 2) := by decide +kernel
theorem dX8_gameBar_30 : decode cX8_gameBar 30 = .ok (.ireturn, 1) := by decide +kernel
set_option maxHeartbeats 4000000 in
set_option maxRecDepth 100000 in
theorem s_X8_gameBar_0 (l : Launch) (D : va_G) (K : Nat → ClassId) (ad : Nat → Nat) (mm : Option Nat) (N : Nat) (hNN : 132 ≤ N) (v ar : sI) (al : sL) (hI : XI v) : Met l yX8_gameBar (wM yX8_gameBar cX8_gameBar 1 (some .int)) (rmD 1) (va_Pc [.ref (ad 0)] (wPre D K ad (xG ad K mm) N v ar al)) (vp_Si (fun r => ∃ z : Int, (-2147483648 ≤ z ∧ z ≤ 2147483647) ∧ r = iI z)) 0 0 (fun _ => False) := by
  refine s_metP (by decide) (Nat.le_of_ble_eq_true rfl) ?_
  intro p e s m below meth c ls args Q hE hB hl kr
  have hE : CallFix p m c cX8_gameBar 1 s args tbG "TaleCourt" := hE
  obtain ⟨hP, hK, hN⟩ := hB
  have hl : lv_has ls 1 [(0, .ref (ad 0))] := hl
  refine lv_aload_n hE.1 hE.2.1 dX8_gameBar_0 rfl (lv_at hl 0 rfl) ?_
  refine x_get (x := .ref (ad 3)) hE hK hP 0 (Nat.lt_of_lt_of_le (by decide) hNN) (xG_8 rfl) rfl hin8 1 (by decide) mw_481 rfl dX8_gameBar_1 ?_
  refine x_vp (nn := 0) (As := []) (rest := []) hE (s_X1_stands_3 l D K ad mm N hNN v ar al hI  ) wPre_blind (wPre_now hK hN hP) (x_recv hK hP 3 (Nat.lt_of_lt_of_le (by decide) hNN) (xG_1 rfl) rfl) rfl mw_788 mw_789 mw_790 mw_116 mw_791 (by decide +kernel) ⟨by decide, by decide⟩ hl.1 rfl (Nat.le_of_ble_eq_true rfl) ⟨Nat.zero_le _, Nat.zero_le _⟩ dX8_gameBar_4 (fun r1 hr1 => ?_)
  obtain ⟨z1, hz1, rfl⟩ := hr1
  refine s_if_ne (a := z1) (tgt := 13) hE.1 hE.2.1 (by omega) dX8_gameBar_7 (by decide) (fun c2 => ?_) (fun c2 => ?_)
  · skip
    refine lv_aload_n hE.1 hE.2.1 dX8_gameBar_13 rfl (lv_at hl 0 rfl) ?_
    refine x_get (x := .ref (ad 3)) hE hK hP 0 (Nat.lt_of_lt_of_le (by decide) hNN) (xG_8 rfl) rfl hin8 1 (by decide) mw_481 rfl dX8_gameBar_14 ?_
    obtain ⟨z3, hz3, ez3⟩ := XI_get hI 3 0 0 3 (by decide)
    refine x_get (x := .int (v 3 0)) hE hK hP 3 (Nat.lt_of_lt_of_le (by decide) hNN) (xG_1 rfl) rfl hin1 0 (by decide) mw_181 rfl dX8_gameBar_17 ?_
    refine x_top (y := iI (z3)) ez3 ?_
    refine lv_iconst (v := iI (2)) hE.1 hE.2.1 dX8_gameBar_20 (by decide) ?_
    refine s_icmp_ne (a := z3) (b := 2) (tgt := 28) hE.1 hE.2.1 (by omega) (by omega) dX8_gameBar_21 (by decide) (fun c4 => ?_) (fun c4 => ?_)
    · skip
      refine lv_bipush (v := iI (-9)) hE.1 hE.2.1 dX8_gameBar_28 (by decide) ?_
      exact kr _ _ _ rfl ⟨-9, by omega, rfl⟩ dX8_gameBar_30
    · skip
      refine lv_iconst (v := iI (0)) hE.1 hE.2.1 dX8_gameBar_24 (by decide) ?_
      refine lv_goto (tgt := 30) hE.1 hE.2.1 dX8_gameBar_25 (by decide) ?_
      exact kr _ _ _ rfl ⟨0, by omega, rfl⟩ dX8_gameBar_30
  · skip
    refine lv_bipush (v := iI (-2)) hE.1 hE.2.1 dX8_gameBar_10 (by decide) ?_
    exact kr _ _ _ rfl ⟨-2, by omega, rfl⟩ dX8_gameBar_12

set_option maxHeartbeats 4000000 in
set_option maxRecDepth 100000 in
theorem s_X7_copyFrom_57_23 (l : Launch) (D : va_G) (K : Nat → ClassId) (ad : Nat → Nat) (mm : Option Nat) (N : Nat) (hNN : 132 ≤ N) (v ar : sI) (al : sL) (hI : XI v) : Met l yX7_copyFrom (wM yX7_copyFrom cX7_copyFrom 2 none) (rmD 1) (va_Pc [.ref (ad 57), .ref (ad 23)] (wPre D K ad (xG ad K mm) N v ar al)) (va_Qv (fun u : sT => XI u.1 ∧ (∀ i j : Nat, (i, j) ∉ ([(57, 2), (57, 3), (57, 4), (57, 5), (57, 8), (57, 9)] : List (Nat × Nat)) → u.1 i j = v i j)) (wB D ad (xG ad K mm) N) (inW ad N)) 0 0 (inW ad N) := by
  refine s_metV (by decide) (Nat.le_of_ble_eq_true rfl) ?_
  intro p e s m below meth c ls args Q hE hB hl kr
  have hE : CallFix p m c cX7_copyFrom 2 s args tbG "TaleCourt$Telling" := hE
  obtain ⟨hP, hK, hN⟩ := hB
  have hS : va_S (inW ad N) s.heap s.heap [] := va_S.rf
  have hl : lv_has ls 2 [(0, .ref (ad 57)), (1, .ref (ad 23))] := hl
  refine lv_aload_n hE.1 hE.2.1 dX7_copyFrom_0 rfl (lv_at hl 0 rfl) ?_
  refine lv_aload_n hE.1 hE.2.1 dX7_copyFrom_1 rfl (lv_at hl 1 rfl) ?_
  obtain ⟨z1, hz1, ez1⟩ := XI_get hI 23 2 0 18 (by decide)
  refine x_get (x := .int (v 23 2)) hE hK hP 23 (Nat.lt_of_lt_of_le (by decide) hNN) (xG_7 rfl) rfl hin7 2 (by decide) mw_301 rfl dX7_copyFrom_2 ?_
  refine x_top (y := iI (z1)) ez1 ?_
  refine x_put (x := iI (z1)) hE hK hN hP hS 57 (Nat.lt_of_lt_of_le (by decide) hNN) (xG_7 rfl) rfl hin7 tyX7 tyX7_ok nmX7 2 (by decide) mw_301 rfl rfl rfl (Nat.le_of_ble_eq_true rfl) (xG_7 rfl) dX7_copyFrom_5 (fun v2 H locs hv2 hP hS => ?_)
  have hI := XI_putB (z := z1) hI hv2 0 18 (by omega) (by decide) (by omega)
  refine lv_aload_n hE.1 hE.2.1 dX7_copyFrom_8 rfl (lv_at hl 0 rfl) ?_
  refine lv_aload_n hE.1 hE.2.1 dX7_copyFrom_9 rfl (lv_at hl 1 rfl) ?_
  obtain ⟨z3, hz3, ez3⟩ := iI_of (v2 23 3)
  refine x_get (x := .int (v2 23 3)) hE hK hP 23 (Nat.lt_of_lt_of_le (by decide) hNN) (xG_7 rfl) rfl hin7 3 (by decide) mw_305 rfl dX7_copyFrom_10 ?_
  refine x_top (y := iI (z3)) ez3 ?_
  refine x_put (x := iI (z3)) hE hK hN hP hS 57 (Nat.lt_of_lt_of_le (by decide) hNN) (xG_7 rfl) rfl hin7 tyX7 tyX7_ok nmX7 3 (by decide) mw_305 rfl rfl rfl (Nat.le_of_ble_eq_true rfl) (xG_7 rfl) dX7_copyFrom_13 (fun v4 H locs hv4 hP hS => ?_)
  have hI := XI_putN hI hv4 (by decide)
  refine lv_aload_n hE.1 hE.2.1 dX7_copyFrom_16 rfl (lv_at hl 0 rfl) ?_
  refine lv_aload_n hE.1 hE.2.1 dX7_copyFrom_17 rfl (lv_at hl 1 rfl) ?_
  obtain ⟨z5, hz5, ez5⟩ := iI_of (v4 23 4)
  refine x_get (x := .int (v4 23 4)) hE hK hP 23 (Nat.lt_of_lt_of_le (by decide) hNN) (xG_7 rfl) rfl hin7 4 (by decide) mw_309 rfl dX7_copyFrom_18 ?_
  refine x_top (y := iI (z5)) ez5 ?_
  refine x_put (x := iI (z5)) hE hK hN hP hS 57 (Nat.lt_of_lt_of_le (by decide) hNN) (xG_7 rfl) rfl hin7 tyX7 tyX7_ok nmX7 4 (by decide) mw_309 rfl rfl rfl (Nat.le_of_ble_eq_true rfl) (xG_7 rfl) dX7_copyFrom_21 (fun v6 H locs hv6 hP hS => ?_)
  have hI := XI_putN hI hv6 (by decide)
  refine lv_aload_n hE.1 hE.2.1 dX7_copyFrom_24 rfl (lv_at hl 0 rfl) ?_
  refine lv_aload_n hE.1 hE.2.1 dX7_copyFrom_25 rfl (lv_at hl 1 rfl) ?_
  obtain ⟨z7, hz7, ez7⟩ := iI_of (v6 23 5)
  refine x_get (x := .int (v6 23 5)) hE hK hP 23 (Nat.lt_of_lt_of_le (by decide) hNN) (xG_7 rfl) rfl hin7 5 (by decide) mw_312 rfl dX7_copyFrom_26 ?_
  refine x_top (y := iI (z7)) ez7 ?_
  refine x_put (x := iI (z7)) hE hK hN hP hS 57 (Nat.lt_of_lt_of_le (by decide) hNN) (xG_7 rfl) rfl hin7 tyX7 tyX7_ok nmX7 5 (by decide) mw_312 rfl rfl rfl (Nat.le_of_ble_eq_true rfl) (xG_7 rfl) dX7_copyFrom_29 (fun v8 H locs hv8 hP hS => ?_)
  have hI := XI_putN hI hv8 (by decide)
  refine lv_aload_n hE.1 hE.2.1 dX7_copyFrom_32 rfl (lv_at hl 0 rfl) ?_
  refine lv_aload_n hE.1 hE.2.1 dX7_copyFrom_33 rfl (lv_at hl 1 rfl) ?_
  obtain ⟨z9, hz9, ez9⟩ := iI_of (v8 23 8)
  refine x_get (x := .int (v8 23 8)) hE hK hP 23 (Nat.lt_of_lt_of_le (by decide) hNN) (xG_7 rfl) rfl hin7 8 (by decide) mw_317 rfl dX7_copyFrom_34 ?_
  refine x_top (y := iI (z9)) ez9 ?_
  refine x_put (x := iI (z9)) hE hK hN hP hS 57 (Nat.lt_of_lt_of_le (by decide) hNN) (xG_7 rfl) rfl hin7 tyX7 tyX7_ok nmX7 8 (by decide) mw_317 rfl rfl rfl (Nat.le_of_ble_eq_true rfl) (xG_7 rfl) dX7_copyFrom_37 (fun v10 H locs hv10 hP hS => ?_)
  have hI := XI_putN hI hv10 (by decide)
  refine lv_aload_n hE.1 hE.2.1 dX7_copyFrom_40 rfl (lv_at hl 0 rfl) ?_
  refine lv_aload_n hE.1 hE.2.1 dX7_copyFrom_41 rfl (lv_at hl 1 rfl) ?_
  obtain ⟨z11, hz11, ez11⟩ := iI_of (v10 23 9)
  refine x_get (x := .int (v10 23 9)) hE hK hP 23 (Nat.lt_of_lt_of_le (by decide) hNN) (xG_7 rfl) rfl hin7 9 (by decide) mw_318 rfl dX7_copyFrom_42 ?_
  refine x_top (y := iI (z11)) ez11 ?_
  refine x_put (x := iI (z11)) hE hK hN hP hS 57 (Nat.lt_of_lt_of_le (by decide) hNN) (xG_7 rfl) rfl hin7 tyX7 tyX7_ok nmX7 9 (by decide) mw_318 rfl rfl rfl (Nat.le_of_ble_eq_true rfl) (xG_7 rfl) dX7_copyFrom_45 (fun v12 H locs hv12 hP hS => ?_)
  have hI := XI_putN hI hv12 (by decide)
  refine lv_aload_n hE.1 hE.2.1 dX7_copyFrom_48 rfl (lv_at hl 1 rfl) ?_
  refine x_get (x := .ref (ad 24)) hE hK hP 23 (Nat.lt_of_lt_of_le (by decide) hNN) (xG_7 rfl) rfl hin7 0 (by decide) mw_295 rfl dX7_copyFrom_49 ?_
  refine lv_iconst (v := iI (0)) hE.1 hE.2.1 dX7_copyFrom_52 (by decide) ?_
  refine lv_aload_n hE.1 hE.2.1 dX7_copyFrom_53 rfl (lv_at hl 0 rfl) ?_
  refine x_get (x := .ref (ad 58)) hE hK hP 57 (Nat.lt_of_lt_of_le (by decide) hNN) (xG_7 rfl) rfl hin7 0 (by decide) mw_295 rfl dX7_copyFrom_54 ?_
  refine lv_iconst (v := iI (0)) hE.1 hE.2.1 dX7_copyFrom_57 (by decide) ?_
  refine lv_bipush (v := iI (18)) hE.1 hE.2.1 dX7_copyFrom_58 (by decide) ?_
  refine x_copyi (rest := []) (sp := iI (0)) (dp := iI (0)) (n := iI (18)) (n0 := 18) (n1 := 18) hE hl.1 hK hN hP hS mw_912 mw_680 mw_679 mw_130 24 58 (Nat.lt_of_lt_of_le (by decide) hNN) (Nat.lt_of_lt_of_le (by decide) hNN) (xG_10 rfl) (fun _ => xG_10 rfl) (by decide) (by decide) (by decide) (by decide) (by decide) (by decide) (by decide) dX7_copyFrom_60 (fun ar13 H locs ha13 hP hS => ?_)
  refine lv_aload_n hE.1 hE.2.1 dX7_copyFrom_63 rfl (lv_at hl 1 rfl) ?_
  refine x_get (x := .ref (ad 25)) hE hK hP 23 (Nat.lt_of_lt_of_le (by decide) hNN) (xG_7 rfl) rfl hin7 1 (by decide) mw_299 rfl dX7_copyFrom_64 ?_
  refine lv_iconst (v := iI (0)) hE.1 hE.2.1 dX7_copyFrom_67 (by decide) ?_
  refine lv_aload_n hE.1 hE.2.1 dX7_copyFrom_68 rfl (lv_at hl 0 rfl) ?_
  refine x_get (x := .ref (ad 59)) hE hK hP 57 (Nat.lt_of_lt_of_le (by decide) hNN) (xG_7 rfl) rfl hin7 1 (by decide) mw_299 rfl dX7_copyFrom_69 ?_
  refine lv_iconst (v := iI (0)) hE.1 hE.2.1 dX7_copyFrom_72 (by decide) ?_
  refine lv_bipush (v := iI (9)) hE.1 hE.2.1 dX7_copyFrom_73 (by decide) ?_
  refine x_copyi (rest := []) (sp := iI (0)) (dp := iI (0)) (n := iI (9)) (n0 := 9) (n1 := 9) hE hl.1 hK hN hP hS mw_912 mw_680 mw_679 mw_130 25 59 (Nat.lt_of_lt_of_le (by decide) hNN) (Nat.lt_of_lt_of_le (by decide) hNN) (xG_10 rfl) (fun _ => xG_10 rfl) (by decide) (by decide) (by decide) (by decide) (by decide) (by decide) (by decide) dX7_copyFrom_75 (fun ar14 H locs ha14 hP hS => ?_)
  refine lv_aload_n hE.1 hE.2.1 dX7_copyFrom_78 rfl (lv_at hl 1 rfl) ?_
  refine x_get (x := .ref (ad 26)) hE hK hP 23 (Nat.lt_of_lt_of_le (by decide) hNN) (xG_7 rfl) rfl hin7 7 (by decide) mw_316 rfl dX7_copyFrom_79 ?_
  refine lv_iconst (v := iI (0)) hE.1 hE.2.1 dX7_copyFrom_82 (by decide) ?_
  refine lv_aload_n hE.1 hE.2.1 dX7_copyFrom_83 rfl (lv_at hl 0 rfl) ?_
  refine x_get (x := .ref (ad 60)) hE hK hP 57 (Nat.lt_of_lt_of_le (by decide) hNN) (xG_7 rfl) rfl hin7 7 (by decide) mw_316 rfl dX7_copyFrom_84 ?_
  refine lv_iconst (v := iI (0)) hE.1 hE.2.1 dX7_copyFrom_87 (by decide) ?_
  refine lv_iconst (v := iI (3)) hE.1 hE.2.1 dX7_copyFrom_88 (by decide) ?_
  refine x_copyi (rest := []) (sp := iI (0)) (dp := iI (0)) (n := iI (3)) (n0 := 3) (n1 := 3) hE hl.1 hK hN hP hS mw_912 mw_680 mw_679 mw_130 26 60 (Nat.lt_of_lt_of_le (by decide) hNN) (Nat.lt_of_lt_of_le (by decide) hNN) (xG_10 rfl) (fun _ => xG_10 rfl) (by decide) (by decide) (by decide) (by decide) (by decide) (by decide) (by decide) dX7_copyFrom_89 (fun ar15 H locs ha15 hP hS => ?_)
  refine lv_aload_n hE.1 hE.2.1 dX7_copyFrom_92 rfl (lv_at hl 1 rfl) ?_
  refine x_get (x := .ref (ad 27)) hE hK hP 23 (Nat.lt_of_lt_of_le (by decide) hNN) (xG_7 rfl) rfl hin7 10 (by decide) mw_319 rfl dX7_copyFrom_93 ?_
  refine lv_iconst (v := iI (0)) hE.1 hE.2.1 dX7_copyFrom_96 (by decide) ?_
  refine lv_aload_n hE.1 hE.2.1 dX7_copyFrom_97 rfl (lv_at hl 0 rfl) ?_
  refine x_get (x := .ref (ad 61)) hE hK hP 57 (Nat.lt_of_lt_of_le (by decide) hNN) (xG_7 rfl) rfl hin7 10 (by decide) mw_319 rfl dX7_copyFrom_98 ?_
  refine lv_iconst (v := iI (0)) hE.1 hE.2.1 dX7_copyFrom_101 (by decide) ?_
  refine lv_bipush (v := iI (18)) hE.1 hE.2.1 dX7_copyFrom_102 (by decide) ?_
  refine x_copyi (rest := []) (sp := iI (0)) (dp := iI (0)) (n := iI (18)) (n0 := 18) (n1 := 18) hE hl.1 hK hN hP hS mw_912 mw_680 mw_679 mw_130 27 61 (Nat.lt_of_lt_of_le (by decide) hNN) (Nat.lt_of_lt_of_le (by decide) hNN) (xG_10 rfl) (fun _ => xG_10 rfl) (by decide) (by decide) (by decide) (by decide) (by decide) (by decide) (by decide) dX7_copyFrom_104 (fun ar16 H locs ha16 hP hS => ?_)
  refine lv_aload_n hE.1 hE.2.1 dX7_copyFrom_107 rfl (lv_at hl 1 rfl) ?_
  refine x_get (x := .ref (ad 28)) hE hK hP 23 (Nat.lt_of_lt_of_le (by decide) hNN) (xG_7 rfl) rfl hin7 11 (by decide) mw_320 rfl dX7_copyFrom_108 ?_
  refine lv_iconst (v := iI (0)) hE.1 hE.2.1 dX7_copyFrom_111 (by decide) ?_
  refine lv_aload_n hE.1 hE.2.1 dX7_copyFrom_112 rfl (lv_at hl 0 rfl) ?_
  refine x_get (x := .ref (ad 62)) hE hK hP 57 (Nat.lt_of_lt_of_le (by decide) hNN) (xG_7 rfl) rfl hin7 11 (by decide) mw_320 rfl dX7_copyFrom_113 ?_
  refine lv_iconst (v := iI (0)) hE.1 hE.2.1 dX7_copyFrom_116 (by decide) ?_
  refine lv_bipush (v := iI (18)) hE.1 hE.2.1 dX7_copyFrom_117 (by decide) ?_
  refine x_copyi (rest := []) (sp := iI (0)) (dp := iI (0)) (n := iI (18)) (n0 := 18) (n1 := 18) hE hl.1 hK hN hP hS mw_912 mw_680 mw_679 mw_130 28 62 (Nat.lt_of_lt_of_le (by decide) hNN) (Nat.lt_of_lt_of_le (by decide) hNN) (xG_10 rfl) (fun _ => xG_10 rfl) (by decide) (by decide) (by decide) (by decide) (by decide) (by decide) (by decide) dX7_copyFrom_119 (fun ar17 H locs ha17 hP hS => ?_)
  refine lv_aload_n hE.1 hE.2.1 dX7_copyFrom_122 rfl (lv_at hl 1 rfl) ?_
  refine x_get (x := .ref (ad 29)) hE hK hP 23 (Nat.lt_of_lt_of_le (by decide) hNN) (xG_7 rfl) rfl hin7 12 (by decide) mw_321 rfl dX7_copyFrom_123 ?_
  refine lv_iconst (v := iI (0)) hE.1 hE.2.1 dX7_copyFrom_126 (by decide) ?_
  refine lv_aload_n hE.1 hE.2.1 dX7_copyFrom_127 rfl (lv_at hl 0 rfl) ?_
  refine x_get (x := .ref (ad 63)) hE hK hP 57 (Nat.lt_of_lt_of_le (by decide) hNN) (xG_7 rfl) rfl hin7 12 (by decide) mw_321 rfl dX7_copyFrom_128 ?_
  refine lv_iconst (v := iI (0)) hE.1 hE.2.1 dX7_copyFrom_131 (by decide) ?_
  refine lv_bipush (v := iI (18)) hE.1 hE.2.1 dX7_copyFrom_132 (by decide) ?_
  refine x_copyi (rest := []) (sp := iI (0)) (dp := iI (0)) (n := iI (18)) (n0 := 18) (n1 := 18) hE hl.1 hK hN hP hS mw_912 mw_680 mw_679 mw_130 29 63 (Nat.lt_of_lt_of_le (by decide) hNN) (Nat.lt_of_lt_of_le (by decide) hNN) (xG_10 rfl) (fun _ => xG_10 rfl) (by decide) (by decide) (by decide) (by decide) (by decide) (by decide) (by decide) dX7_copyFrom_134 (fun ar18 H locs ha18 hP hS => ?_)
  refine lv_aload_n hE.1 hE.2.1 dX7_copyFrom_137 rfl (lv_at hl 1 rfl) ?_
  refine x_get (x := .ref (ad 30)) hE hK hP 23 (Nat.lt_of_lt_of_le (by decide) hNN) (xG_7 rfl) rfl hin7 13 (by decide) mw_322 rfl dX7_copyFrom_138 ?_
  refine lv_iconst (v := iI (0)) hE.1 hE.2.1 dX7_copyFrom_141 (by decide) ?_
  refine lv_aload_n hE.1 hE.2.1 dX7_copyFrom_142 rfl (lv_at hl 0 rfl) ?_
  refine x_get (x := .ref (ad 64)) hE hK hP 57 (Nat.lt_of_lt_of_le (by decide) hNN) (xG_7 rfl) rfl hin7 13 (by decide) mw_322 rfl dX7_copyFrom_143 ?_
  refine lv_iconst (v := iI (0)) hE.1 hE.2.1 dX7_copyFrom_146 (by decide) ?_
  refine lv_bipush (v := iI (18)) hE.1 hE.2.1 dX7_copyFrom_147 (by decide) ?_
  refine x_copyi (rest := []) (sp := iI (0)) (dp := iI (0)) (n := iI (18)) (n0 := 18) (n1 := 18) hE hl.1 hK hN hP hS mw_912 mw_680 mw_679 mw_130 30 64 (Nat.lt_of_lt_of_le (by decide) hNN) (Nat.lt_of_lt_of_le (by decide) hNN) (xG_10 rfl) (fun _ => xG_10 rfl) (by decide) (by decide) (by decide) (by decide) (by decide) (by decide) (by decide) dX7_copyFrom_149 (fun ar19 H locs ha19 hP hS => ?_)
  exact kr _ _ _ _ _ _ _ ⟨hI, fun i j h => ((up_oth hv12 (fun q => h (by rcases q with ⟨rfl, rfl⟩; decide))).trans ((up_oth hv10 (fun q => h (by rcases q with ⟨rfl, rfl⟩; decide))).trans ((up_oth hv8 (fun q => h (by rcases q with ⟨rfl, rfl⟩; decide))).trans ((up_oth hv6 (fun q => h (by rcases q with ⟨rfl, rfl⟩; decide))).trans ((up_oth hv4 (fun q => h (by rcases q with ⟨rfl, rfl⟩; decide))).trans (up_oth hv2 (fun q => h (by rcases q with ⟨rfl, rfl⟩; decide))))))))⟩ hP hS dX7_copyFrom_152

theorem dX2_begin_0 : decode cX2_begin 0 = .ok (.aload_n 0, 1) := by decide +kernel
theorem dX2_begin_1 : decode cX2_begin 1 = .ok (.getfield 24, 3) := by decide +kernel
theorem dX2_begin_4 : decode cX2_begin 4 = .ok (.aload_n 1, 1) := by decide +kernel
theorem dX2_begin_5 : decode cX2_begin 5 = .ok (.invokevirtual 28, 3) := by decide +kernel
theorem dX2_begin_8 : decode cX2_begin 8 = .ok (.aload_n 0, 1) := by decide +kernel
theorem dX2_begin_9 : decode cX2_begin 9 = .ok (.iload_n 2, 1) := by decide +kernel
theorem dX2_begin_10 : decode cX2_begin 10 = .ok (.putfield 32, 3) := by decide +kernel
theorem dX2_begin_13 : decode cX2_begin 13 = .ok (.aload_n 0, 1) := by decide +kernel
theorem dX2_begin_14 : decode cX2_begin 14 = .ok (.getfield 11, 3) := by decide +kernel
theorem dX2_begin_17 : decode cX2_begin 17 = .ok (.ifnonnull 11, 3) := by decide +kernel
theorem dX2_begin_28 : decode cX2_begin 28 = .ok (.aload_n 0, 1) := by decide +kernel
theorem dX2_begin_29 : decode cX2_begin 29 = .ok (.dup, 1) := by decide +kernel
theorem dX2_begin_30 : decode cX2_begin 30 = .ok (.getfield 37, 3) := by decide +kernel
theorem dX2_begin_33 : decode cX2_begin 33 = .ok (.iconst 1, 1) := by decide +kernel
theorem dX2_begin_34 : decode cX2_begin 34 = .ok (.iadd, 1) := by decide +kernel
theorem dX2_begin_35 : decode cX2_begin 35 = .ok (.putfield 37, 3) := by decide +kernel
theorem dX2_begin_38 : decode cX2_begin 38 = .ok (.return_, 1) := by decide +kernel
set_option maxHeartbeats 4000000 in
set_option maxRecDepth 100000 in
theorem s_X2_begin_56_23 (l : Launch) (D : va_G) (K : Nat → ClassId) (ad : Nat → Nat) (v ar : sI) (al : sL) (hI : XI v) (z_1 : Int) (hz_1 : 0 ≤ z_1 ∧ z_1 ≤ 1) : Met l yX2_begin (wM yX2_begin cX2_begin 3 none) (rmD 2) (va_Pc [.ref (ad 56), .ref (ad 23), .int (iI (z_1))] (wPre D K ad (xG ad K (some (ad 132))) 133 v ar al)) (va_Qv (fun u : sT => XI u.1 ∧ (∀ i j : Nat, (i, j) ∉ ([(56, 3), (56, 4), (57, 2), (57, 3), (57, 4), (57, 5), (57, 8), (57, 9)] : List (Nat × Nat)) → u.1 i j = v i j)) (wB D ad (xG ad K (some (ad 132))) 133) (inW ad 133)) 0 0 (inW ad 133) := by
  refine s_metV (by decide) (Nat.le_of_ble_eq_true rfl) ?_
  intro p e s m below meth c ls args Q hE hB hl kr
  have hE : CallFix p m c cX2_begin 3 s args tbG "TaleCourt$Game" := hE
  obtain ⟨hP, hK, hN⟩ := hB
  have hS : va_S (inW ad 133) s.heap s.heap [] := va_S.rf
  have hl : lv_has ls 3 [(0, .ref (ad 56)), (1, .ref (ad 23)), (2, .int (iI (z_1)))] := hl
  refine lv_aload_n hE.1 hE.2.1 dX2_begin_0 rfl (lv_at hl 0 rfl) ?_
  refine x_get (x := .ref (ad 57)) hE hK hP 56 (by decide) (xG_2 rfl) rfl hin2 1 (by decide) mw_421 rfl dX2_begin_1 ?_
  refine lv_aload_n hE.1 hE.2.1 dX2_begin_4 rfl (lv_at hl 1 rfl) ?_
  refine x_vv (nn := 1) (As := [.ref (ad 23)]) (rest := []) hE hK hN hP hS (s_X7_copyFrom_57_23 l D K ad (some (ad 132)) 133 (by decide) v ar al hI  ) (x_recv hK hP 57 (by decide) (xG_7 rfl) rfl) rfl mw_1035 mw_909 mw_910 mw_117 mw_911 (by decide +kernel) ⟨by decide, by decide⟩ hl.1 rfl (Nat.le_of_ble_eq_true rfl) ⟨Nat.zero_le _, Nat.zero_le _⟩ dX2_begin_5 (fun v1 ar1 al1 H locs hq1 hP hS => ?_)
  obtain ⟨hI, hq1⟩ := hq1
  have hI : XI v1 := hI
  refine lv_aload_n hE.1 hE.2.1 dX2_begin_8 rfl (lv_at hl 0 rfl) ?_
  refine lv_iload_n hE.1 hE.2.1 dX2_begin_9 rfl (lv_at hl 2 rfl) ?_
  refine x_put (x := iI (z_1)) hE hK hN hP hS 56 (by decide) (xG_2 rfl) rfl hin2 tyX2 tyX2_ok nmX2 4 (by decide) mw_424 rfl (nar01 (by omega)) (fit01 (by omega)) (Nat.le_of_ble_eq_true rfl) (xG_2 rfl) dX2_begin_10 (fun v2 H locs hv2 hP hS => ?_)
  have hI := XI_putN hI hv2 (by decide)
  refine lv_aload_n hE.1 hE.2.1 dX2_begin_13 rfl (lv_at hl 0 rfl) ?_
  refine x_get (x := .ref (ad 132)) hE hK hP 56 (by decide) (xG_2 rfl) rfl hin2 2 (by decide) mw_422 rfl dX2_begin_14 ?_
  refine lv_ifnonnull (tgt := 28) hE.1 hE.2.1 dX2_begin_17 (by decide) ?_
  refine lv_aload_n hE.1 hE.2.1 dX2_begin_28 rfl (lv_at hl 0 rfl) ?_
  refine lv_dup hE.1 hE.2.1 dX2_begin_29 rfl ?_
  obtain ⟨z3, hz3, ez3⟩ := iI_of (v2 56 3)
  refine x_get (x := .int (v2 56 3)) hE hK hP 56 (by decide) (xG_2 rfl) rfl hin2 3 (by decide) mw_423 rfl dX2_begin_30 ?_
  refine x_top (y := iI (z3)) ez3 ?_
  refine lv_iconst (v := iI (1)) hE.1 hE.2.1 dX2_begin_33 (by decide) ?_
  refine lv_iadd hE.1 hE.2.1 dX2_begin_34 ?_
  obtain ⟨z4, hz4, ez4⟩ := iI_of (iI (z3) + iI (1))
  refine x_top ez4 ?_
  refine x_put (x := iI (z4)) hE hK hN hP hS 56 (by decide) (xG_2 rfl) rfl hin2 tyX2 tyX2_ok nmX2 3 (by decide) mw_423 rfl rfl rfl (Nat.le_of_ble_eq_true rfl) (xG_2 rfl) dX2_begin_35 (fun v5 H locs hv5 hP hS => ?_)
  have hI := XI_putN hI hv5 (by decide)
  exact kr _ _ _ _ _ _ _ ⟨hI, fun i j h => ((up_oth hv5 (fun q => h (by rcases q with ⟨rfl, rfl⟩; decide))).trans ((up_oth hv2 (fun q => h (by rcases q with ⟨rfl, rfl⟩; decide))).trans (hq1 i j (fun q => h (mem_sub (by decide) q)))))⟩ hP hS dX2_begin_38

set_option maxHeartbeats 4000000 in
set_option maxRecDepth 100000 in
theorem s_X7_silencesLeft_57 (l : Launch) (D : va_G) (K : Nat → ClassId) (ad : Nat → Nat) (mm : Option Nat) (N : Nat) (hNN : 132 ≤ N) (v ar : sI) (al : sL) (hI : XI v) (z_1 : Int) (hz_1 : -2147483648 ≤ z_1 ∧ z_1 ≤ 2147483647) : Met l yX7_silencesLeft (wM yX7_silencesLeft cX7_silencesLeft 2 (some .int)) (rmD 0) (va_Pc [.ref (ad 57), .int (iI (z_1))] (wPre D K ad (xG ad K mm) N v ar al)) (vp_Si (fun r => ∃ z : Int, (-2147483648 ≤ z ∧ z ≤ 2147483647) ∧ r = iI z)) 0 0 (fun _ => False) := by
  refine s_metP (by decide) (Nat.le_of_ble_eq_true rfl) ?_
  intro p e s m below meth c ls args Q hE hB hl kr
  have hE : CallFix p m c cX7_silencesLeft 2 s args tbG "TaleCourt$Telling" := hE
  obtain ⟨hP, hK, hN⟩ := hB
  have hl : lv_has ls 2 [(0, .ref (ad 57)), (1, .int (iI (z_1)))] := hl
  refine lv_iload_n hE.1 hE.2.1 dX7_silencesLeft_0 rfl (lv_at hl 1 rfl) ?_
  refine s_if_lt (a := z_1) (tgt := 26) hE.1 hE.2.1 (by omega) dX7_silencesLeft_1 (by decide) (fun c1 => ?_) (fun c1 => ?_)
  · skip
    refine lv_iconst (v := iI (0)) hE.1 hE.2.1 dX7_silencesLeft_26 (by decide) ?_
    exact kr _ _ _ rfl ⟨0, by omega, rfl⟩ dX7_silencesLeft_27
  · skip
    refine lv_iload_n hE.1 hE.2.1 dX7_silencesLeft_4 rfl (lv_at hl 1 rfl) ?_
    refine lv_iconst (v := iI (3)) hE.1 hE.2.1 dX7_silencesLeft_5 (by decide) ?_
    refine s_icmp_ge (a := z_1) (b := 3) (tgt := 26) hE.1 hE.2.1 (by omega) (by omega) dX7_silencesLeft_6 (by decide) (fun c2 => ?_) (fun c2 => ?_)
    · skip
      refine lv_iconst (v := iI (0)) hE.1 hE.2.1 dX7_silencesLeft_26 (by decide) ?_
      exact kr _ _ _ rfl ⟨0, by omega, rfl⟩ dX7_silencesLeft_27
    · skip
      refine lv_aload_n hE.1 hE.2.1 dX7_silencesLeft_9 rfl (lv_at hl 0 rfl) ?_
      refine x_get (x := .ref (ad 3)) hE hK hP 57 (Nat.lt_of_lt_of_le (by decide) hNN) (xG_7 rfl) rfl hin7 6 (by decide) mw_315 rfl dX7_silencesLeft_10 ?_
      obtain ⟨z3, hz3, ez3⟩ := iI_of (v 3 1)
      refine x_get (x := .int (v 3 1)) hE hK hP 3 (Nat.lt_of_lt_of_le (by decide) hNN) (xG_1 rfl) rfl hin1 1 (by decide) mw_183 rfl dX7_silencesLeft_13 ?_
      refine x_top (y := iI (z3)) ez3 ?_
      refine lv_aload_n hE.1 hE.2.1 dX7_silencesLeft_16 rfl (lv_at hl 0 rfl) ?_
      refine x_get (x := .ref (ad 60)) hE hK hP 57 (Nat.lt_of_lt_of_le (by decide) hNN) (xG_7 rfl) rfl hin7 7 (by decide) mw_316 rfl dX7_silencesLeft_17 ?_
      refine lv_iload_n hE.1 hE.2.1 dX7_silencesLeft_20 rfl (lv_at hl 1 rfl) ?_
      refine x_iald (j := iI (z_1)) hE hK hP 60 (Nat.lt_of_lt_of_le (by decide) hNN) (xG_10 rfl) (iI_in (n := 3) (by omega)) dX7_silencesLeft_21 ?_
      obtain ⟨z5, hz5, ez5⟩ := iI_of (ar 60 (iI (z_1)).toNatClampNeg)
      refine x_top ez5 ?_
      refine lv_isub hE.1 hE.2.1 dX7_silencesLeft_22 ?_
      obtain ⟨z6, hz6, ez6⟩ := iI_of (iI (z3) - iI (z5))
      refine x_top ez6 ?_
      refine lv_goto (tgt := 27) hE.1 hE.2.1 dX7_silencesLeft_23 (by decide) ?_
      exact kr _ _ _ rfl ⟨z6, by omega, rfl⟩ dX7_silencesLeft_27

theorem dX2_position_0 : decode cX2_position 0 = .ok (.aload_n 0, 1) := by decide +kernel
theorem dX2_position_1 : decode cX2_position 1 = .ok (.getfield 24, 3) := by decide +kernel
theorem dX2_position_4 : decode cX2_position 4 = .ok (.getfield 85, 3) := by decide +kernel
theorem dX2_position_7 : decode cX2_position 7 = .ok (.istore_n 1, 1) := by decide +kernel
theorem dX2_position_8 : decode cX2_position 8 = .ok (.sipush 2304, 3) := by decide +kernel
theorem dX2_position_11 : decode cX2_position 11 = .ok (.istore_n 2, 1) := by decide +kernel
theorem dX2_position_12 : decode cX2_position 12 = .ok (.iload_n 1, 1) := by decide +kernel
theorem dX2_position_13 : decode cX2_position 13 = .ok (.ifCond .lt 43, 3) := by decide +kernel
theorem dX2_position_16 : decode cX2_position 16 = .ok (.aload_n 0, 1) := by decide +kernel
theorem dX2_position_17 : decode cX2_position 17 = .ok (.getfield 24, 3) := by decide +kernel
theorem dX2_position_20 : decode cX2_position 20 = .ok (.getfield 88, 3) := by decide +kernel
theorem dX2_position_23 : decode cX2_position 23 = .ok (.iconst 1, 1) := by decide +kernel
theorem dX2_position_24 : decode cX2_position 24 = .ok (.iload_n 1, 1) := by decide +kernel
theorem dX2_position_25 : decode cX2_position 25 = .ok (.ishl, 1) := by decide +kernel
theorem dX2_position_26 : decode cX2_position 26 = .ok (.iconst 1, 1) := by decide +kernel
theorem dX2_position_27 : decode cX2_position 27 = .ok (.isub, 1) := by decide +kernel
theorem dX2_position_28 : decode cX2_position 28 = .ok (.iand, 1) := by decide +kernel
theorem dX2_position_29 : decode cX2_position 29 = .ok (.istore_n 3, 1) := by decide +kernel
theorem dX2_position_30 : decode cX2_position 30 = .ok (.aload_n 0, 1) := by decide +kernel
theorem dX2_position_31 : decode cX2_position 31 = .ok (.getfield 24, 3) := by decide +kernel
theorem dX2_position_34 : decode cX2_position 34 = .ok (.getfield 88, 3) := by decide +kernel
theorem dX2_position_37 : decode cX2_position 37 = .ok (.iload_n 1, 1) := by decide +kernel
theorem dX2_position_38 : decode cX2_position 38 = .ok (.iconst 1, 1) := by decide +kernel
theorem dX2_position_39 : decode cX2_position 39 = .ok (.iadd, 1) := by decide +kernel
theorem dX2_position_40 : decode cX2_position 40 = .ok (.ishr, 1) := by decide +kernel
theorem dX2_position_41 : decode cX2_position 41 = .ok (.iload_n 1, 1) := by decide +kernel
theorem dX2_position_42 : decode cX2_position 42 = .ok (.ishl, 1) := by decide +kernel
theorem dX2_position_43 : decode cX2_position 43 = .ok (.istore 4, 2) := by decide +kernel
theorem dX2_position_45 : decode cX2_position 45 = .ok (.iload_n 1, 1) := by decide +kernel
theorem dX2_position_46 : decode cX2_position 46 = .ok (.sipush 256, 3) := by decide +kernel
theorem dX2_position_49 : decode cX2_position 49 = .ok (.imul, 1) := by decide +kernel
theorem dX2_position_50 : decode cX2_position 50 = .ok (.iload 4, 2) := by decide +kernel
theorem dX2_position_52 : decode cX2_position 52 = .ok (.iload_n 3, 1) := by decide +kernel
theorem dX2_position_53 : decode cX2_position 53 = .ok (.ior, 1) := by decide +kernel
theorem dX2_position_54 : decode cX2_position 54 = .ok (.iadd, 1) := by decide +kernel
theorem dX2_position_55 : decode cX2_position 55 = .ok (.istore_n 2, 1) := by decide +kernel
theorem dX2_position_56 : decode cX2_position 56 = .ok (.aload_n 0, 1) := by decide +kernel
theorem dX2_position_57 : decode cX2_position 57 = .ok (.getfield 15, 3) := by decide +kernel
theorem dX2_position_60 : decode cX2_position 60 = .ok (.getfield 91, 3) := by decide +kernel
theorem dX2_position_63 : decode cX2_position 63 = .ok (.aload_n 0, 1) := by decide +kernel
theorem dX2_position_64 : decode cX2_position 64 = .ok (.getfield 24, 3) := by decide +kernel
theorem dX2_position_67 : decode cX2_position 67 = .ok (.iconst 0, 1) := by decide +kernel
theorem dX2_position_68 : decode cX2_position 68 = .ok (.invokevirtual 96, 3) := by decide +kernel
theorem dX2_position_71 : decode cX2_position 71 = .ok (.isub, 1) := by decide +kernel
theorem dX2_position_72 : decode cX2_position 72 = .ok (.istore_n 3, 1) := by decide +kernel
theorem dX2_position_73 : decode cX2_position 73 = .ok (.aload_n 0, 1) := by decide +kernel
theorem dX2_position_74 : decode cX2_position 74 = .ok (.getfield 15, 3) := by decide +kernel
theorem dX2_position_77 : decode cX2_position 77 = .ok (.getfield 91, 3) := by decide +kernel
theorem dX2_position_80 : decode cX2_position 80 = .ok (.aload_n 0, 1) := by decide +kernel
theorem dX2_position_81 : decode cX2_position 81 = .ok (.getfield 24, 3) := by decide +kernel
theorem dX2_position_84 : decode cX2_position 84 = .ok (.iconst 1, 1) := by decide +kernel
theorem dX2_position_85 : decode cX2_position 85 = .ok (.invokevirtual 96, 3) := by decide +kernel
theorem dX2_position_88 : decode cX2_position 88 = .ok (.isub, 1) := by decide +kernel
theorem dX2_position_89 : decode cX2_position 89 = .ok (.istore 4, 2) := by decide +kernel
theorem dX2_position_91 : decode cX2_position 91 = .ok (.iload_n 2, 1) := by decide +kernel
theorem dX2_position_92 : decode cX2_position 92 = .ok (.iconst 4, 1) := by decide +kernel
theorem dX2_position_93 : decode cX2_position 93 = .ok (.imul, 1) := by decide +kernel
theorem dX2_position_94 : decode cX2_position 94 = .ok (.iload_n 3, 1) := by decide +kernel
theorem dX2_position_95 : decode cX2_position 95 = .ok (.iadd, 1) := by decide +kernel
theorem dX2_position_96 : decode cX2_position 96 = .ok (.iconst 4, 1) := by decide +kernel
theorem dX2_position_97 : decode cX2_position 97 = .ok (.imul, 1) := by decide +kernel
theorem dX2_position_98 : decode cX2_position 98 = .ok (.iload 4, 2) := by decide +kernel
theorem dX2_position_100 : decode cX2_position 100 = .ok (.iadd, 1) := by decide +kernel
theorem dX2_position_101 : decode cX2_position 101 = .ok (.ireturn, 1) := by decide +kernel
set_option maxHeartbeats 4000000 in
set_option maxRecDepth 100000 in
theorem s_X2_position_56 (l : Launch) (D : va_G) (K : Nat → ClassId) (ad : Nat → Nat) (mm : Option Nat) (N : Nat) (hNN : 132 ≤ N) (v ar : sI) (al : sL) (hI : XI v) : Met l yX2_position (wM yX2_position cX2_position 5 (some .int)) (rmD 1) (va_Pc [.ref (ad 56)] (wPre D K ad (xG ad K mm) N v ar al)) (vp_Si (fun r => ∃ z : Int, (-2147483648 ≤ z ∧ z ≤ 2147483647) ∧ r = iI z)) 0 0 (fun _ => False) := by
  refine s_metP (by decide) (Nat.le_of_ble_eq_true rfl) ?_
  intro p e s m below meth c ls args Q hE hB hl kr
  have hE : CallFix p m c cX2_position 5 s args tbG "TaleCourt$Game" := hE
  obtain ⟨hP, hK, hN⟩ := hB
  have hl : lv_has ls 5 [(0, .ref (ad 56))] := hl
  refine lv_aload_n hE.1 hE.2.1 dX2_position_0 rfl (lv_at hl 0 rfl) ?_
  refine x_get (x := .ref (ad 57)) hE hK hP 56 (Nat.lt_of_lt_of_le (by decide) hNN) (xG_2 rfl) rfl hin2 1 (by decide) mw_421 rfl dX2_position_1 ?_
  obtain ⟨z1, hz1, ez1⟩ := iI_of (v 57 4)
  refine x_get (x := .int (v 57 4)) hE hK hP 57 (Nat.lt_of_lt_of_le (by decide) hNN) (xG_7 rfl) rfl hin7 4 (by decide) mw_311 rfl dX2_position_4 ?_
  refine x_top (y := iI (z1)) ez1 ?_
  refine lv_istore_n (lv' := [(1, .int (iI (z1))), (0, .ref (ad 56))]) hE.1 hE.2.1 dX2_position_7 rfl hl (by decide) rfl (fun ls hl => ?_)
  refine lv_sipush (v := iI (2304)) hE.1 hE.2.1 dX2_position_8 (by decide) ?_
  refine lv_istore_n (lv' := [(2, .int (iI (2304))), (1, .int (iI (z1))), (0, .ref (ad 56))]) hE.1 hE.2.1 dX2_position_11 rfl hl (by decide) rfl (fun ls hl => ?_)
  refine lv_iload_n hE.1 hE.2.1 dX2_position_12 rfl (lv_at hl 1 rfl) ?_
  refine s_if_lt (a := z1) (tgt := 56) hE.1 hE.2.1 (by omega) dX2_position_13 (by decide) (fun c2 => ?_) (fun c2 => ?_)
  · skip
    refine lv_aload_n hE.1 hE.2.1 dX2_position_56 rfl (lv_at hl 2 rfl) ?_
    refine x_get (x := .ref (ad 3)) hE hK hP 56 (Nat.lt_of_lt_of_le (by decide) hNN) (xG_2 rfl) rfl hin2 0 (by decide) mw_420 rfl dX2_position_57 ?_
    obtain ⟨z3, hz3, ez3⟩ := iI_of (v 3 1)
    refine x_get (x := .int (v 3 1)) hE hK hP 3 (Nat.lt_of_lt_of_le (by decide) hNN) (xG_1 rfl) rfl hin1 1 (by decide) mw_185 rfl dX2_position_60 ?_
    refine x_top (y := iI (z3)) ez3 ?_
    refine lv_aload_n hE.1 hE.2.1 dX2_position_63 rfl (lv_at hl 2 rfl) ?_
    refine x_get (x := .ref (ad 57)) hE hK hP 56 (Nat.lt_of_lt_of_le (by decide) hNN) (xG_2 rfl) rfl hin2 1 (by decide) mw_421 rfl dX2_position_64 ?_
    refine lv_iconst (v := iI (0)) hE.1 hE.2.1 dX2_position_67 (by decide) ?_
    refine x_vp (nn := 1) (As := [.int (iI (0))]) (rest := [.int (iI (z3))]) hE (s_X7_silencesLeft_57 l D K ad mm N hNN v ar al hI  (0) (by omega)) wPre_blind (wPre_now hK hN hP) (x_recv hK hP 57 (Nat.lt_of_lt_of_le (by decide) hNN) (xG_7 rfl) rfl) rfl mw_1049 mw_801 mw_802 mw_117 mw_803 (by decide +kernel) ⟨by decide, by decide⟩ hl.1 rfl (Nat.le_of_ble_eq_true rfl) ⟨Nat.zero_le _, Nat.zero_le _⟩ dX2_position_68 (fun r4 hr4 => ?_)
    obtain ⟨z4, hz4, rfl⟩ := hr4
    refine lv_isub hE.1 hE.2.1 dX2_position_71 ?_
    obtain ⟨z5, hz5, ez5⟩ := iI_of (iI (z3) - iI (z4))
    refine x_top ez5 ?_
    refine lv_istore_n (lv' := [(3, .int (iI (z5))), (2, .int (iI (2304))), (1, .int (iI (z1))), (0, .ref (ad 56))]) hE.1 hE.2.1 dX2_position_72 rfl hl (by decide) rfl (fun ls hl => ?_)
    refine lv_aload_n hE.1 hE.2.1 dX2_position_73 rfl (lv_at hl 3 rfl) ?_
    refine x_get (x := .ref (ad 3)) hE hK hP 56 (Nat.lt_of_lt_of_le (by decide) hNN) (xG_2 rfl) rfl hin2 0 (by decide) mw_420 rfl dX2_position_74 ?_
    refine x_get (x := .int (v 3 1)) hE hK hP 3 (Nat.lt_of_lt_of_le (by decide) hNN) (xG_1 rfl) rfl hin1 1 (by decide) mw_185 rfl dX2_position_77 ?_
    refine x_top (y := iI (z3)) ez3 ?_
    refine lv_aload_n hE.1 hE.2.1 dX2_position_80 rfl (lv_at hl 3 rfl) ?_
    refine x_get (x := .ref (ad 57)) hE hK hP 56 (Nat.lt_of_lt_of_le (by decide) hNN) (xG_2 rfl) rfl hin2 1 (by decide) mw_421 rfl dX2_position_81 ?_
    refine lv_iconst (v := iI (1)) hE.1 hE.2.1 dX2_position_84 (by decide) ?_
    refine x_vp (nn := 1) (As := [.int (iI (1))]) (rest := [.int (iI (z3))]) hE (s_X7_silencesLeft_57 l D K ad mm N hNN v ar al hI  (1) (by omega)) wPre_blind (wPre_now hK hN hP) (x_recv hK hP 57 (Nat.lt_of_lt_of_le (by decide) hNN) (xG_7 rfl) rfl) rfl mw_1049 mw_801 mw_802 mw_117 mw_803 (by decide +kernel) ⟨by decide, by decide⟩ hl.1 rfl (Nat.le_of_ble_eq_true rfl) ⟨Nat.zero_le _, Nat.zero_le _⟩ dX2_position_85 (fun r6 hr6 => ?_)
    obtain ⟨z6, hz6, rfl⟩ := hr6
    refine lv_isub hE.1 hE.2.1 dX2_position_88 ?_
    obtain ⟨z7, hz7, ez7⟩ := iI_of (iI (z3) - iI (z6))
    refine x_top ez7 ?_
    refine lv_istore (lv' := [(4, .int (iI (z7))), (3, .int (iI (z5))), (2, .int (iI (2304))), (1, .int (iI (z1))), (0, .ref (ad 56))]) hE.1 hE.2.1 dX2_position_89 hl (by decide) rfl (fun ls hl => ?_)
    refine lv_iload_n hE.1 hE.2.1 dX2_position_91 rfl (lv_at hl 2 rfl) ?_
    refine lv_iconst (v := iI (4)) hE.1 hE.2.1 dX2_position_92 (by decide) ?_
    refine lv_imul hE.1 hE.2.1 dX2_position_93 ?_
    refine x_top (y := iI (9216)) ((iI_mul (2304) (4)).trans (congrArg iI (by omega))) ?_
    refine lv_iload_n hE.1 hE.2.1 dX2_position_94 rfl (lv_at hl 1 rfl) ?_
    refine lv_iadd hE.1 hE.2.1 dX2_position_95 ?_
    obtain ⟨z8, hz8, ez8⟩ := iI_of (iI (9216) + iI (z5))
    refine x_top ez8 ?_
    refine lv_iconst (v := iI (4)) hE.1 hE.2.1 dX2_position_96 (by decide) ?_
    refine lv_imul hE.1 hE.2.1 dX2_position_97 ?_
    obtain ⟨z9, hz9, ez9⟩ := iI_of (iI (z8) * iI (4))
    refine x_top ez9 ?_
    refine lv_iload hE.1 hE.2.1 dX2_position_98 (lv_at hl 0 rfl) ?_
    refine lv_iadd hE.1 hE.2.1 dX2_position_100 ?_
    obtain ⟨z10, hz10, ez10⟩ := iI_of (iI (z9) + iI (z7))
    refine x_top ez10 ?_
    exact kr _ _ _ rfl ⟨z10, by omega, rfl⟩ dX2_position_101
  · skip
    refine lv_aload_n hE.1 hE.2.1 dX2_position_16 rfl (lv_at hl 2 rfl) ?_
    refine x_get (x := .ref (ad 57)) hE hK hP 56 (Nat.lt_of_lt_of_le (by decide) hNN) (xG_2 rfl) rfl hin2 1 (by decide) mw_421 rfl dX2_position_17 ?_
    obtain ⟨z11, hz11, ez11⟩ := iI_of (v 57 3)
    refine x_get (x := .int (v 57 3)) hE hK hP 57 (Nat.lt_of_lt_of_le (by decide) hNN) (xG_7 rfl) rfl hin7 3 (by decide) mw_307 rfl dX2_position_20 ?_
    refine x_top (y := iI (z11)) ez11 ?_
    refine lv_iconst (v := iI (1)) hE.1 hE.2.1 dX2_position_23 (by decide) ?_
    refine lv_iload_n hE.1 hE.2.1 dX2_position_24 rfl (lv_at hl 1 rfl) ?_
    refine lv_ishl hE.1 hE.2.1 dX2_position_25 ?_
    obtain ⟨z12, hz12, ez12⟩ := iI_of (iI (1) <<< (iI (z1) &&& 31))
    refine x_top ez12 ?_
    refine lv_iconst (v := iI (1)) hE.1 hE.2.1 dX2_position_26 (by decide) ?_
    refine lv_isub hE.1 hE.2.1 dX2_position_27 ?_
    obtain ⟨z13, hz13, ez13⟩ := iI_of (iI (z12) - iI (1))
    refine x_top ez13 ?_
    refine lv_iand hE.1 hE.2.1 dX2_position_28 ?_
    obtain ⟨z14, hz14, ez14⟩ := iI_of (iI (z11) &&& iI (z13))
    refine x_top ez14 ?_
    refine lv_istore_n (lv' := [(3, .int (iI (z14))), (2, .int (iI (2304))), (1, .int (iI (z1))), (0, .ref (ad 56))]) hE.1 hE.2.1 dX2_position_29 rfl hl (by decide) rfl (fun ls hl => ?_)
    refine lv_aload_n hE.1 hE.2.1 dX2_position_30 rfl (lv_at hl 3 rfl) ?_
    refine x_get (x := .ref (ad 57)) hE hK hP 56 (Nat.lt_of_lt_of_le (by decide) hNN) (xG_2 rfl) rfl hin2 1 (by decide) mw_421 rfl dX2_position_31 ?_
    refine x_get (x := .int (v 57 3)) hE hK hP 57 (Nat.lt_of_lt_of_le (by decide) hNN) (xG_7 rfl) rfl hin7 3 (by decide) mw_307 rfl dX2_position_34 ?_
    refine x_top (y := iI (z11)) ez11 ?_
    refine lv_iload_n hE.1 hE.2.1 dX2_position_37 rfl (lv_at hl 2 rfl) ?_
    refine lv_iconst (v := iI (1)) hE.1 hE.2.1 dX2_position_38 (by decide) ?_
    refine lv_iadd hE.1 hE.2.1 dX2_position_39 ?_
    obtain ⟨z15, hz15, ez15⟩ := iI_of (iI (z1) + iI (1))
    refine x_top ez15 ?_
    refine lv_ishr hE.1 hE.2.1 dX2_position_40 ?_
    obtain ⟨z16, hz16, ez16⟩ := iI_of (iI (z11) >>> (iI (z15) &&& 31))
    refine x_top ez16 ?_
    refine lv_iload_n hE.1 hE.2.1 dX2_position_41 rfl (lv_at hl 2 rfl) ?_
    refine lv_ishl hE.1 hE.2.1 dX2_position_42 ?_
    obtain ⟨z17, hz17, ez17⟩ := iI_of (iI (z16) <<< (iI (z1) &&& 31))
    refine x_top ez17 ?_
    refine lv_istore (lv' := [(4, .int (iI (z17))), (3, .int (iI (z14))), (2, .int (iI (2304))), (1, .int (iI (z1))), (0, .ref (ad 56))]) hE.1 hE.2.1 dX2_position_43 hl (by decide) rfl (fun ls hl => ?_)
    refine lv_iload_n hE.1 hE.2.1 dX2_position_45 rfl (lv_at hl 3 rfl) ?_
    refine lv_sipush (v := iI (256)) hE.1 hE.2.1 dX2_position_46 (by decide) ?_
    refine lv_imul hE.1 hE.2.1 dX2_position_49 ?_
    obtain ⟨z18, hz18, ez18⟩ := iI_of (iI (z1) * iI (256))
    refine x_top ez18 ?_
    refine lv_iload hE.1 hE.2.1 dX2_position_50 (lv_at hl 0 rfl) ?_
    refine lv_iload_n hE.1 hE.2.1 dX2_position_52 rfl (lv_at hl 1 rfl) ?_
    refine lv_ior hE.1 hE.2.1 dX2_position_53 ?_
    obtain ⟨z19, hz19, ez19⟩ := iI_of (iI (z17) ||| iI (z14))
    refine x_top ez19 ?_
    refine lv_iadd hE.1 hE.2.1 dX2_position_54 ?_
    obtain ⟨z20, hz20, ez20⟩ := iI_of (iI (z18) + iI (z19))
    refine x_top ez20 ?_
    refine lv_istore_n (lv' := [(2, .int (iI (z20))), (4, .int (iI (z17))), (3, .int (iI (z14))), (1, .int (iI (z1))), (0, .ref (ad 56))]) hE.1 hE.2.1 dX2_position_55 rfl hl (by decide) rfl (fun ls hl => ?_)
    refine lv_aload_n hE.1 hE.2.1 dX2_position_56 rfl (lv_at hl 4 rfl) ?_
    refine x_get (x := .ref (ad 3)) hE hK hP 56 (Nat.lt_of_lt_of_le (by decide) hNN) (xG_2 rfl) rfl hin2 0 (by decide) mw_420 rfl dX2_position_57 ?_
    obtain ⟨z21, hz21, ez21⟩ := iI_of (v 3 1)
    refine x_get (x := .int (v 3 1)) hE hK hP 3 (Nat.lt_of_lt_of_le (by decide) hNN) (xG_1 rfl) rfl hin1 1 (by decide) mw_185 rfl dX2_position_60 ?_
    refine x_top (y := iI (z21)) ez21 ?_
    refine lv_aload_n hE.1 hE.2.1 dX2_position_63 rfl (lv_at hl 4 rfl) ?_
    refine x_get (x := .ref (ad 57)) hE hK hP 56 (Nat.lt_of_lt_of_le (by decide) hNN) (xG_2 rfl) rfl hin2 1 (by decide) mw_421 rfl dX2_position_64 ?_
    refine lv_iconst (v := iI (0)) hE.1 hE.2.1 dX2_position_67 (by decide) ?_
    refine x_vp (nn := 1) (As := [.int (iI (0))]) (rest := [.int (iI (z21))]) hE (s_X7_silencesLeft_57 l D K ad mm N hNN v ar al hI  (0) (by omega)) wPre_blind (wPre_now hK hN hP) (x_recv hK hP 57 (Nat.lt_of_lt_of_le (by decide) hNN) (xG_7 rfl) rfl) rfl mw_1049 mw_801 mw_802 mw_117 mw_803 (by decide +kernel) ⟨by decide, by decide⟩ hl.1 rfl (Nat.le_of_ble_eq_true rfl) ⟨Nat.zero_le _, Nat.zero_le _⟩ dX2_position_68 (fun r22 hr22 => ?_)
    obtain ⟨z22, hz22, rfl⟩ := hr22
    refine lv_isub hE.1 hE.2.1 dX2_position_71 ?_
    obtain ⟨z23, hz23, ez23⟩ := iI_of (iI (z21) - iI (z22))
    refine x_top ez23 ?_
    refine lv_istore_n (lv' := [(3, .int (iI (z23))), (2, .int (iI (z20))), (4, .int (iI (z17))), (1, .int (iI (z1))), (0, .ref (ad 56))]) hE.1 hE.2.1 dX2_position_72 rfl hl (by decide) rfl (fun ls hl => ?_)
    refine lv_aload_n hE.1 hE.2.1 dX2_position_73 rfl (lv_at hl 4 rfl) ?_
    refine x_get (x := .ref (ad 3)) hE hK hP 56 (Nat.lt_of_lt_of_le (by decide) hNN) (xG_2 rfl) rfl hin2 0 (by decide) mw_420 rfl dX2_position_74 ?_
    refine x_get (x := .int (v 3 1)) hE hK hP 3 (Nat.lt_of_lt_of_le (by decide) hNN) (xG_1 rfl) rfl hin1 1 (by decide) mw_185 rfl dX2_position_77 ?_
    refine x_top (y := iI (z21)) ez21 ?_
    refine lv_aload_n hE.1 hE.2.1 dX2_position_80 rfl (lv_at hl 4 rfl) ?_
    refine x_get (x := .ref (ad 57)) hE hK hP 56 (Nat.lt_of_lt_of_le (by decide) hNN) (xG_2 rfl) rfl hin2 1 (by decide) mw_421 rfl dX2_position_81 ?_
    refine lv_iconst (v := iI (1)) hE.1 hE.2.1 dX2_position_84 (by decide) ?_
    refine x_vp (nn := 1) (As := [.int (iI (1))]) (rest := [.int (iI (z21))]) hE (s_X7_silencesLeft_57 l D K ad mm N hNN v ar al hI  (1) (by omega)) wPre_blind (wPre_now hK hN hP) (x_recv hK hP 57 (Nat.lt_of_lt_of_le (by decide) hNN) (xG_7 rfl) rfl) rfl mw_1049 mw_801 mw_802 mw_117 mw_803 (by decide +kernel) ⟨by decide, by decide⟩ hl.1 rfl (Nat.le_of_ble_eq_true rfl) ⟨Nat.zero_le _, Nat.zero_le _⟩ dX2_position_85 (fun r24 hr24 => ?_)
    obtain ⟨z24, hz24, rfl⟩ := hr24
    refine lv_isub hE.1 hE.2.1 dX2_position_88 ?_
    obtain ⟨z25, hz25, ez25⟩ := iI_of (iI (z21) - iI (z24))
    refine x_top ez25 ?_
    refine lv_istore (lv' := [(4, .int (iI (z25))), (3, .int (iI (z23))), (2, .int (iI (z20))), (1, .int (iI (z1))), (0, .ref (ad 56))]) hE.1 hE.2.1 dX2_position_89 hl (by decide) rfl (fun ls hl => ?_)
    refine lv_iload_n hE.1 hE.2.1 dX2_position_91 rfl (lv_at hl 2 rfl) ?_
    refine lv_iconst (v := iI (4)) hE.1 hE.2.1 dX2_position_92 (by decide) ?_
    refine lv_imul hE.1 hE.2.1 dX2_position_93 ?_
    obtain ⟨z26, hz26, ez26⟩ := iI_of (iI (z20) * iI (4))
    refine x_top ez26 ?_
    refine lv_iload_n hE.1 hE.2.1 dX2_position_94 rfl (lv_at hl 1 rfl) ?_
    refine lv_iadd hE.1 hE.2.1 dX2_position_95 ?_
    obtain ⟨z27, hz27, ez27⟩ := iI_of (iI (z26) + iI (z23))
    refine x_top ez27 ?_
    refine lv_iconst (v := iI (4)) hE.1 hE.2.1 dX2_position_96 (by decide) ?_
    refine lv_imul hE.1 hE.2.1 dX2_position_97 ?_
    obtain ⟨z28, hz28, ez28⟩ := iI_of (iI (z27) * iI (4))
    refine x_top ez28 ?_
    refine lv_iload hE.1 hE.2.1 dX2_position_98 (lv_at hl 0 rfl) ?_
    refine lv_iadd hE.1 hE.2.1 dX2_position_100 ?_
    obtain ⟨z29, hz29, ez29⟩ := iI_of (iI (z28) + iI (z25))
    refine x_top ez29 ?_
    exact kr _ _ _ rfl ⟨z29, by omega, rfl⟩ dX2_position_101

set_option maxHeartbeats 4000000 in
set_option maxRecDepth 100000 in
theorem s_X7_teller_57 (l : Launch) (D : va_G) (K : Nat → ClassId) (ad : Nat → Nat) (mm : Option Nat) (N : Nat) (hNN : 132 ≤ N) (v ar : sI) (al : sL) (hI : XI v) : Met l yX7_teller (wM yX7_teller cX7_teller 2 (some .int)) (rmD 0) (va_Pc [.ref (ad 57)] (wPre D K ad (xG ad K mm) N v ar al)) (vp_Si (fun r => ∃ z : Int, (0 ≤ z ∧ z ≤ 2) ∧ r = iI z)) 0 0 (fun _ => False) := by
  refine s_metP (by decide) (Nat.le_of_ble_eq_true rfl) ?_
  intro p e s m below meth c ls args Q hE hB hl kr
  have hE : CallFix p m c cX7_teller 2 s args tbG "TaleCourt$Telling" := hE
  obtain ⟨hP, hK, hN⟩ := hB
  have hl : lv_has ls 2 [(0, .ref (ad 57))] := hl
  refine lv_aload_n hE.1 hE.2.1 dX7_teller_0 rfl (lv_at hl 0 rfl) ?_
  refine x_get (x := .ref (ad 3)) hE hK hP 57 (Nat.lt_of_lt_of_le (by decide) hNN) (xG_7 rfl) rfl hin7 6 (by decide) mw_315 rfl dX7_teller_1 ?_
  obtain ⟨z1, hz1, ez1⟩ := XI_get hI 3 0 0 3 (by decide)
  refine x_get (x := .int (v 3 0)) hE hK hP 3 (Nat.lt_of_lt_of_le (by decide) hNN) (xG_1 rfl) rfl hin1 0 (by decide) mw_179 rfl dX7_teller_4 ?_
  refine x_top (y := iI (z1)) ez1 ?_
  refine lv_istore_n (lv' := [(1, .int (iI (z1))), (0, .ref (ad 57))]) hE.1 hE.2.1 dX7_teller_7 rfl hl (by decide) rfl (fun ls hl => ?_)
  refine lv_iload_n hE.1 hE.2.1 dX7_teller_8 rfl (lv_at hl 0 rfl) ?_
  refine s_if_le (a := z1) (tgt := 33) hE.1 hE.2.1 (by omega) dX7_teller_9 (by decide) (fun c2 => ?_) (fun c2 => ?_)
  · skip
    refine lv_iconst (v := iI (0)) hE.1 hE.2.1 dX7_teller_33 (by decide) ?_
    exact kr _ _ _ rfl ⟨0, by omega, rfl⟩ dX7_teller_34
  · skip
    refine lv_iload_n hE.1 hE.2.1 dX7_teller_12 rfl (lv_at hl 0 rfl) ?_
    refine lv_iconst (v := iI (3)) hE.1 hE.2.1 dX7_teller_13 (by decide) ?_
    refine s_icmp_gt (a := z1) (b := 3) (tgt := 33) hE.1 hE.2.1 (by omega) (by omega) dX7_teller_14 (by decide) (fun c3 => False.elim (by omega)) (fun _ => ?_)
    refine lv_aload_n hE.1 hE.2.1 dX7_teller_17 rfl (lv_at hl 1 rfl) ?_
    obtain ⟨z4, hz4, ez4⟩ := XI_get hI 57 2 0 18 (by decide)
    refine x_get (x := .int (v 57 2)) hE hK hP 57 (Nat.lt_of_lt_of_le (by decide) hNN) (xG_7 rfl) rfl hin7 2 (by decide) mw_301 rfl dX7_teller_18 ?_
    refine x_top (y := iI (z4)) ez4 ?_
    refine s_if_lt (a := z4) (tgt := 33) hE.1 hE.2.1 (by omega) dX7_teller_21 (by decide) (fun c5 => False.elim (by omega)) (fun _ => ?_)
    refine lv_aload_n hE.1 hE.2.1 dX7_teller_24 rfl (lv_at hl 1 rfl) ?_
    refine x_get (x := .int (v 57 2)) hE hK hP 57 (Nat.lt_of_lt_of_le (by decide) hNN) (xG_7 rfl) rfl hin7 2 (by decide) mw_301 rfl dX7_teller_25 ?_
    refine x_top (y := iI (z4)) ez4 ?_
    refine lv_iload_n hE.1 hE.2.1 dX7_teller_28 rfl (lv_at hl 0 rfl) ?_
    refine lv_irem hE.1 hE.2.1 dX7_teller_29 (iI_ne0 (by omega) (by omega)) ?_
    obtain ⟨z6, hz6⟩ : ∃ z : Int, z = (z4) % (z1) ∧ 0 ≤ z ∧ z < z1 := ⟨_, rfl, Int.emod_nonneg _ (by omega), Int.emod_lt_of_pos _ (by omega)⟩
    refine x_top (y := iI (z6)) ((iI_rem (by omega) (by omega)).trans (congrArg iI hz6.1.symm)) ?_
    replace hz6 := hz6.2
    refine lv_goto (tgt := 34) hE.1 hE.2.1 dX7_teller_30 (by decide) ?_
    exact kr _ _ _ rfl ⟨z6, by omega, rfl⟩ dX7_teller_34

set_option maxHeartbeats 4000000 in
set_option maxRecDepth 100000 in
theorem s_X7_joined_57 (l : Launch) (D : va_G) (K : Nat → ClassId) (ad : Nat → Nat) (mm : Option Nat) (N : Nat) (hNN : 132 ≤ N) (v ar : sI) (al : sL) (hI : XI v) : Met l yX7_joined (wM yX7_joined cX7_joined 1 (some .int)) (rmD 0) (va_Pc [.ref (ad 57)] (wPre D K ad (xG ad K mm) N v ar al)) (vp_Si (fun r => ∃ z : Int, (-2147483648 ≤ z ∧ z ≤ 2147483647) ∧ r = iI z)) 0 0 (fun _ => False) := by
  refine s_metP (by decide) (Nat.le_of_ble_eq_true rfl) ?_
  intro p e s m below meth c ls args Q hE hB hl kr
  have hE : CallFix p m c cX7_joined 1 s args tbG "TaleCourt$Telling" := hE
  obtain ⟨hP, hK, hN⟩ := hB
  have hl : lv_has ls 1 [(0, .ref (ad 57))] := hl
  refine lv_aload_n hE.1 hE.2.1 dX7_joined_0 rfl (lv_at hl 0 rfl) ?_
  obtain ⟨z1, hz1, ez1⟩ := iI_of (v 57 4)
  refine x_get (x := .int (v 57 4)) hE hK hP 57 (Nat.lt_of_lt_of_le (by decide) hNN) (xG_7 rfl) rfl hin7 4 (by decide) mw_309 rfl dX7_joined_1 ?_
  refine x_top (y := iI (z1)) ez1 ?_
  refine s_if_lt (a := z1) (tgt := 31) hE.1 hE.2.1 (by omega) dX7_joined_4 (by decide) (fun c2 => ?_) (fun c2 => ?_)
  · skip
    refine lv_aload_n hE.1 hE.2.1 dX7_joined_31 rfl (lv_at hl 0 rfl) ?_
    refine x_get (x := .ref (ad 3)) hE hK hP 57 (Nat.lt_of_lt_of_le (by decide) hNN) (xG_7 rfl) rfl hin7 6 (by decide) mw_315 rfl dX7_joined_32 ?_
    obtain ⟨z3, hz3, ez3⟩ := iI_of (v 3 7)
    refine x_get (x := .int (v 3 7)) hE hK hP 3 (Nat.lt_of_lt_of_le (by decide) hNN) (xG_1 rfl) rfl hin1 7 (by decide) mw_206 rfl dX7_joined_35 ?_
    refine x_top (y := iI (z3)) ez3 ?_
    exact kr _ _ _ rfl ⟨z3, by omega, rfl⟩ dX7_joined_38
  · skip
    refine lv_aload_n hE.1 hE.2.1 dX7_joined_7 rfl (lv_at hl 0 rfl) ?_
    refine x_get (x := .int (v 57 4)) hE hK hP 57 (Nat.lt_of_lt_of_le (by decide) hNN) (xG_7 rfl) rfl hin7 4 (by decide) mw_309 rfl dX7_joined_8 ?_
    refine x_top (y := iI (z1)) ez1 ?_
    refine lv_bipush (v := iI (9)) hE.1 hE.2.1 dX7_joined_11 (by decide) ?_
    refine s_icmp_ge (a := z1) (b := 9) (tgt := 31) hE.1 hE.2.1 (by omega) (by omega) dX7_joined_13 (by decide) (fun c4 => ?_) (fun c4 => ?_)
    · skip
      refine lv_aload_n hE.1 hE.2.1 dX7_joined_31 rfl (lv_at hl 0 rfl) ?_
      refine x_get (x := .ref (ad 3)) hE hK hP 57 (Nat.lt_of_lt_of_le (by decide) hNN) (xG_7 rfl) rfl hin7 6 (by decide) mw_315 rfl dX7_joined_32 ?_
      obtain ⟨z5, hz5, ez5⟩ := iI_of (v 3 7)
      refine x_get (x := .int (v 3 7)) hE hK hP 3 (Nat.lt_of_lt_of_le (by decide) hNN) (xG_1 rfl) rfl hin1 7 (by decide) mw_206 rfl dX7_joined_35 ?_
      refine x_top (y := iI (z5)) ez5 ?_
      exact kr _ _ _ rfl ⟨z5, by omega, rfl⟩ dX7_joined_38
    · skip
      refine lv_aload_n hE.1 hE.2.1 dX7_joined_16 rfl (lv_at hl 0 rfl) ?_
      refine x_get (x := .ref (ad 3)) hE hK hP 57 (Nat.lt_of_lt_of_le (by decide) hNN) (xG_7 rfl) rfl hin7 6 (by decide) mw_315 rfl dX7_joined_17 ?_
      refine x_get (x := .ref (ad 8)) hE hK hP 3 (Nat.lt_of_lt_of_le (by decide) hNN) (xG_1 rfl) rfl hin1 15 (by decide) mw_234 rfl dX7_joined_20 ?_
      refine lv_aload_n hE.1 hE.2.1 dX7_joined_23 rfl (lv_at hl 0 rfl) ?_
      refine x_get (x := .int (v 57 4)) hE hK hP 57 (Nat.lt_of_lt_of_le (by decide) hNN) (xG_7 rfl) rfl hin7 4 (by decide) mw_309 rfl dX7_joined_24 ?_
      refine x_top (y := iI (z1)) ez1 ?_
      refine x_iald (j := iI (z1)) hE hK hP 8 (Nat.lt_of_lt_of_le (by decide) hNN) (xG_10 rfl) (iI_in (n := 9) (by omega)) dX7_joined_27 ?_
      obtain ⟨z7, hz7, ez7⟩ := iI_of (ar 8 (iI (z1)).toNatClampNeg)
      refine x_top ez7 ?_
      refine lv_goto (tgt := 38) hE.1 hE.2.1 dX7_joined_28 (by decide) ?_
      exact kr _ _ _ rfl ⟨z7, by omega, rfl⟩ dX7_joined_38

set_option maxHeartbeats 4000000 in
set_option maxRecDepth 100000 in
theorem s_X7_playable_57 (l : Launch) (D : va_G) (K : Nat → ClassId) (ad : Nat → Nat) (mm : Option Nat) (N : Nat) (hNN : 132 ≤ N) (v ar : sI) (al : sL) (hI : XI v) : Met l yX7_playable (wM yX7_playable cX7_playable 2 (some .int)) (rmD 1) (va_Pc [.ref (ad 57)] (wPre D K ad (xG ad K mm) N v ar al)) (vp_Si (fun r => ∃ z : Int, (-2147483648 ≤ z ∧ z ≤ 2147483647) ∧ r = iI z)) 0 0 (fun _ => False) := by
  refine s_metP (by decide) (Nat.le_of_ble_eq_true rfl) ?_
  intro p e s m below meth c ls args Q hE hB hl kr
  have hE : CallFix p m c cX7_playable 2 s args tbG "TaleCourt$Telling" := hE
  obtain ⟨hP, hK, hN⟩ := hB
  have hl : lv_has ls 2 [(0, .ref (ad 57))] := hl
  refine lv_aload_n hE.1 hE.2.1 dX7_playable_0 rfl (lv_at hl 0 rfl) ?_
  obtain ⟨z1, hz1, ez1⟩ := iI_of (v 57 3)
  refine x_get (x := .int (v 57 3)) hE hK hP 57 (Nat.lt_of_lt_of_le (by decide) hNN) (xG_7 rfl) rfl hin7 3 (by decide) mw_305 rfl dX7_playable_1 ?_
  refine x_top (y := iI (z1)) ez1 ?_
  refine lv_aload_n hE.1 hE.2.1 dX7_playable_4 rfl (lv_at hl 0 rfl) ?_
  obtain ⟨z2, hz2, ez2⟩ := iI_of (v 57 8)
  refine x_get (x := .int (v 57 8)) hE hK hP 57 (Nat.lt_of_lt_of_le (by decide) hNN) (xG_7 rfl) rfl hin7 8 (by decide) mw_317 rfl dX7_playable_5 ?_
  refine x_top (y := iI (z2)) ez2 ?_
  refine lv_ior hE.1 hE.2.1 dX7_playable_8 ?_
  obtain ⟨z3, hz3, ez3⟩ := iI_of (iI (z1) ||| iI (z2))
  refine x_top ez3 ?_
  refine lv_aload_n hE.1 hE.2.1 dX7_playable_9 rfl (lv_at hl 0 rfl) ?_
  refine x_get (x := .ref (ad 3)) hE hK hP 57 (Nat.lt_of_lt_of_le (by decide) hNN) (xG_7 rfl) rfl hin7 6 (by decide) mw_315 rfl dX7_playable_10 ?_
  refine x_get (x := .ref (ad 10)) hE hK hP 3 (Nat.lt_of_lt_of_le (by decide) hNN) (xG_1 rfl) rfl hin1 17 (by decide) mw_240 rfl dX7_playable_13 ?_
  refine lv_aload_n hE.1 hE.2.1 dX7_playable_16 rfl (lv_at hl 0 rfl) ?_
  refine x_vp (nn := 0) (As := []) (rest := [.ref (ad 10), .int (iI (z3))]) hE (s_X7_teller_57 l D K ad mm N hNN v ar al hI  ) wPre_blind (wPre_now hK hN hP) (x_recv hK hP 57 (Nat.lt_of_lt_of_le (by decide) hNN) (xG_7 rfl) rfl) rfl mw_758 mw_759 mw_760 mw_117 mw_761 (by decide +kernel) ⟨by decide, by decide⟩ hl.1 rfl (Nat.le_of_ble_eq_true rfl) ⟨Nat.zero_le _, Nat.zero_le _⟩ dX7_playable_17 (fun r4 hr4 => ?_)
  obtain ⟨z4, hz4, rfl⟩ := hr4
  refine x_iald (j := iI (z4)) hE hK hP 10 (Nat.lt_of_lt_of_le (by decide) hNN) (xG_10 rfl) (iI_in (n := 3) (by omega)) dX7_playable_20 ?_
  obtain ⟨z6, hz6, ez6⟩ := iI_of (ar 10 (iI (z4)).toNatClampNeg)
  refine x_top ez6 ?_
  refine lv_ior hE.1 hE.2.1 dX7_playable_21 ?_
  obtain ⟨z7, hz7, ez7⟩ := iI_of (iI (z3) ||| iI (z6))
  refine x_top ez7 ?_
  refine lv_istore_n (lv' := [(1, .int (iI (z7))), (0, .ref (ad 57))]) hE.1 hE.2.1 dX7_playable_22 rfl hl (by decide) rfl (fun ls hl => ?_)
  refine lv_aload_n hE.1 hE.2.1 dX7_playable_23 rfl (lv_at hl 1 rfl) ?_
  obtain ⟨z8, hz8, ez8⟩ := XI_get hI 57 2 0 18 (by decide)
  refine x_get (x := .int (v 57 2)) hE hK hP 57 (Nat.lt_of_lt_of_le (by decide) hNN) (xG_7 rfl) rfl hin7 2 (by decide) mw_301 rfl dX7_playable_24 ?_
  refine x_top (y := iI (z8)) ez8 ?_
  refine lv_iconst (v := iI (1)) hE.1 hE.2.1 dX7_playable_27 (by decide) ?_
  refine lv_iand hE.1 hE.2.1 dX7_playable_28 ?_
  obtain ⟨z9, hz9, ez9⟩ := iI_and (iI (z8)) (iI (1)) 1 (by decide)
  refine x_top ez9 ?_
  refine s_if_ne (a := z9) (tgt := 42) hE.1 hE.2.1 (by omega) dX7_playable_29 (by decide) (fun c10 => ?_) (fun c10 => ?_)
  · skip
    refine lv_aload_n hE.1 hE.2.1 dX7_playable_42 rfl (lv_at hl 1 rfl) ?_
    refine x_vp (nn := 0) (As := []) (rest := []) hE (s_X7_joined_57 l D K ad mm N hNN v ar al hI  ) wPre_blind (wPre_now hK hN hP) (x_recv hK hP 57 (Nat.lt_of_lt_of_le (by decide) hNN) (xG_7 rfl) rfl) rfl mw_746 mw_748 mw_16 mw_117 mw_749 (by decide +kernel) ⟨by decide, by decide⟩ hl.1 rfl (Nat.le_of_ble_eq_true rfl) ⟨Nat.zero_le _, Nat.zero_le _⟩ dX7_playable_43 (fun r11 hr11 => ?_)
    obtain ⟨z11, hz11, rfl⟩ := hr11
    refine lv_iload_n hE.1 hE.2.1 dX7_playable_46 rfl (lv_at hl 0 rfl) ?_
    refine lv_iconst (v := iI (-1)) hE.1 hE.2.1 dX7_playable_47 (by decide) ?_
    refine lv_ixor hE.1 hE.2.1 dX7_playable_48 ?_
    obtain ⟨z12, hz12, ez12⟩ := iI_of (iI (z7) ^^^ iI (-1))
    refine x_top ez12 ?_
    refine lv_iand hE.1 hE.2.1 dX7_playable_49 ?_
    obtain ⟨z13, hz13, ez13⟩ := iI_of (iI (z11) &&& iI (z12))
    refine x_top ez13 ?_
    exact kr _ _ _ rfl ⟨z13, by omega, rfl⟩ dX7_playable_50
  · skip
    refine lv_iload_n hE.1 hE.2.1 dX7_playable_32 rfl (lv_at hl 0 rfl) ?_
    refine lv_aload_n hE.1 hE.2.1 dX7_playable_33 rfl (lv_at hl 1 rfl) ?_
    refine x_get (x := .ref (ad 3)) hE hK hP 57 (Nat.lt_of_lt_of_le (by decide) hNN) (xG_7 rfl) rfl hin7 6 (by decide) mw_315 rfl dX7_playable_34 ?_
    obtain ⟨z14, hz14, ez14⟩ := iI_of (v 3 8)
    refine x_get (x := .int (v 3 8)) hE hK hP 3 (Nat.lt_of_lt_of_le (by decide) hNN) (xG_1 rfl) rfl hin1 8 (by decide) mw_210 rfl dX7_playable_37 ?_
    refine x_top (y := iI (z14)) ez14 ?_
    refine lv_ior hE.1 hE.2.1 dX7_playable_40 ?_
    obtain ⟨z15, hz15, ez15⟩ := iI_of (iI (z7) ||| iI (z14))
    refine x_top ez15 ?_
    refine lv_istore_n (lv' := [(1, .int (iI (z15))), (0, .ref (ad 57))]) hE.1 hE.2.1 dX7_playable_41 rfl hl (by decide) rfl (fun ls hl => ?_)
    refine lv_aload_n hE.1 hE.2.1 dX7_playable_42 rfl (lv_at hl 1 rfl) ?_
    refine x_vp (nn := 0) (As := []) (rest := []) hE (s_X7_joined_57 l D K ad mm N hNN v ar al hI  ) wPre_blind (wPre_now hK hN hP) (x_recv hK hP 57 (Nat.lt_of_lt_of_le (by decide) hNN) (xG_7 rfl) rfl) rfl mw_746 mw_748 mw_16 mw_117 mw_749 (by decide +kernel) ⟨by decide, by decide⟩ hl.1 rfl (Nat.le_of_ble_eq_true rfl) ⟨Nat.zero_le _, Nat.zero_le _⟩ dX7_playable_43 (fun r16 hr16 => ?_)
    obtain ⟨z16, hz16, rfl⟩ := hr16
    refine lv_iload_n hE.1 hE.2.1 dX7_playable_46 rfl (lv_at hl 0 rfl) ?_
    refine lv_iconst (v := iI (-1)) hE.1 hE.2.1 dX7_playable_47 (by decide) ?_
    refine lv_ixor hE.1 hE.2.1 dX7_playable_48 ?_
    obtain ⟨z17, hz17, ez17⟩ := iI_of (iI (z15) ^^^ iI (-1))
    refine x_top ez17 ?_
    refine lv_iand hE.1 hE.2.1 dX7_playable_49 ?_
    obtain ⟨z18, hz18, ez18⟩ := iI_of (iI (z16) &&& iI (z17))
    refine x_top ez18 ?_
    exact kr _ _ _ rfl ⟨z18, by omega, rfl⟩ dX7_playable_50

set_option maxHeartbeats 4000000 in
set_option maxRecDepth 100000 in
theorem s_X7_hasSilence_57 (l : Launch) (D : va_G) (K : Nat → ClassId) (ad : Nat → Nat) (mm : Option Nat) (N : Nat) (hNN : 132 ≤ N) (v ar : sI) (al : sL) (hI : XI v) : Met l yX7_hasSilence (wM yX7_hasSilence cX7_hasSilence 1 (some .boolean)) (rmD 1) (va_Pc [.ref (ad 57)] (wPre D K ad (xG ad K mm) N v ar al)) (vp_Si (fun r => ∃ z : Int, (0 ≤ z ∧ z ≤ 1) ∧ r = iI z)) 0 0 (fun _ => False) := by
  refine s_metP (by decide) (Nat.le_of_ble_eq_true rfl) ?_
  intro p e s m below meth c ls args Q hE hB hl kr
  have hE : CallFix p m c cX7_hasSilence 1 s args tbG "TaleCourt$Telling" := hE
  obtain ⟨hP, hK, hN⟩ := hB
  have hl : lv_has ls 1 [(0, .ref (ad 57))] := hl
  refine lv_aload_n hE.1 hE.2.1 dX7_hasSilence_0 rfl (lv_at hl 0 rfl) ?_
  refine lv_aload_n hE.1 hE.2.1 dX7_hasSilence_1 rfl (lv_at hl 0 rfl) ?_
  refine x_vp (nn := 0) (As := []) (rest := [.ref (ad 57)]) hE (s_X7_teller_57 l D K ad mm N hNN v ar al hI  ) wPre_blind (wPre_now hK hN hP) (x_recv hK hP 57 (Nat.lt_of_lt_of_le (by decide) hNN) (xG_7 rfl) rfl) rfl mw_758 mw_759 mw_760 mw_117 mw_761 (by decide +kernel) ⟨by decide, by decide⟩ hl.1 rfl (Nat.le_of_ble_eq_true rfl) ⟨Nat.zero_le _, Nat.zero_le _⟩ dX7_hasSilence_2 (fun r1 hr1 => ?_)
  obtain ⟨z1, hz1, rfl⟩ := hr1
  refine x_vp (nn := 1) (As := [.int (iI (z1))]) (rest := []) hE (s_X7_silencesLeft_57 l D K ad mm N hNN v ar al hI  (z1) (by omega)) wPre_blind (wPre_now hK hN hP) (x_recv hK hP 57 (Nat.lt_of_lt_of_le (by decide) hNN) (xG_7 rfl) rfl) rfl mw_800 mw_801 mw_802 mw_117 mw_803 (by decide +kernel) ⟨by decide, by decide⟩ hl.1 rfl (Nat.le_of_ble_eq_true rfl) ⟨Nat.zero_le _, Nat.zero_le _⟩ dX7_hasSilence_5 (fun r2 hr2 => ?_)
  obtain ⟨z2, hz2, rfl⟩ := hr2
  refine s_if_le (a := z2) (tgt := 15) hE.1 hE.2.1 (by omega) dX7_hasSilence_8 (by decide) (fun c3 => ?_) (fun c3 => ?_)
  · skip
    refine lv_iconst (v := iI (0)) hE.1 hE.2.1 dX7_hasSilence_15 (by decide) ?_
    exact kr _ _ _ (nar01 (by omega)) ⟨0, by omega, rfl⟩ dX7_hasSilence_16
  · skip
    refine lv_iconst (v := iI (1)) hE.1 hE.2.1 dX7_hasSilence_11 (by decide) ?_
    refine lv_goto (tgt := 16) hE.1 hE.2.1 dX7_hasSilence_12 (by decide) ?_
    exact kr _ _ _ (nar01 (by omega)) ⟨1, by omega, rfl⟩ dX7_hasSilence_16

theorem dX2_movesNow_0 : decode cX2_movesNow 0 = .ok (.aload_n 0, 1) := by decide +kernel
theorem dX2_movesNow_1 : decode cX2_movesNow 1 = .ok (.getfield 24, 3) := by decide +kernel
theorem dX2_movesNow_4 : decode cX2_movesNow 4 = .ok (.invokevirtual 73, 3) := by decide +kernel
theorem dX2_movesNow_7 : decode cX2_movesNow 7 = .ok (.aload_n 0, 1) := by decide +kernel
theorem dX2_movesNow_8 : decode cX2_movesNow 8 = .ok (.getfield 24, 3) := by decide +kernel
theorem dX2_movesNow_11 : decode cX2_movesNow 11 = .ok (.invokevirtual 76, 3) := by decide +kernel
theorem dX2_movesNow_14 : decode cX2_movesNow 14 = .ok (.ifCond .eq 9, 3) := by decide +kernel
theorem dX2_movesNow_17 : decode cX2_movesNow 17 = .ok (.sipush 512, 3) := by decide +kernel
theorem dX2_movesNow_20 : decode cX2_movesNow 20 = .ok (.goto 4, 3) := by decide +kernel
theorem dX2_movesNow_23 : decode cX2_movesNow 23 = .ok (.iconst 0, 1) := by decide +kernel
theorem dX2_movesNow_24 : decode cX2_movesNow 24 = .ok (.ior, 1) := by decide +kernel
theorem dX2_movesNow_25 : decode cX2_movesNow 25 = .ok (.ireturn, 1) := by decide +kernel
set_option maxHeartbeats 4000000 in
set_option maxRecDepth 100000 in
theorem s_X2_movesNow_56 (l : Launch) (D : va_G) (K : Nat → ClassId) (ad : Nat → Nat) (mm : Option Nat) (N : Nat) (hNN : 132 ≤ N) (v ar : sI) (al : sL) (hI : XI v) : Met l yX2_movesNow (wM yX2_movesNow cX2_movesNow 1 (some .int)) (rmD 2) (va_Pc [.ref (ad 56)] (wPre D K ad (xG ad K mm) N v ar al)) (vp_Si (fun r => ∃ z : Int, (-2147483648 ≤ z ∧ z ≤ 2147483647) ∧ r = iI z)) 0 0 (fun _ => False) := by
  refine s_metP (by decide) (Nat.le_of_ble_eq_true rfl) ?_
  intro p e s m below meth c ls args Q hE hB hl kr
  have hE : CallFix p m c cX2_movesNow 1 s args tbG "TaleCourt$Game" := hE
  obtain ⟨hP, hK, hN⟩ := hB
  have hl : lv_has ls 1 [(0, .ref (ad 56))] := hl
  refine lv_aload_n hE.1 hE.2.1 dX2_movesNow_0 rfl (lv_at hl 0 rfl) ?_
  refine x_get (x := .ref (ad 57)) hE hK hP 56 (Nat.lt_of_lt_of_le (by decide) hNN) (xG_2 rfl) rfl hin2 1 (by decide) mw_421 rfl dX2_movesNow_1 ?_
  refine x_vp (nn := 0) (As := []) (rest := []) hE (s_X7_playable_57 l D K ad mm N hNN v ar al hI  ) wPre_blind (wPre_now hK hN hP) (x_recv hK hP 57 (Nat.lt_of_lt_of_le (by decide) hNN) (xG_7 rfl) rfl) rfl mw_1054 mw_846 mw_847 mw_117 mw_848 (by decide +kernel) ⟨by decide, by decide⟩ hl.1 rfl (Nat.le_of_ble_eq_true rfl) ⟨Nat.zero_le _, Nat.zero_le _⟩ dX2_movesNow_4 (fun r1 hr1 => ?_)
  obtain ⟨z1, hz1, rfl⟩ := hr1
  refine lv_aload_n hE.1 hE.2.1 dX2_movesNow_7 rfl (lv_at hl 0 rfl) ?_
  refine x_get (x := .ref (ad 57)) hE hK hP 56 (Nat.lt_of_lt_of_le (by decide) hNN) (xG_2 rfl) rfl hin2 1 (by decide) mw_421 rfl dX2_movesNow_8 ?_
  refine x_vp (nn := 0) (As := []) (rest := [.int (iI (z1))]) hE (s_X7_hasSilence_57 l D K ad mm N hNN v ar al hI  ) wPre_blind (wPre_now hK hN hP) (x_recv hK hP 57 (Nat.lt_of_lt_of_le (by decide) hNN) (xG_7 rfl) rfl) rfl mw_1055 mw_797 mw_798 mw_117 mw_799 (by decide +kernel) ⟨by decide, by decide⟩ hl.1 rfl (Nat.le_of_ble_eq_true rfl) ⟨Nat.zero_le _, Nat.zero_le _⟩ dX2_movesNow_11 (fun r2 hr2 => ?_)
  obtain ⟨z2, hz2, rfl⟩ := hr2
  refine s_if_eq (a := z2) (tgt := 23) hE.1 hE.2.1 (by omega) dX2_movesNow_14 (by decide) (fun c3 => ?_) (fun c3 => ?_)
  · skip
    refine lv_iconst (v := iI (0)) hE.1 hE.2.1 dX2_movesNow_23 (by decide) ?_
    refine lv_ior hE.1 hE.2.1 dX2_movesNow_24 ?_
    obtain ⟨z4, hz4, ez4⟩ := iI_of (iI (z1) ||| iI (0))
    refine x_top ez4 ?_
    exact kr _ _ _ rfl ⟨z4, by omega, rfl⟩ dX2_movesNow_25
  · skip
    refine lv_sipush (v := iI (512)) hE.1 hE.2.1 dX2_movesNow_17 (by decide) ?_
    refine lv_goto (tgt := 24) hE.1 hE.2.1 dX2_movesNow_20 (by decide) ?_
    refine lv_ior hE.1 hE.2.1 dX2_movesNow_24 ?_
    obtain ⟨z5, hz5, ez5⟩ := iI_of (iI (z1) ||| iI (512))
    refine x_top ez5 ?_
    exact kr _ _ _ rfl ⟨z5, by omega, rfl⟩ dX2_movesNow_25

set_option maxHeartbeats 4000000 in
set_option maxRecDepth 100000 in
theorem s_X7_hasRoom_57 (l : Launch) (D : va_G) (K : Nat → ClassId) (ad : Nat → Nat) (mm : Option Nat) (N : Nat) (hNN : 132 ≤ N) (v ar : sI) (al : sL) (hI : XI v) (w_1 : Int) (hw_1 : 0 ≤ w_1 ∧ w_1 ≤ 18) (ew_1 : v 57 2 = iI w_1) : Met l yX7_hasRoom (wM yX7_hasRoom cX7_hasRoom 1 (some .boolean)) (rmD 0) (va_Pc [.ref (ad 57)] (wPre D K ad (xG ad K mm) N v ar al)) (vp_Si (fun r => ∃ z : Int, (z = 0 ∨ (z = 1 ∧ 0 ≤ w_1 ∧ w_1 ≤ 17)) ∧ r = iI z)) 0 0 (fun _ => False) := by
  refine s_metP (by decide) (Nat.le_of_ble_eq_true rfl) ?_
  intro p e s m below meth c ls args Q hE hB hl kr
  have hE : CallFix p m c cX7_hasRoom 1 s args tbG "TaleCourt$Telling" := hE
  obtain ⟨hP, hK, hN⟩ := hB
  have hl : lv_has ls 1 [(0, .ref (ad 57))] := hl
  refine lv_aload_n hE.1 hE.2.1 dX7_hasRoom_0 rfl (lv_at hl 0 rfl) ?_
  refine x_get (x := .int (v 57 2)) hE hK hP 57 (Nat.lt_of_lt_of_le (by decide) hNN) (xG_7 rfl) rfl hin7 2 (by decide) mw_301 rfl dX7_hasRoom_1 ?_
  refine x_top (y := iI (w_1)) ew_1 ?_
  refine s_if_lt (a := w_1) (tgt := 20) hE.1 hE.2.1 (by omega) dX7_hasRoom_4 (by decide) (fun c1 => False.elim (by omega)) (fun _ => ?_)
  refine lv_aload_n hE.1 hE.2.1 dX7_hasRoom_7 rfl (lv_at hl 0 rfl) ?_
  refine x_get (x := .int (v 57 2)) hE hK hP 57 (Nat.lt_of_lt_of_le (by decide) hNN) (xG_7 rfl) rfl hin7 2 (by decide) mw_301 rfl dX7_hasRoom_8 ?_
  refine x_top (y := iI (w_1)) ew_1 ?_
  refine lv_bipush (v := iI (18)) hE.1 hE.2.1 dX7_hasRoom_11 (by decide) ?_
  refine s_icmp_ge (a := w_1) (b := 18) (tgt := 20) hE.1 hE.2.1 (by omega) (by omega) dX7_hasRoom_13 (by decide) (fun c2 => ?_) (fun c2 => ?_)
  · skip
    refine lv_iconst (v := iI (0)) hE.1 hE.2.1 dX7_hasRoom_20 (by decide) ?_
    exact kr _ _ _ (nar01 (by omega)) ⟨0, by omega, rfl⟩ dX7_hasRoom_21
  · skip
    refine lv_iconst (v := iI (1)) hE.1 hE.2.1 dX7_hasRoom_16 (by decide) ?_
    refine lv_goto (tgt := 21) hE.1 hE.2.1 dX7_hasRoom_17 (by decide) ?_
    exact kr _ _ _ (nar01 (by omega)) ⟨1, by omega, rfl⟩ dX7_hasRoom_21

set_option maxHeartbeats 4000000 in
set_option maxRecDepth 100000 in
theorem s_X7_remember_57 (l : Launch) (D : va_G) (K : Nat → ClassId) (ad : Nat → Nat) (mm : Option Nat) (N : Nat) (hNN : 132 ≤ N) (v ar : sI) (al : sL) (hI : XI v) (w_1 : Int) (hw_1 : 0 ≤ w_1 ∧ w_1 ≤ 17) (ew_1 : v 57 2 = iI w_1) (z_1 : Int) (hz_1 : -2147483648 ≤ z_1 ∧ z_1 ≤ 2147483647) : Met l yX7_remember (wM yX7_remember cX7_remember 2 none) (rmD 0) (va_Pc [.ref (ad 57), .int (iI (z_1))] (wPre D K ad (xG ad K mm) N v ar al)) (va_Qv (fun u : sT => XI u.1 ∧ (∀ i j : Nat, (i, j) ∉ ([] : List (Nat × Nat)) → u.1 i j = v i j)) (wB D ad (xG ad K mm) N) (inW ad N)) 0 0 (inW ad N) := by
  refine s_metV (by decide) (Nat.le_of_ble_eq_true rfl) ?_
  intro p e s m below meth c ls args Q hE hB hl kr
  have hE : CallFix p m c cX7_remember 2 s args tbG "TaleCourt$Telling" := hE
  obtain ⟨hP, hK, hN⟩ := hB
  have hS : va_S (inW ad N) s.heap s.heap [] := va_S.rf
  have hl : lv_has ls 2 [(0, .ref (ad 57)), (1, .int (iI (z_1)))] := hl
  refine lv_aload_n hE.1 hE.2.1 dX7_remember_0 rfl (lv_at hl 0 rfl) ?_
  refine x_get (x := .ref (ad 58)) hE hK hP 57 (Nat.lt_of_lt_of_le (by decide) hNN) (xG_7 rfl) rfl hin7 0 (by decide) mw_295 rfl dX7_remember_1 ?_
  refine lv_aload_n hE.1 hE.2.1 dX7_remember_4 rfl (lv_at hl 0 rfl) ?_
  refine x_get (x := .int (v 57 2)) hE hK hP 57 (Nat.lt_of_lt_of_le (by decide) hNN) (xG_7 rfl) rfl hin7 2 (by decide) mw_301 rfl dX7_remember_5 ?_
  refine x_top (y := iI (w_1)) ew_1 ?_
  refine lv_iload_n hE.1 hE.2.1 dX7_remember_8 rfl (lv_at hl 1 rfl) ?_
  refine x_iast (j := iI (w_1)) hE hK hN hP hS 58 (Nat.lt_of_lt_of_le (by decide) hNN) (fun _ => xG_10 rfl) (iI_in (n := 18) (by omega)) dX7_remember_9 (fun ar1 H locs ha1 hP hS => ?_)
  refine lv_aload_n hE.1 hE.2.1 dX7_remember_10 rfl (lv_at hl 0 rfl) ?_
  refine x_get (x := .ref (ad 61)) hE hK hP 57 (Nat.lt_of_lt_of_le (by decide) hNN) (xG_7 rfl) rfl hin7 10 (by decide) mw_319 rfl dX7_remember_11 ?_
  refine lv_aload_n hE.1 hE.2.1 dX7_remember_14 rfl (lv_at hl 0 rfl) ?_
  refine x_get (x := .int (v 57 2)) hE hK hP 57 (Nat.lt_of_lt_of_le (by decide) hNN) (xG_7 rfl) rfl hin7 2 (by decide) mw_301 rfl dX7_remember_15 ?_
  refine x_top (y := iI (w_1)) ew_1 ?_
  refine lv_aload_n hE.1 hE.2.1 dX7_remember_18 rfl (lv_at hl 0 rfl) ?_
  obtain ⟨z2, hz2, ez2⟩ := iI_of (v 57 4)
  refine x_get (x := .int (v 57 4)) hE hK hP 57 (Nat.lt_of_lt_of_le (by decide) hNN) (xG_7 rfl) rfl hin7 4 (by decide) mw_309 rfl dX7_remember_19 ?_
  refine x_top (y := iI (z2)) ez2 ?_
  refine x_iast (j := iI (w_1)) hE hK hN hP hS 61 (Nat.lt_of_lt_of_le (by decide) hNN) (fun _ => xG_10 rfl) (iI_in (n := 18) (by omega)) dX7_remember_22 (fun ar3 H locs ha3 hP hS => ?_)
  refine lv_aload_n hE.1 hE.2.1 dX7_remember_23 rfl (lv_at hl 0 rfl) ?_
  refine x_get (x := .ref (ad 62)) hE hK hP 57 (Nat.lt_of_lt_of_le (by decide) hNN) (xG_7 rfl) rfl hin7 11 (by decide) mw_320 rfl dX7_remember_24 ?_
  refine lv_aload_n hE.1 hE.2.1 dX7_remember_27 rfl (lv_at hl 0 rfl) ?_
  refine x_get (x := .int (v 57 2)) hE hK hP 57 (Nat.lt_of_lt_of_le (by decide) hNN) (xG_7 rfl) rfl hin7 2 (by decide) mw_301 rfl dX7_remember_28 ?_
  refine x_top (y := iI (w_1)) ew_1 ?_
  refine lv_aload_n hE.1 hE.2.1 dX7_remember_31 rfl (lv_at hl 0 rfl) ?_
  obtain ⟨z4, hz4, ez4⟩ := iI_of (v 57 8)
  refine x_get (x := .int (v 57 8)) hE hK hP 57 (Nat.lt_of_lt_of_le (by decide) hNN) (xG_7 rfl) rfl hin7 8 (by decide) mw_317 rfl dX7_remember_32 ?_
  refine x_top (y := iI (z4)) ez4 ?_
  refine x_iast (j := iI (w_1)) hE hK hN hP hS 62 (Nat.lt_of_lt_of_le (by decide) hNN) (fun _ => xG_10 rfl) (iI_in (n := 18) (by omega)) dX7_remember_35 (fun ar5 H locs ha5 hP hS => ?_)
  refine lv_aload_n hE.1 hE.2.1 dX7_remember_36 rfl (lv_at hl 0 rfl) ?_
  refine x_get (x := .ref (ad 63)) hE hK hP 57 (Nat.lt_of_lt_of_le (by decide) hNN) (xG_7 rfl) rfl hin7 12 (by decide) mw_321 rfl dX7_remember_37 ?_
  refine lv_aload_n hE.1 hE.2.1 dX7_remember_40 rfl (lv_at hl 0 rfl) ?_
  refine x_get (x := .int (v 57 2)) hE hK hP 57 (Nat.lt_of_lt_of_le (by decide) hNN) (xG_7 rfl) rfl hin7 2 (by decide) mw_301 rfl dX7_remember_41 ?_
  refine x_top (y := iI (w_1)) ew_1 ?_
  refine lv_aload_n hE.1 hE.2.1 dX7_remember_44 rfl (lv_at hl 0 rfl) ?_
  obtain ⟨z6, hz6, ez6⟩ := iI_of (v 57 9)
  refine x_get (x := .int (v 57 9)) hE hK hP 57 (Nat.lt_of_lt_of_le (by decide) hNN) (xG_7 rfl) rfl hin7 9 (by decide) mw_318 rfl dX7_remember_45 ?_
  refine x_top (y := iI (z6)) ez6 ?_
  refine x_iast (j := iI (w_1)) hE hK hN hP hS 63 (Nat.lt_of_lt_of_le (by decide) hNN) (fun _ => xG_10 rfl) (iI_in (n := 18) (by omega)) dX7_remember_48 (fun ar7 H locs ha7 hP hS => ?_)
  exact kr _ _ _ _ _ _ _ ⟨hI, fun i j h => rfl⟩ hP hS dX7_remember_49

set_option maxHeartbeats 4000000 in
set_option maxRecDepth 100000 in
theorem s_X7_owe_57 (l : Launch) (D : va_G) (K : Nat → ClassId) (ad : Nat → Nat) (mm : Option Nat) (N : Nat) (hNN : 132 ≤ N) (v ar : sI) (al : sL) (hI : XI v) (w_1 : Int) (hw_1 : 0 ≤ w_1 ∧ w_1 ≤ 17) (ew_1 : v 57 2 = iI w_1) (z_1 : Int) (hz_1 : -2147483648 ≤ z_1 ∧ z_1 ≤ 2147483647) (z_2 : Int) (hz_2 : -2147483648 ≤ z_2 ∧ z_2 ≤ 2147483647) : Met l yX7_owe (wM yX7_owe cX7_owe 3 none) (rmD 0) (va_Pc [.ref (ad 57), .int (iI (z_1)), .int (iI (z_2))] (wPre D K ad (xG ad K mm) N v ar al)) (va_Qv (fun u : sT => XI u.1 ∧ (∀ i j : Nat, (i, j) ∉ ([(57, 9)] : List (Nat × Nat)) → u.1 i j = v i j)) (wB D ad (xG ad K mm) N) (inW ad N)) 0 0 (inW ad N) := by
  refine s_metV (by decide) (Nat.le_of_ble_eq_true rfl) ?_
  intro p e s m below meth c ls args Q hE hB hl kr
  have hE : CallFix p m c cX7_owe 3 s args tbG "TaleCourt$Telling" := hE
  obtain ⟨hP, hK, hN⟩ := hB
  have hS : va_S (inW ad N) s.heap s.heap [] := va_S.rf
  have hl : lv_has ls 3 [(0, .ref (ad 57)), (1, .int (iI (z_1))), (2, .int (iI (z_2)))] := hl
  refine lv_iload_n hE.1 hE.2.1 dX7_owe_0 rfl (lv_at hl 1 rfl) ?_
  refine s_if_lt (a := z_1) (tgt := 10) hE.1 hE.2.1 (by omega) dX7_owe_1 (by decide) (fun c1 => ?_) (fun c1 => ?_)
  · skip
    exact kr _ _ _ _ _ _ _ ⟨hI, fun i j h => rfl⟩ hP hS dX7_owe_10
  · skip
    refine lv_iload_n hE.1 hE.2.1 dX7_owe_4 rfl (lv_at hl 1 rfl) ?_
    refine lv_bipush (v := iI (9)) hE.1 hE.2.1 dX7_owe_5 (by decide) ?_
    refine s_icmp_lt (a := z_1) (b := 9) (tgt := 11) hE.1 hE.2.1 (by omega) (by omega) dX7_owe_7 (by decide) (fun c2 => ?_) (fun c2 => ?_)
    · skip
      refine lv_aload_n hE.1 hE.2.1 dX7_owe_11 rfl (lv_at hl 0 rfl) ?_
      refine x_get (x := .ref (ad 64)) hE hK hP 57 (Nat.lt_of_lt_of_le (by decide) hNN) (xG_7 rfl) rfl hin7 13 (by decide) mw_322 rfl dX7_owe_12 ?_
      refine lv_aload_n hE.1 hE.2.1 dX7_owe_15 rfl (lv_at hl 0 rfl) ?_
      refine x_get (x := .int (v 57 2)) hE hK hP 57 (Nat.lt_of_lt_of_le (by decide) hNN) (xG_7 rfl) rfl hin7 2 (by decide) mw_301 rfl dX7_owe_16 ?_
      refine x_top (y := iI (w_1)) ew_1 ?_
      refine lv_aload_n hE.1 hE.2.1 dX7_owe_19 rfl (lv_at hl 0 rfl) ?_
      refine x_get (x := .ref (ad 59)) hE hK hP 57 (Nat.lt_of_lt_of_le (by decide) hNN) (xG_7 rfl) rfl hin7 1 (by decide) mw_299 rfl dX7_owe_20 ?_
      refine lv_iload_n hE.1 hE.2.1 dX7_owe_23 rfl (lv_at hl 1 rfl) ?_
      refine x_iald (j := iI (z_1)) hE hK hP 59 (Nat.lt_of_lt_of_le (by decide) hNN) (xG_10 rfl) (iI_in (n := 9) (by omega)) dX7_owe_24 ?_
      obtain ⟨z4, hz4, ez4⟩ := iI_of (ar 59 (iI (z_1)).toNatClampNeg)
      refine x_top ez4 ?_
      refine x_iast (j := iI (w_1)) hE hK hN hP hS 64 (Nat.lt_of_lt_of_le (by decide) hNN) (fun _ => xG_10 rfl) (iI_in (n := 18) (by omega)) dX7_owe_25 (fun ar5 H locs ha5 hP hS => ?_)
      refine lv_aload_n hE.1 hE.2.1 dX7_owe_26 rfl (lv_at hl 0 rfl) ?_
      obtain ⟨z6, hz6, ez6⟩ := iI_of (v 57 9)
      refine x_get (x := .int (v 57 9)) hE hK hP 57 (Nat.lt_of_lt_of_le (by decide) hNN) (xG_7 rfl) rfl hin7 9 (by decide) mw_318 rfl dX7_owe_27 ?_
      refine x_top (y := iI (z6)) ez6 ?_
      refine lv_iload_n hE.1 hE.2.1 dX7_owe_30 rfl (lv_at hl 1 rfl) ?_
      refine lv_ishr hE.1 hE.2.1 dX7_owe_31 ?_
      obtain ⟨z7, hz7, ez7⟩ := iI_of (iI (z6) >>> (iI (z_1) &&& 31))
      refine x_top ez7 ?_
      refine lv_iconst (v := iI (1)) hE.1 hE.2.1 dX7_owe_32 (by decide) ?_
      refine lv_iand hE.1 hE.2.1 dX7_owe_33 ?_
      obtain ⟨z8, hz8, ez8⟩ := iI_and (iI (z7)) (iI (1)) 1 (by decide)
      refine x_top ez8 ?_
      refine s_if_eq (a := z8) (tgt := 47) hE.1 hE.2.1 (by omega) dX7_owe_34 (by decide) (fun c9 => ?_) (fun c9 => ?_)
      · skip
        refine lv_aload_n hE.1 hE.2.1 dX7_owe_47 rfl (lv_at hl 0 rfl) ?_
        refine x_get (x := .ref (ad 59)) hE hK hP 57 (Nat.lt_of_lt_of_le (by decide) hNN) (xG_7 rfl) rfl hin7 1 (by decide) mw_299 rfl dX7_owe_48 ?_
        refine lv_iload_n hE.1 hE.2.1 dX7_owe_51 rfl (lv_at hl 1 rfl) ?_
        refine lv_iload_n hE.1 hE.2.1 dX7_owe_52 rfl (lv_at hl 2 rfl) ?_
        refine x_iast (j := iI (z_1)) hE hK hN hP hS 59 (Nat.lt_of_lt_of_le (by decide) hNN) (fun _ => xG_10 rfl) (iI_in (n := 9) (by omega)) dX7_owe_53 (fun ar10 H locs ha10 hP hS => ?_)
        refine lv_aload_n hE.1 hE.2.1 dX7_owe_54 rfl (lv_at hl 0 rfl) ?_
        refine lv_dup hE.1 hE.2.1 dX7_owe_55 rfl ?_
        refine x_get (x := .int (v 57 9)) hE hK hP 57 (Nat.lt_of_lt_of_le (by decide) hNN) (xG_7 rfl) rfl hin7 9 (by decide) mw_318 rfl dX7_owe_56 ?_
        refine x_top (y := iI (z6)) ez6 ?_
        refine lv_iconst (v := iI (1)) hE.1 hE.2.1 dX7_owe_59 (by decide) ?_
        refine lv_iload_n hE.1 hE.2.1 dX7_owe_60 rfl (lv_at hl 1 rfl) ?_
        refine lv_ishl hE.1 hE.2.1 dX7_owe_61 ?_
        obtain ⟨z11, hz11, ez11⟩ := iI_shl1 (a := z_1) (by omega)
        refine x_top ez11 ?_
        refine lv_ior hE.1 hE.2.1 dX7_owe_62 ?_
        obtain ⟨z12, hz12, ez12⟩ := iI_of (iI (z6) ||| iI (z11))
        refine x_top ez12 ?_
        refine x_put (x := iI (z12)) hE hK hN hP hS 57 (Nat.lt_of_lt_of_le (by decide) hNN) (xG_7 rfl) rfl hin7 tyX7 tyX7_ok nmX7 9 (by decide) mw_318 rfl rfl rfl (Nat.le_of_ble_eq_true rfl) (xG_7 rfl) dX7_owe_63 (fun v13 H locs hv13 hP hS => ?_)
        have hI := XI_putN hI hv13 (by decide)
        exact kr _ _ _ _ _ _ _ ⟨hI, fun i j h => (up_oth hv13 (fun q => h (by rcases q with ⟨rfl, rfl⟩; decide)))⟩ hP hS dX7_owe_66
      · skip
        refine lv_iload_n hE.1 hE.2.1 dX7_owe_37 rfl (lv_at hl 2 rfl) ?_
        refine lv_aload_n hE.1 hE.2.1 dX7_owe_38 rfl (lv_at hl 0 rfl) ?_
        refine x_get (x := .ref (ad 59)) hE hK hP 57 (Nat.lt_of_lt_of_le (by decide) hNN) (xG_7 rfl) rfl hin7 1 (by decide) mw_299 rfl dX7_owe_39 ?_
        refine lv_iload_n hE.1 hE.2.1 dX7_owe_42 rfl (lv_at hl 1 rfl) ?_
        refine x_iald (j := iI (z_1)) hE hK hP 59 (Nat.lt_of_lt_of_le (by decide) hNN) (xG_10 rfl) (iI_in (n := 9) (by omega)) dX7_owe_43 ?_
        obtain ⟨z15, hz15, ez15⟩ := iI_of (ar5 59 (iI (z_1)).toNatClampNeg)
        refine x_top ez15 ?_
        refine s_icmp_ge (a := z_2) (b := z15) (tgt := 54) hE.1 hE.2.1 (by omega) (by omega) dX7_owe_44 (by decide) (fun c16 => ?_) (fun c16 => ?_)
        · skip
          refine lv_aload_n hE.1 hE.2.1 dX7_owe_54 rfl (lv_at hl 0 rfl) ?_
          refine lv_dup hE.1 hE.2.1 dX7_owe_55 rfl ?_
          refine x_get (x := .int (v 57 9)) hE hK hP 57 (Nat.lt_of_lt_of_le (by decide) hNN) (xG_7 rfl) rfl hin7 9 (by decide) mw_318 rfl dX7_owe_56 ?_
          refine x_top (y := iI (z6)) ez6 ?_
          refine lv_iconst (v := iI (1)) hE.1 hE.2.1 dX7_owe_59 (by decide) ?_
          refine lv_iload_n hE.1 hE.2.1 dX7_owe_60 rfl (lv_at hl 1 rfl) ?_
          refine lv_ishl hE.1 hE.2.1 dX7_owe_61 ?_
          obtain ⟨z17, hz17, ez17⟩ := iI_shl1 (a := z_1) (by omega)
          refine x_top ez17 ?_
          refine lv_ior hE.1 hE.2.1 dX7_owe_62 ?_
          obtain ⟨z18, hz18, ez18⟩ := iI_of (iI (z6) ||| iI (z17))
          refine x_top ez18 ?_
          refine x_put (x := iI (z18)) hE hK hN hP hS 57 (Nat.lt_of_lt_of_le (by decide) hNN) (xG_7 rfl) rfl hin7 tyX7 tyX7_ok nmX7 9 (by decide) mw_318 rfl rfl rfl (Nat.le_of_ble_eq_true rfl) (xG_7 rfl) dX7_owe_63 (fun v19 H locs hv19 hP hS => ?_)
          have hI := XI_putN hI hv19 (by decide)
          exact kr _ _ _ _ _ _ _ ⟨hI, fun i j h => (up_oth hv19 (fun q => h (by rcases q with ⟨rfl, rfl⟩; decide)))⟩ hP hS dX7_owe_66
        · skip
          refine lv_aload_n hE.1 hE.2.1 dX7_owe_47 rfl (lv_at hl 0 rfl) ?_
          refine x_get (x := .ref (ad 59)) hE hK hP 57 (Nat.lt_of_lt_of_le (by decide) hNN) (xG_7 rfl) rfl hin7 1 (by decide) mw_299 rfl dX7_owe_48 ?_
          refine lv_iload_n hE.1 hE.2.1 dX7_owe_51 rfl (lv_at hl 1 rfl) ?_
          refine lv_iload_n hE.1 hE.2.1 dX7_owe_52 rfl (lv_at hl 2 rfl) ?_
          refine x_iast (j := iI (z_1)) hE hK hN hP hS 59 (Nat.lt_of_lt_of_le (by decide) hNN) (fun _ => xG_10 rfl) (iI_in (n := 9) (by omega)) dX7_owe_53 (fun ar20 H locs ha20 hP hS => ?_)
          refine lv_aload_n hE.1 hE.2.1 dX7_owe_54 rfl (lv_at hl 0 rfl) ?_
          refine lv_dup hE.1 hE.2.1 dX7_owe_55 rfl ?_
          refine x_get (x := .int (v 57 9)) hE hK hP 57 (Nat.lt_of_lt_of_le (by decide) hNN) (xG_7 rfl) rfl hin7 9 (by decide) mw_318 rfl dX7_owe_56 ?_
          refine x_top (y := iI (z6)) ez6 ?_
          refine lv_iconst (v := iI (1)) hE.1 hE.2.1 dX7_owe_59 (by decide) ?_
          refine lv_iload_n hE.1 hE.2.1 dX7_owe_60 rfl (lv_at hl 1 rfl) ?_
          refine lv_ishl hE.1 hE.2.1 dX7_owe_61 ?_
          obtain ⟨z21, hz21, ez21⟩ := iI_shl1 (a := z_1) (by omega)
          refine x_top ez21 ?_
          refine lv_ior hE.1 hE.2.1 dX7_owe_62 ?_
          obtain ⟨z22, hz22, ez22⟩ := iI_of (iI (z6) ||| iI (z21))
          refine x_top ez22 ?_
          refine x_put (x := iI (z22)) hE hK hN hP hS 57 (Nat.lt_of_lt_of_le (by decide) hNN) (xG_7 rfl) rfl hin7 tyX7 tyX7_ok nmX7 9 (by decide) mw_318 rfl rfl rfl (Nat.le_of_ble_eq_true rfl) (xG_7 rfl) dX7_owe_63 (fun v23 H locs hv23 hP hS => ?_)
          have hI := XI_putN hI hv23 (by decide)
          exact kr _ _ _ _ _ _ _ ⟨hI, fun i j h => (up_oth hv23 (fun q => h (by rcases q with ⟨rfl, rfl⟩; decide)))⟩ hP hS dX7_owe_66
    · skip
      exact kr _ _ _ _ _ _ _ ⟨hI, fun i j h => rfl⟩ hP hS dX7_owe_10

set_option maxHeartbeats 4000000 in
set_option maxRecDepth 100000 in
theorem s_X7_tell_57 (l : Launch) (D : va_G) (K : Nat → ClassId) (ad : Nat → Nat) (mm : Option Nat) (N : Nat) (hNN : 132 ≤ N) (v ar : sI) (al : sL) (hI : XI v) (z_1 : Int) (hz_1 : -2147483648 ≤ z_1 ∧ z_1 ≤ 2147483647) : Met l yX7_tell (wM yX7_tell cX7_tell 2 none) (rmD 1) (va_Pc [.ref (ad 57), .int (iI (z_1))] (wPre D K ad (xG ad K mm) N v ar al)) (va_Qv (fun u : sT => XI u.1 ∧ (∀ i j : Nat, (i, j) ∉ ([(57, 2), (57, 3), (57, 4), (57, 5), (57, 8), (57, 9)] : List (Nat × Nat)) → u.1 i j = v i j)) (wB D ad (xG ad K mm) N) (inW ad N)) 0 0 (inW ad N) := by
  refine s_metV (by decide) (Nat.le_of_ble_eq_true rfl) ?_
  intro p e s m below meth c ls args Q hE hB hl kr
  have hE : CallFix p m c cX7_tell 2 s args tbG "TaleCourt$Telling" := hE
  obtain ⟨hP, hK, hN⟩ := hB
  have hS : va_S (inW ad N) s.heap s.heap [] := va_S.rf
  have hl : lv_has ls 2 [(0, .ref (ad 57)), (1, .int (iI (z_1)))] := hl
  refine lv_aload_n hE.1 hE.2.1 dX7_tell_0 rfl (lv_at hl 0 rfl) ?_
  obtain ⟨z1, hz1, ez1⟩ := XI_get hI 57 2 0 18 (by decide)
  refine x_vp (nn := 0) (As := []) (rest := []) hE (s_X7_hasRoom_57 l D K ad mm N hNN v ar al hI (z1) (by omega) ez1 ) wPre_blind (wPre_now hK hN hP) (x_recv hK hP 57 (Nat.lt_of_lt_of_le (by decide) hNN) (xG_7 rfl) rfl) rfl mw_766 mw_768 mw_18 mw_117 mw_769 (by decide +kernel) ⟨by decide, by decide⟩ hl.1 rfl (Nat.le_of_ble_eq_true rfl) ⟨Nat.zero_le _, Nat.zero_le _⟩ dX7_tell_1 (fun r2 hr2 => ?_)
  obtain ⟨z2, hz2, rfl⟩ := hr2
  refine s_if_eq (a := z2) (tgt := 18) hE.1 hE.2.1 (by omega) dX7_tell_4 (by decide) (fun c3 => ?_) (fun c3 => ?_)
  · skip
    exact kr _ _ _ _ _ _ _ ⟨hI, fun i j h => rfl⟩ hP hS dX7_tell_18
  · skip
    refine lv_aload_n hE.1 hE.2.1 dX7_tell_7 rfl (lv_at hl 0 rfl) ?_
    refine x_get (x := .ref (ad 3)) hE hK hP 57 (Nat.lt_of_lt_of_le (by decide) hNN) (xG_7 rfl) rfl hin7 6 (by decide) mw_315 rfl dX7_tell_8 ?_
    refine lv_iload_n hE.1 hE.2.1 dX7_tell_11 rfl (lv_at hl 1 rfl) ?_
    refine x_vp (nn := 1) (As := [.int (iI (z_1))]) (rest := []) hE (s_X1_hasMotif_3 l D K ad mm N hNN v ar al hI  (z_1) (by omega)) wPre_blind (wPre_now hK hN hP) (x_recv hK hP 3 (Nat.lt_of_lt_of_le (by decide) hNN) (xG_1 rfl) rfl) rfl mw_770 mw_695 mw_696 mw_116 mw_697 (by decide +kernel) ⟨by decide, by decide⟩ hl.1 rfl (Nat.le_of_ble_eq_true rfl) ⟨Nat.zero_le _, Nat.zero_le _⟩ dX7_tell_12 (fun r4 hr4 => ?_)
    obtain ⟨z4, hz4, rfl⟩ := hr4
    refine s_if_ne (a := z4) (tgt := 19) hE.1 hE.2.1 (by omega) dX7_tell_15 (by decide) (fun c5 => ?_) (fun c5 => ?_)
    · skip
      refine lv_aload_n hE.1 hE.2.1 dX7_tell_19 rfl (lv_at hl 0 rfl) ?_
      refine lv_iload_n hE.1 hE.2.1 dX7_tell_20 rfl (lv_at hl 1 rfl) ?_
      refine x_vv (nn := 1) (As := [.int (iI (z_1))]) (rest := []) hE hK hN hP hS (s_X7_remember_57 l D K ad mm N hNN v ar al hI (z1) (by omega) ez1 (z_1) (by omega)) (x_recv hK hP 57 (Nat.lt_of_lt_of_le (by decide) hNN) (xG_7 rfl) rfl) rfl mw_771 mw_773 mw_19 mw_117 mw_774 (by decide +kernel) ⟨by decide, by decide⟩ hl.1 rfl (Nat.le_of_ble_eq_true rfl) ⟨Nat.zero_le _, Nat.zero_le _⟩ dX7_tell_21 (fun v6 ar6 al6 H locs hq6 hP hS => ?_)
      obtain ⟨hI, hq6⟩ := hq6
      have hI : XI v6 := hI
      refine lv_aload_n hE.1 hE.2.1 dX7_tell_24 rfl (lv_at hl 0 rfl) ?_
      refine lv_dup hE.1 hE.2.1 dX7_tell_25 rfl ?_
      obtain ⟨z7, hz7, ez7⟩ := iI_of (v6 57 3)
      refine x_get (x := .int (v6 57 3)) hE hK hP 57 (Nat.lt_of_lt_of_le (by decide) hNN) (xG_7 rfl) rfl hin7 3 (by decide) mw_305 rfl dX7_tell_26 ?_
      refine x_top (y := iI (z7)) ez7 ?_
      refine lv_iconst (v := iI (1)) hE.1 hE.2.1 dX7_tell_29 (by decide) ?_
      refine lv_iload_n hE.1 hE.2.1 dX7_tell_30 rfl (lv_at hl 1 rfl) ?_
      refine lv_ishl hE.1 hE.2.1 dX7_tell_31 ?_
      obtain ⟨z8, hz8, ez8⟩ := iI_shl1 (a := z_1) (by omega)
      refine x_top ez8 ?_
      refine lv_ior hE.1 hE.2.1 dX7_tell_32 ?_
      obtain ⟨z9, hz9, ez9⟩ := iI_of (iI (z7) ||| iI (z8))
      refine x_top ez9 ?_
      refine x_put (x := iI (z9)) hE hK hN hP hS 57 (Nat.lt_of_lt_of_le (by decide) hNN) (xG_7 rfl) rfl hin7 tyX7 tyX7_ok nmX7 3 (by decide) mw_305 rfl rfl rfl (Nat.le_of_ble_eq_true rfl) (xG_7 rfl) dX7_tell_33 (fun v10 H locs hv10 hP hS => ?_)
      have hI := XI_putN hI hv10 (by decide)
      refine lv_aload_n hE.1 hE.2.1 dX7_tell_36 rfl (lv_at hl 0 rfl) ?_
      refine lv_iload_n hE.1 hE.2.1 dX7_tell_37 rfl (lv_at hl 1 rfl) ?_
      refine x_put (x := iI (z_1)) hE hK hN hP hS 57 (Nat.lt_of_lt_of_le (by decide) hNN) (xG_7 rfl) rfl hin7 tyX7 tyX7_ok nmX7 4 (by decide) mw_309 rfl rfl rfl (Nat.le_of_ble_eq_true rfl) (xG_7 rfl) dX7_tell_38 (fun v11 H locs hv11 hP hS => ?_)
      have hI := XI_putN hI hv11 (by decide)
      refine lv_aload_n hE.1 hE.2.1 dX7_tell_41 rfl (lv_at hl 0 rfl) ?_
      refine lv_dup hE.1 hE.2.1 dX7_tell_42 rfl ?_
      obtain ⟨z12, hz12, ez12⟩ := iI_of (v11 57 5)
      refine x_get (x := .int (v11 57 5)) hE hK hP 57 (Nat.lt_of_lt_of_le (by decide) hNN) (xG_7 rfl) rfl hin7 5 (by decide) mw_312 rfl dX7_tell_43 ?_
      refine x_top (y := iI (z12)) ez12 ?_
      refine lv_aload_n hE.1 hE.2.1 dX7_tell_46 rfl (lv_at hl 0 rfl) ?_
      refine x_get (x := .ref (ad 3)) hE hK hP 57 (Nat.lt_of_lt_of_le (by decide) hNN) (xG_7 rfl) rfl hin7 6 (by decide) mw_315 rfl dX7_tell_47 ?_
      refine lv_iload_n hE.1 hE.2.1 dX7_tell_50 rfl (lv_at hl 1 rfl) ?_
      refine x_vp (nn := 1) (As := [.int (iI (z_1))]) (rest := [.int (iI (z12)), .ref (ad 57)]) hE (s_X1_value_3 l D K ad mm N hNN v11 ar6 al6 hI  (z_1) (by omega)) wPre_blind (wPre_now hK hN hP) (x_recv hK hP 3 (Nat.lt_of_lt_of_le (by decide) hNN) (xG_1 rfl) rfl) rfl mw_775 mw_776 mw_777 mw_116 mw_778 (by decide +kernel) ⟨by decide, by decide⟩ hl.1 rfl (Nat.le_of_ble_eq_true rfl) ⟨Nat.zero_le _, Nat.zero_le _⟩ dX7_tell_51 (fun r13 hr13 => ?_)
      obtain ⟨z13, hz13, rfl⟩ := hr13
      refine lv_iadd hE.1 hE.2.1 dX7_tell_54 ?_
      obtain ⟨z14, hz14, ez14⟩ := iI_of (iI (z12) + iI (z13))
      refine x_top ez14 ?_
      refine x_put (x := iI (z14)) hE hK hN hP hS 57 (Nat.lt_of_lt_of_le (by decide) hNN) (xG_7 rfl) rfl hin7 tyX7 tyX7_ok nmX7 5 (by decide) mw_312 rfl rfl rfl (Nat.le_of_ble_eq_true rfl) (xG_7 rfl) dX7_tell_55 (fun v15 H locs hv15 hP hS => ?_)
      have hI := XI_putN hI hv15 (by decide)
      refine lv_aload_n hE.1 hE.2.1 dX7_tell_58 rfl (lv_at hl 0 rfl) ?_
      refine lv_dup hE.1 hE.2.1 dX7_tell_59 rfl ?_
      obtain ⟨z16, hz16, ez16⟩ := iI_of (v15 57 8)
      refine x_get (x := .int (v15 57 8)) hE hK hP 57 (Nat.lt_of_lt_of_le (by decide) hNN) (xG_7 rfl) rfl hin7 8 (by decide) mw_317 rfl dX7_tell_60 ?_
      refine x_top (y := iI (z16)) ez16 ?_
      refine lv_aload_n hE.1 hE.2.1 dX7_tell_63 rfl (lv_at hl 0 rfl) ?_
      refine x_get (x := .ref (ad 3)) hE hK hP 57 (Nat.lt_of_lt_of_le (by decide) hNN) (xG_7 rfl) rfl hin7 6 (by decide) mw_315 rfl dX7_tell_64 ?_
      refine x_get (x := .ref (ad 9)) hE hK hP 3 (Nat.lt_of_lt_of_le (by decide) hNN) (xG_1 rfl) rfl hin1 16 (by decide) mw_238 rfl dX7_tell_67 ?_
      refine lv_iload_n hE.1 hE.2.1 dX7_tell_70 rfl (lv_at hl 1 rfl) ?_
      refine x_iald (j := iI (z_1)) hE hK hP 9 (Nat.lt_of_lt_of_le (by decide) hNN) (xG_10 rfl) (iI_in (n := 9) (by omega)) dX7_tell_71 ?_
      obtain ⟨z18, hz18, ez18⟩ := iI_of (ar6 9 (iI (z_1)).toNatClampNeg)
      refine x_top ez18 ?_
      refine lv_ior hE.1 hE.2.1 dX7_tell_72 ?_
      obtain ⟨z19, hz19, ez19⟩ := iI_of (iI (z16) ||| iI (z18))
      refine x_top ez19 ?_
      refine x_put (x := iI (z19)) hE hK hN hP hS 57 (Nat.lt_of_lt_of_le (by decide) hNN) (xG_7 rfl) rfl hin7 tyX7 tyX7_ok nmX7 8 (by decide) mw_317 rfl rfl rfl (Nat.le_of_ble_eq_true rfl) (xG_7 rfl) dX7_tell_73 (fun v20 H locs hv20 hP hS => ?_)
      have hI := XI_putN hI hv20 (by decide)
      refine lv_aload_n hE.1 hE.2.1 dX7_tell_76 rfl (lv_at hl 0 rfl) ?_
      refine lv_aload_n hE.1 hE.2.1 dX7_tell_77 rfl (lv_at hl 0 rfl) ?_
      refine x_get (x := .ref (ad 3)) hE hK hP 57 (Nat.lt_of_lt_of_le (by decide) hNN) (xG_7 rfl) rfl hin7 6 (by decide) mw_315 rfl dX7_tell_78 ?_
      refine x_get (x := .ref (ad 5)) hE hK hP 3 (Nat.lt_of_lt_of_le (by decide) hNN) (xG_1 rfl) rfl hin1 12 (by decide) mw_224 rfl dX7_tell_81 ?_
      refine lv_iload_n hE.1 hE.2.1 dX7_tell_84 rfl (lv_at hl 1 rfl) ?_
      refine x_iald (j := iI (z_1)) hE hK hP 5 (Nat.lt_of_lt_of_le (by decide) hNN) (xG_10 rfl) (iI_in (n := 9) (by omega)) dX7_tell_85 ?_
      obtain ⟨z22, hz22, ez22⟩ := iI_of (ar6 5 (iI (z_1)).toNatClampNeg)
      refine x_top ez22 ?_
      refine lv_aload_n hE.1 hE.2.1 dX7_tell_86 rfl (lv_at hl 0 rfl) ?_
      refine x_get (x := .int (v20 57 2)) hE hK hP 57 (Nat.lt_of_lt_of_le (by decide) hNN) (xG_7 rfl) rfl hin7 2 (by decide) mw_301 rfl dX7_tell_87 ?_
      refine x_top (y := iI (z1)) ((up_oth hv20 (by decide)).trans ((up_oth hv15 (by decide)).trans ((up_oth hv11 (by decide)).trans ((up_oth hv10 (by decide)).trans ((hq6 57 2 (by decide)).trans ez1))))) ?_
      refine lv_aload_n hE.1 hE.2.1 dX7_tell_90 rfl (lv_at hl 0 rfl) ?_
      refine x_get (x := .ref (ad 3)) hE hK hP 57 (Nat.lt_of_lt_of_le (by decide) hNN) (xG_7 rfl) rfl hin7 6 (by decide) mw_315 rfl dX7_tell_91 ?_
      refine x_get (x := .ref (ad 6)) hE hK hP 3 (Nat.lt_of_lt_of_le (by decide) hNN) (xG_1 rfl) rfl hin1 13 (by decide) mw_228 rfl dX7_tell_94 ?_
      refine lv_iload_n hE.1 hE.2.1 dX7_tell_97 rfl (lv_at hl 1 rfl) ?_
      refine x_iald (j := iI (z_1)) hE hK hP 6 (Nat.lt_of_lt_of_le (by decide) hNN) (xG_10 rfl) (iI_in (n := 9) (by omega)) dX7_tell_98 ?_
      obtain ⟨z24, hz24, ez24⟩ := iI_of (ar6 6 (iI (z_1)).toNatClampNeg)
      refine x_top ez24 ?_
      refine lv_iadd hE.1 hE.2.1 dX7_tell_99 ?_
      obtain ⟨z25, hz25, ez25⟩ := iI_of (iI (z1) + iI (z24))
      refine x_top ez25 ?_
      refine x_vv (nn := 2) (As := [.int (iI (z22)), .int (iI (z25))]) (rest := []) hE hK hN hP hS (s_X7_owe_57 l D K ad mm N hNN v20 ar6 al6 hI (z1) (by omega) ((up_oth hv20 (by decide)).trans ((up_oth hv15 (by decide)).trans ((up_oth hv11 (by decide)).trans ((up_oth hv10 (by decide)).trans ((hq6 57 2 (by decide)).trans ez1))))) (z22) (by omega) (z25) (by omega)) (x_recv hK hP 57 (Nat.lt_of_lt_of_le (by decide) hNN) (xG_7 rfl) rfl) rfl mw_779 mw_781 mw_20 mw_117 mw_782 (by decide +kernel) ⟨by decide, by decide⟩ hl.1 rfl (Nat.le_of_ble_eq_true rfl) ⟨Nat.zero_le _, Nat.zero_le _⟩ dX7_tell_100 (fun v26 ar26 al26 H locs hq26 hP hS => ?_)
      obtain ⟨hI, hq26⟩ := hq26
      have hI : XI v26 := hI
      refine lv_aload_n hE.1 hE.2.1 dX7_tell_103 rfl (lv_at hl 0 rfl) ?_
      refine lv_dup hE.1 hE.2.1 dX7_tell_104 rfl ?_
      refine x_get (x := .int (v26 57 2)) hE hK hP 57 (Nat.lt_of_lt_of_le (by decide) hNN) (xG_7 rfl) rfl hin7 2 (by decide) mw_301 rfl dX7_tell_105 ?_
      refine x_top (y := iI (z1)) ((hq26 57 2 (by decide)).trans ((up_oth hv20 (by decide)).trans ((up_oth hv15 (by decide)).trans ((up_oth hv11 (by decide)).trans ((up_oth hv10 (by decide)).trans ((hq6 57 2 (by decide)).trans ez1)))))) ?_
      refine lv_iconst (v := iI (1)) hE.1 hE.2.1 dX7_tell_108 (by decide) ?_
      refine lv_iadd hE.1 hE.2.1 dX7_tell_109 ?_
      refine x_top (y := iI (z1 + 1)) ((iI_add (z1) (1)).trans (congrArg iI (by omega))) ?_
      refine x_put (x := iI (z1 + 1)) hE hK hN hP hS 57 (Nat.lt_of_lt_of_le (by decide) hNN) (xG_7 rfl) rfl hin7 tyX7 tyX7_ok nmX7 2 (by decide) mw_301 rfl rfl rfl (Nat.le_of_ble_eq_true rfl) (xG_7 rfl) dX7_tell_110 (fun v27 H locs hv27 hP hS => ?_)
      have hI := XI_putB (z := z1 + 1) hI hv27 0 18 (by omega) (by decide) (by omega)
      exact kr _ _ _ _ _ _ _ ⟨hI, fun i j h => ((up_oth hv27 (fun q => h (by rcases q with ⟨rfl, rfl⟩; decide))).trans ((hq26 i j (fun q => h (mem_sub (by decide) q))).trans ((up_oth hv20 (fun q => h (by rcases q with ⟨rfl, rfl⟩; decide))).trans ((up_oth hv15 (fun q => h (by rcases q with ⟨rfl, rfl⟩; decide))).trans ((up_oth hv11 (fun q => h (by rcases q with ⟨rfl, rfl⟩; decide))).trans ((up_oth hv10 (fun q => h (by rcases q with ⟨rfl, rfl⟩; decide))).trans (hq6 i j (fun q => h (mem_sub (by decide) q)))))))))⟩ hP hS dX7_tell_113
    · skip
      exact kr _ _ _ _ _ _ _ ⟨hI, fun i j h => rfl⟩ hP hS dX7_tell_18

set_option maxHeartbeats 4000000 in
set_option maxRecDepth 100000 in
theorem s_X7_pass_57 (l : Launch) (D : va_G) (K : Nat → ClassId) (ad : Nat → Nat) (mm : Option Nat) (N : Nat) (hNN : 132 ≤ N) (v ar : sI) (al : sL) (hI : XI v) : Met l yX7_pass (wM yX7_pass cX7_pass 1 none) (rmD 1) (va_Pc [.ref (ad 57)] (wPre D K ad (xG ad K mm) N v ar al)) (va_Qv (fun u : sT => XI u.1 ∧ (∀ i j : Nat, (i, j) ∉ ([(57, 2)] : List (Nat × Nat)) → u.1 i j = v i j)) (wB D ad (xG ad K mm) N) (inW ad N)) 0 0 (inW ad N) := by
  refine s_metV (by decide) (Nat.le_of_ble_eq_true rfl) ?_
  intro p e s m below meth c ls args Q hE hB hl kr
  have hE : CallFix p m c cX7_pass 1 s args tbG "TaleCourt$Telling" := hE
  obtain ⟨hP, hK, hN⟩ := hB
  have hS : va_S (inW ad N) s.heap s.heap [] := va_S.rf
  have hl : lv_has ls 1 [(0, .ref (ad 57))] := hl
  refine lv_aload_n hE.1 hE.2.1 dX7_pass_0 rfl (lv_at hl 0 rfl) ?_
  obtain ⟨z1, hz1, ez1⟩ := XI_get hI 57 2 0 18 (by decide)
  refine x_vp (nn := 0) (As := []) (rest := []) hE (s_X7_hasRoom_57 l D K ad mm N hNN v ar al hI (z1) (by omega) ez1 ) wPre_blind (wPre_now hK hN hP) (x_recv hK hP 57 (Nat.lt_of_lt_of_le (by decide) hNN) (xG_7 rfl) rfl) rfl mw_766 mw_768 mw_18 mw_117 mw_769 (by decide +kernel) ⟨by decide, by decide⟩ hl.1 rfl (Nat.le_of_ble_eq_true rfl) ⟨Nat.zero_le _, Nat.zero_le _⟩ dX7_pass_1 (fun r2 hr2 => ?_)
  obtain ⟨z2, hz2, rfl⟩ := hr2
  refine s_if_ne (a := z2) (tgt := 8) hE.1 hE.2.1 (by omega) dX7_pass_4 (by decide) (fun c3 => ?_) (fun c3 => ?_)
  · skip
    refine lv_aload_n hE.1 hE.2.1 dX7_pass_8 rfl (lv_at hl 0 rfl) ?_
    refine lv_bipush (v := iI (9)) hE.1 hE.2.1 dX7_pass_9 (by decide) ?_
    refine x_vv (nn := 1) (As := [.int (iI (9))]) (rest := []) hE hK hN hP hS (s_X7_remember_57 l D K ad mm N hNN v ar al hI (z1) (by omega) ez1 (9) (by omega)) (x_recv hK hP 57 (Nat.lt_of_lt_of_le (by decide) hNN) (xG_7 rfl) rfl) rfl mw_771 mw_773 mw_19 mw_117 mw_774 (by decide +kernel) ⟨by decide, by decide⟩ hl.1 rfl (Nat.le_of_ble_eq_true rfl) ⟨Nat.zero_le _, Nat.zero_le _⟩ dX7_pass_11 (fun v4 ar4 al4 H locs hq4 hP hS => ?_)
    obtain ⟨hI, hq4⟩ := hq4
    have hI : XI v4 := hI
    refine lv_aload_n hE.1 hE.2.1 dX7_pass_14 rfl (lv_at hl 0 rfl) ?_
    refine x_get (x := .ref (ad 60)) hE hK hP 57 (Nat.lt_of_lt_of_le (by decide) hNN) (xG_7 rfl) rfl hin7 7 (by decide) mw_316 rfl dX7_pass_15 ?_
    refine lv_aload_n hE.1 hE.2.1 dX7_pass_18 rfl (lv_at hl 0 rfl) ?_
    refine x_vp (nn := 0) (As := []) (rest := [.ref (ad 60)]) hE (s_X7_teller_57 l D K ad mm N hNN v4 ar4 al4 hI  ) wPre_blind (wPre_now hK hN hP) (x_recv hK hP 57 (Nat.lt_of_lt_of_le (by decide) hNN) (xG_7 rfl) rfl) rfl mw_758 mw_759 mw_760 mw_117 mw_761 (by decide +kernel) ⟨by decide, by decide⟩ hl.1 rfl (Nat.le_of_ble_eq_true rfl) ⟨Nat.zero_le _, Nat.zero_le _⟩ dX7_pass_19 (fun r5 hr5 => ?_)
    obtain ⟨z5, hz5, rfl⟩ := hr5
    refine lv_dup2_11 hE.1 hE.2.1 dX7_pass_22 rfl rfl ?_
    refine x_iald (j := iI (z5)) hE hK hP 60 (Nat.lt_of_lt_of_le (by decide) hNN) (xG_10 rfl) (iI_in (n := 3) (by omega)) dX7_pass_23 ?_
    obtain ⟨z7, hz7, ez7⟩ := iI_of (ar4 60 (iI (z5)).toNatClampNeg)
    refine x_top ez7 ?_
    refine lv_iconst (v := iI (1)) hE.1 hE.2.1 dX7_pass_24 (by decide) ?_
    refine lv_iadd hE.1 hE.2.1 dX7_pass_25 ?_
    obtain ⟨z8, hz8, ez8⟩ := iI_of (iI (z7) + iI (1))
    refine x_top ez8 ?_
    refine x_iast (j := iI (z5)) hE hK hN hP hS 60 (Nat.lt_of_lt_of_le (by decide) hNN) (fun _ => xG_10 rfl) (iI_in (n := 3) (by omega)) dX7_pass_26 (fun ar9 H locs ha9 hP hS => ?_)
    refine lv_aload_n hE.1 hE.2.1 dX7_pass_27 rfl (lv_at hl 0 rfl) ?_
    refine lv_dup hE.1 hE.2.1 dX7_pass_28 rfl ?_
    refine x_get (x := .int (v4 57 2)) hE hK hP 57 (Nat.lt_of_lt_of_le (by decide) hNN) (xG_7 rfl) rfl hin7 2 (by decide) mw_301 rfl dX7_pass_29 ?_
    refine x_top (y := iI (z1)) ((hq4 57 2 (by decide)).trans ez1) ?_
    refine lv_iconst (v := iI (1)) hE.1 hE.2.1 dX7_pass_32 (by decide) ?_
    refine lv_iadd hE.1 hE.2.1 dX7_pass_33 ?_
    refine x_top (y := iI (z1 + 1)) ((iI_add (z1) (1)).trans (congrArg iI (by omega))) ?_
    refine x_put (x := iI (z1 + 1)) hE hK hN hP hS 57 (Nat.lt_of_lt_of_le (by decide) hNN) (xG_7 rfl) rfl hin7 tyX7 tyX7_ok nmX7 2 (by decide) mw_301 rfl rfl rfl (Nat.le_of_ble_eq_true rfl) (xG_7 rfl) dX7_pass_34 (fun v10 H locs hv10 hP hS => ?_)
    have hI := XI_putB (z := z1 + 1) hI hv10 0 18 (by omega) (by decide) (by omega)
    exact kr _ _ _ _ _ _ _ ⟨hI, fun i j h => ((up_oth hv10 (fun q => h (by rcases q with ⟨rfl, rfl⟩; decide))).trans (hq4 i j (fun q => h (mem_sub (by decide) q))))⟩ hP hS dX7_pass_37
  · skip
    exact kr _ _ _ _ _ _ _ ⟨hI, fun i j h => rfl⟩ hP hS dX7_pass_7

theorem dX2_play_0 : decode cX2_play 0 = .ok (.iload_n 1, 1) := by decide +kernel
theorem dX2_play_1 : decode cX2_play 1 = .ok (.bipush 9, 2) := by decide +kernel
theorem dX2_play_3 : decode cX2_play 3 = .ok (.if_icmp .ne 13, 3) := by decide +kernel
theorem dX2_play_6 : decode cX2_play 6 = .ok (.aload_n 0, 1) := by decide +kernel
theorem dX2_play_7 : decode cX2_play 7 = .ok (.getfield 24, 3) := by decide +kernel
theorem dX2_play_10 : decode cX2_play 10 = .ok (.invokevirtual 79, 3) := by decide +kernel
theorem dX2_play_13 : decode cX2_play 13 = .ok (.goto 11, 3) := by decide +kernel
theorem dX2_play_16 : decode cX2_play 16 = .ok (.aload_n 0, 1) := by decide +kernel
theorem dX2_play_17 : decode cX2_play 17 = .ok (.getfield 24, 3) := by decide +kernel
theorem dX2_play_20 : decode cX2_play 20 = .ok (.iload_n 1, 1) := by decide +kernel
theorem dX2_play_21 : decode cX2_play 21 = .ok (.invokevirtual 82, 3) := by decide +kernel
theorem dX2_play_24 : decode cX2_play 24 = .ok (.return_, 1) := by decide +kernel
set_option maxHeartbeats 4000000 in
set_option maxRecDepth 100000 in
theorem s_X2_play_56 (l : Launch) (D : va_G) (K : Nat → ClassId) (ad : Nat → Nat) (mm : Option Nat) (N : Nat) (hNN : 132 ≤ N) (v ar : sI) (al : sL) (hI : XI v) (z_1 : Int) (hz_1 : -2147483648 ≤ z_1 ∧ z_1 ≤ 2147483647) : Met l yX2_play (wM yX2_play cX2_play 2 none) (rmD 2) (va_Pc [.ref (ad 56), .int (iI (z_1))] (wPre D K ad (xG ad K mm) N v ar al)) (va_Qv (fun u : sT => XI u.1 ∧ (∀ i j : Nat, (i, j) ∉ ([(57, 2), (57, 3), (57, 4), (57, 5), (57, 8), (57, 9)] : List (Nat × Nat)) → u.1 i j = v i j)) (wB D ad (xG ad K mm) N) (inW ad N)) 0 0 (inW ad N) := by
  refine s_metV (by decide) (Nat.le_of_ble_eq_true rfl) ?_
  intro p e s m below meth c ls args Q hE hB hl kr
  have hE : CallFix p m c cX2_play 2 s args tbG "TaleCourt$Game" := hE
  obtain ⟨hP, hK, hN⟩ := hB
  have hS : va_S (inW ad N) s.heap s.heap [] := va_S.rf
  have hl : lv_has ls 2 [(0, .ref (ad 56)), (1, .int (iI (z_1)))] := hl
  refine lv_iload_n hE.1 hE.2.1 dX2_play_0 rfl (lv_at hl 1 rfl) ?_
  refine lv_bipush (v := iI (9)) hE.1 hE.2.1 dX2_play_1 (by decide) ?_
  refine s_icmp_ne (a := z_1) (b := 9) (tgt := 16) hE.1 hE.2.1 (by omega) (by omega) dX2_play_3 (by decide) (fun c1 => ?_) (fun c1 => ?_)
  · skip
    refine lv_aload_n hE.1 hE.2.1 dX2_play_16 rfl (lv_at hl 0 rfl) ?_
    refine x_get (x := .ref (ad 57)) hE hK hP 56 (Nat.lt_of_lt_of_le (by decide) hNN) (xG_2 rfl) rfl hin2 1 (by decide) mw_421 rfl dX2_play_17 ?_
    refine lv_iload_n hE.1 hE.2.1 dX2_play_20 rfl (lv_at hl 1 rfl) ?_
    refine x_vv (nn := 1) (As := [.int (iI (z_1))]) (rest := []) hE hK hN hP hS (s_X7_tell_57 l D K ad mm N hNN v ar al hI  (z_1) (by omega)) (x_recv hK hP 57 (Nat.lt_of_lt_of_le (by decide) hNN) (xG_7 rfl) rfl) rfl mw_1061 mw_763 mw_764 mw_117 mw_765 (by decide +kernel) ⟨by decide, by decide⟩ hl.1 rfl (Nat.le_of_ble_eq_true rfl) ⟨Nat.zero_le _, Nat.zero_le _⟩ dX2_play_21 (fun v2 ar2 al2 H locs hq2 hP hS => ?_)
    obtain ⟨hI, hq2⟩ := hq2
    have hI : XI v2 := hI
    exact kr _ _ _ _ _ _ _ ⟨hI, fun i j h => (hq2 i j (fun q => h (mem_sub (by decide) q)))⟩ hP hS dX2_play_24
  · skip
    refine lv_aload_n hE.1 hE.2.1 dX2_play_6 rfl (lv_at hl 0 rfl) ?_
    refine x_get (x := .ref (ad 57)) hE hK hP 56 (Nat.lt_of_lt_of_le (by decide) hNN) (xG_2 rfl) rfl hin2 1 (by decide) mw_421 rfl dX2_play_7 ?_
    refine x_vv (nn := 0) (As := []) (rest := []) hE hK hN hP hS (s_X7_pass_57 l D K ad mm N hNN v ar al hI  ) (x_recv hK hP 57 (Nat.lt_of_lt_of_le (by decide) hNN) (xG_7 rfl) rfl) rfl mw_1060 mw_805 mw_806 mw_117 mw_807 (by decide +kernel) ⟨by decide, by decide⟩ hl.1 rfl (Nat.le_of_ble_eq_true rfl) ⟨Nat.zero_le _, Nat.zero_le _⟩ dX2_play_10 (fun v3 ar3 al3 H locs hq3 hP hS => ?_)
    obtain ⟨hI, hq3⟩ := hq3
    have hI : XI v3 := hI
    refine lv_goto (tgt := 24) hE.1 hE.2.1 dX2_play_13 (by decide) ?_
    exact kr _ _ _ _ _ _ _ ⟨hI, fun i j h => (hq3 i j (fun q => h (mem_sub (by decide) q)))⟩ hP hS dX2_play_24

set_option maxHeartbeats 4000000 in
set_option maxRecDepth 100000 in
theorem s_X7_untell_57 (l : Launch) (D : va_G) (K : Nat → ClassId) (ad : Nat → Nat) (mm : Option Nat) (N : Nat) (hNN : 132 ≤ N) (v ar : sI) (al : sL) (hI : XI v) (w_1 : Int) (hw_1 : 0 ≤ w_1 ∧ w_1 ≤ 17) (ew_1 : v 57 2 = iI w_1) (z_1 : Int) (hz_1 : 0 ≤ z_1 ∧ z_1 ≤ 8) : Met l yX7_untell (wM yX7_untell cX7_untell 3 none) (rmD 1) (va_Pc [.ref (ad 57), .int (iI (z_1))] (wPre D K ad (xG ad K mm) N v ar al)) (va_Qv (fun u : sT => XI u.1 ∧ (∀ i j : Nat, (i, j) ∉ ([(57, 3), (57, 5)] : List (Nat × Nat)) → u.1 i j = v i j)) (wB D ad (xG ad K mm) N) (inW ad N)) 0 0 (inW ad N) := by
  refine s_metV (by decide) (Nat.le_of_ble_eq_true rfl) ?_
  intro p e s m below meth c ls args Q hE hB hl kr
  have hE : CallFix p m c cX7_untell 3 s args tbG "TaleCourt$Telling" := hE
  obtain ⟨hP, hK, hN⟩ := hB
  have hS : va_S (inW ad N) s.heap s.heap [] := va_S.rf
  have hl : lv_has ls 3 [(0, .ref (ad 57)), (1, .int (iI (z_1)))] := hl
  refine lv_aload_n hE.1 hE.2.1 dX7_untell_0 rfl (lv_at hl 0 rfl) ?_
  refine lv_dup hE.1 hE.2.1 dX7_untell_1 rfl ?_
  obtain ⟨z1, hz1, ez1⟩ := iI_of (v 57 3)
  refine x_get (x := .int (v 57 3)) hE hK hP 57 (Nat.lt_of_lt_of_le (by decide) hNN) (xG_7 rfl) rfl hin7 3 (by decide) mw_305 rfl dX7_untell_2 ?_
  refine x_top (y := iI (z1)) ez1 ?_
  refine lv_iconst (v := iI (1)) hE.1 hE.2.1 dX7_untell_5 (by decide) ?_
  refine lv_iload_n hE.1 hE.2.1 dX7_untell_6 rfl (lv_at hl 1 rfl) ?_
  refine lv_ishl hE.1 hE.2.1 dX7_untell_7 ?_
  obtain ⟨z2, hz2, ez2⟩ := iI_shl1 (a := z_1) (by omega)
  refine x_top ez2 ?_
  refine lv_iconst (v := iI (-1)) hE.1 hE.2.1 dX7_untell_8 (by decide) ?_
  refine lv_ixor hE.1 hE.2.1 dX7_untell_9 ?_
  obtain ⟨z3, hz3, ez3⟩ := iI_of (iI (z2) ^^^ iI (-1))
  refine x_top ez3 ?_
  refine lv_iand hE.1 hE.2.1 dX7_untell_10 ?_
  obtain ⟨z4, hz4, ez4⟩ := iI_of (iI (z1) &&& iI (z3))
  refine x_top ez4 ?_
  refine x_put (x := iI (z4)) hE hK hN hP hS 57 (Nat.lt_of_lt_of_le (by decide) hNN) (xG_7 rfl) rfl hin7 tyX7 tyX7_ok nmX7 3 (by decide) mw_305 rfl rfl rfl (Nat.le_of_ble_eq_true rfl) (xG_7 rfl) dX7_untell_11 (fun v5 H locs hv5 hP hS => ?_)
  have hI := XI_putN hI hv5 (by decide)
  refine lv_aload_n hE.1 hE.2.1 dX7_untell_14 rfl (lv_at hl 0 rfl) ?_
  refine lv_dup hE.1 hE.2.1 dX7_untell_15 rfl ?_
  obtain ⟨z6, hz6, ez6⟩ := iI_of (v5 57 5)
  refine x_get (x := .int (v5 57 5)) hE hK hP 57 (Nat.lt_of_lt_of_le (by decide) hNN) (xG_7 rfl) rfl hin7 5 (by decide) mw_312 rfl dX7_untell_16 ?_
  refine x_top (y := iI (z6)) ez6 ?_
  refine lv_aload_n hE.1 hE.2.1 dX7_untell_19 rfl (lv_at hl 0 rfl) ?_
  refine x_get (x := .ref (ad 3)) hE hK hP 57 (Nat.lt_of_lt_of_le (by decide) hNN) (xG_7 rfl) rfl hin7 6 (by decide) mw_315 rfl dX7_untell_20 ?_
  refine lv_iload_n hE.1 hE.2.1 dX7_untell_23 rfl (lv_at hl 1 rfl) ?_
  refine x_vp (nn := 1) (As := [.int (iI (z_1))]) (rest := [.int (iI (z6)), .ref (ad 57)]) hE (s_X1_value_3 l D K ad mm N hNN v5 ar al hI  (z_1) (by omega)) wPre_blind (wPre_now hK hN hP) (x_recv hK hP 3 (Nat.lt_of_lt_of_le (by decide) hNN) (xG_1 rfl) rfl) rfl mw_775 mw_776 mw_777 mw_116 mw_778 (by decide +kernel) ⟨by decide, by decide⟩ hl.1 rfl (Nat.le_of_ble_eq_true rfl) ⟨Nat.zero_le _, Nat.zero_le _⟩ dX7_untell_24 (fun r7 hr7 => ?_)
  obtain ⟨z7, hz7, rfl⟩ := hr7
  refine lv_isub hE.1 hE.2.1 dX7_untell_27 ?_
  obtain ⟨z8, hz8, ez8⟩ := iI_of (iI (z6) - iI (z7))
  refine x_top ez8 ?_
  refine x_put (x := iI (z8)) hE hK hN hP hS 57 (Nat.lt_of_lt_of_le (by decide) hNN) (xG_7 rfl) rfl hin7 tyX7 tyX7_ok nmX7 5 (by decide) mw_312 rfl rfl rfl (Nat.le_of_ble_eq_true rfl) (xG_7 rfl) dX7_untell_28 (fun v9 H locs hv9 hP hS => ?_)
  have hI := XI_putN hI hv9 (by decide)
  refine lv_aload_n hE.1 hE.2.1 dX7_untell_31 rfl (lv_at hl 0 rfl) ?_
  refine x_get (x := .ref (ad 3)) hE hK hP 57 (Nat.lt_of_lt_of_le (by decide) hNN) (xG_7 rfl) rfl hin7 6 (by decide) mw_315 rfl dX7_untell_32 ?_
  refine x_get (x := .ref (ad 5)) hE hK hP 3 (Nat.lt_of_lt_of_le (by decide) hNN) (xG_1 rfl) rfl hin1 12 (by decide) mw_224 rfl dX7_untell_35 ?_
  refine lv_iload_n hE.1 hE.2.1 dX7_untell_38 rfl (lv_at hl 1 rfl) ?_
  refine x_iald (j := iI (z_1)) hE hK hP 5 (Nat.lt_of_lt_of_le (by decide) hNN) (xG_10 rfl) (iI_in (n := 9) (by omega)) dX7_untell_39 ?_
  obtain ⟨z11, hz11, ez11⟩ := iI_of (ar 5 (iI (z_1)).toNatClampNeg)
  refine x_top ez11 ?_
  refine lv_istore_n (lv' := [(2, .int (iI (z11))), (0, .ref (ad 57)), (1, .int (iI (z_1)))]) hE.1 hE.2.1 dX7_untell_40 rfl hl (by decide) rfl (fun ls hl => ?_)
  refine lv_iload_n hE.1 hE.2.1 dX7_untell_41 rfl (lv_at hl 0 rfl) ?_
  refine s_if_lt (a := z11) (tgt := 66) hE.1 hE.2.1 (by omega) dX7_untell_42 (by decide) (fun c12 => ?_) (fun c12 => ?_)
  · skip
    exact kr _ _ _ _ _ _ _ ⟨hI, fun i j h => ((up_oth hv9 (fun q => h (by rcases q with ⟨rfl, rfl⟩; decide))).trans (up_oth hv5 (fun q => h (by rcases q with ⟨rfl, rfl⟩; decide))))⟩ hP hS dX7_untell_66
  · skip
    refine lv_iload_n hE.1 hE.2.1 dX7_untell_45 rfl (lv_at hl 0 rfl) ?_
    refine lv_bipush (v := iI (9)) hE.1 hE.2.1 dX7_untell_46 (by decide) ?_
    refine s_icmp_ge (a := z11) (b := 9) (tgt := 66) hE.1 hE.2.1 (by omega) (by omega) dX7_untell_48 (by decide) (fun c13 => ?_) (fun c13 => ?_)
    · skip
      exact kr _ _ _ _ _ _ _ ⟨hI, fun i j h => ((up_oth hv9 (fun q => h (by rcases q with ⟨rfl, rfl⟩; decide))).trans (up_oth hv5 (fun q => h (by rcases q with ⟨rfl, rfl⟩; decide))))⟩ hP hS dX7_untell_66
    · skip
      refine lv_aload_n hE.1 hE.2.1 dX7_untell_51 rfl (lv_at hl 1 rfl) ?_
      refine x_get (x := .ref (ad 59)) hE hK hP 57 (Nat.lt_of_lt_of_le (by decide) hNN) (xG_7 rfl) rfl hin7 1 (by decide) mw_299 rfl dX7_untell_52 ?_
      refine lv_iload_n hE.1 hE.2.1 dX7_untell_55 rfl (lv_at hl 0 rfl) ?_
      refine lv_aload_n hE.1 hE.2.1 dX7_untell_56 rfl (lv_at hl 1 rfl) ?_
      refine x_get (x := .ref (ad 64)) hE hK hP 57 (Nat.lt_of_lt_of_le (by decide) hNN) (xG_7 rfl) rfl hin7 13 (by decide) mw_322 rfl dX7_untell_57 ?_
      refine lv_aload_n hE.1 hE.2.1 dX7_untell_60 rfl (lv_at hl 1 rfl) ?_
      refine x_get (x := .int (v9 57 2)) hE hK hP 57 (Nat.lt_of_lt_of_le (by decide) hNN) (xG_7 rfl) rfl hin7 2 (by decide) mw_301 rfl dX7_untell_61 ?_
      refine x_top (y := iI (w_1)) ((up_oth hv9 (by decide)).trans ((up_oth hv5 (by decide)).trans ew_1)) ?_
      refine x_iald (j := iI (w_1)) hE hK hP 64 (Nat.lt_of_lt_of_le (by decide) hNN) (xG_10 rfl) (iI_in (n := 18) (by omega)) dX7_untell_64 ?_
      obtain ⟨z15, hz15, ez15⟩ := iI_of (ar 64 (iI (w_1)).toNatClampNeg)
      refine x_top ez15 ?_
      refine x_iast (j := iI (z11)) hE hK hN hP hS 59 (Nat.lt_of_lt_of_le (by decide) hNN) (fun _ => xG_10 rfl) (iI_in (n := 9) (by omega)) dX7_untell_65 (fun ar16 H locs ha16 hP hS => ?_)
      exact kr _ _ _ _ _ _ _ ⟨hI, fun i j h => ((up_oth hv9 (fun q => h (by rcases q with ⟨rfl, rfl⟩; decide))).trans (up_oth hv5 (fun q => h (by rcases q with ⟨rfl, rfl⟩; decide))))⟩ hP hS dX7_untell_66

set_option maxHeartbeats 4000000 in
set_option maxRecDepth 100000 in
theorem s_X7_takeBack_57 (l : Launch) (D : va_G) (K : Nat → ClassId) (ad : Nat → Nat) (mm : Option Nat) (N : Nat) (hNN : 132 ≤ N) (v ar : sI) (al : sL) (hI : XI v) : Met l yX7_takeBack (wM yX7_takeBack cX7_takeBack 2 none) (rmD 2) (va_Pc [.ref (ad 57)] (wPre D K ad (xG ad K mm) N v ar al)) (va_Qv (fun u : sT => XI u.1 ∧ (∀ i j : Nat, (i, j) ∉ ([(57, 2), (57, 3), (57, 4), (57, 5), (57, 8), (57, 9)] : List (Nat × Nat)) → u.1 i j = v i j)) (wB D ad (xG ad K mm) N) (inW ad N)) 0 0 (inW ad N) := by
  refine s_metV (by decide) (Nat.le_of_ble_eq_true rfl) ?_
  intro p e s m below meth c ls args Q hE hB hl kr
  have hE : CallFix p m c cX7_takeBack 2 s args tbG "TaleCourt$Telling" := hE
  obtain ⟨hP, hK, hN⟩ := hB
  have hS : va_S (inW ad N) s.heap s.heap [] := va_S.rf
  have hl : lv_has ls 2 [(0, .ref (ad 57))] := hl
  refine lv_aload_n hE.1 hE.2.1 dX7_takeBack_0 rfl (lv_at hl 0 rfl) ?_
  obtain ⟨z1, hz1, ez1⟩ := XI_get hI 57 2 0 18 (by decide)
  refine x_get (x := .int (v 57 2)) hE hK hP 57 (Nat.lt_of_lt_of_le (by decide) hNN) (xG_7 rfl) rfl hin7 2 (by decide) mw_301 rfl dX7_takeBack_1 ?_
  refine x_top (y := iI (z1)) ez1 ?_
  refine s_if_le (a := z1) (tgt := 16) hE.1 hE.2.1 (by omega) dX7_takeBack_4 (by decide) (fun c2 => ?_) (fun c2 => ?_)
  · skip
    exact kr _ _ _ _ _ _ _ ⟨hI, fun i j h => rfl⟩ hP hS dX7_takeBack_16
  · skip
    refine lv_aload_n hE.1 hE.2.1 dX7_takeBack_7 rfl (lv_at hl 0 rfl) ?_
    refine x_get (x := .int (v 57 2)) hE hK hP 57 (Nat.lt_of_lt_of_le (by decide) hNN) (xG_7 rfl) rfl hin7 2 (by decide) mw_301 rfl dX7_takeBack_8 ?_
    refine x_top (y := iI (z1)) ez1 ?_
    refine lv_bipush (v := iI (18)) hE.1 hE.2.1 dX7_takeBack_11 (by decide) ?_
    refine s_icmp_le (a := z1) (b := 18) (tgt := 17) hE.1 hE.2.1 (by omega) (by omega) dX7_takeBack_13 (by decide) (fun _ => ?_) (fun c3 => False.elim (by omega))
    refine lv_aload_n hE.1 hE.2.1 dX7_takeBack_17 rfl (lv_at hl 0 rfl) ?_
    refine lv_dup hE.1 hE.2.1 dX7_takeBack_18 rfl ?_
    refine x_get (x := .int (v 57 2)) hE hK hP 57 (Nat.lt_of_lt_of_le (by decide) hNN) (xG_7 rfl) rfl hin7 2 (by decide) mw_301 rfl dX7_takeBack_19 ?_
    refine x_top (y := iI (z1)) ez1 ?_
    refine lv_iconst (v := iI (1)) hE.1 hE.2.1 dX7_takeBack_22 (by decide) ?_
    refine lv_isub hE.1 hE.2.1 dX7_takeBack_23 ?_
    refine x_top (y := iI (z1 - 1)) ((iI_sub (z1) (1)).trans (congrArg iI (by omega))) ?_
    refine x_put (x := iI (z1 - 1)) hE hK hN hP hS 57 (Nat.lt_of_lt_of_le (by decide) hNN) (xG_7 rfl) rfl hin7 tyX7 tyX7_ok nmX7 2 (by decide) mw_301 rfl rfl rfl (Nat.le_of_ble_eq_true rfl) (xG_7 rfl) dX7_takeBack_24 (fun v4 H locs hv4 hP hS => ?_)
    have hI := XI_putB (z := z1 - 1) hI hv4 0 18 (by omega) (by decide) (by omega)
    refine lv_aload_n hE.1 hE.2.1 dX7_takeBack_27 rfl (lv_at hl 0 rfl) ?_
    refine lv_aload_n hE.1 hE.2.1 dX7_takeBack_28 rfl (lv_at hl 0 rfl) ?_
    refine x_get (x := .ref (ad 61)) hE hK hP 57 (Nat.lt_of_lt_of_le (by decide) hNN) (xG_7 rfl) rfl hin7 10 (by decide) mw_319 rfl dX7_takeBack_29 ?_
    refine lv_aload_n hE.1 hE.2.1 dX7_takeBack_32 rfl (lv_at hl 0 rfl) ?_
    refine x_get (x := .int (v4 57 2)) hE hK hP 57 (Nat.lt_of_lt_of_le (by decide) hNN) (xG_7 rfl) rfl hin7 2 (by decide) mw_301 rfl dX7_takeBack_33 ?_
    refine x_top (y := iI (z1 - 1)) (up_eq hv4) ?_
    refine x_iald (j := iI (z1 - 1)) hE hK hP 61 (Nat.lt_of_lt_of_le (by decide) hNN) (xG_10 rfl) (iI_in (n := 18) (by omega)) dX7_takeBack_36 ?_
    obtain ⟨z6, hz6, ez6⟩ := iI_of (ar 61 (iI (z1 - 1)).toNatClampNeg)
    refine x_top ez6 ?_
    refine x_put (x := iI (z6)) hE hK hN hP hS 57 (Nat.lt_of_lt_of_le (by decide) hNN) (xG_7 rfl) rfl hin7 tyX7 tyX7_ok nmX7 4 (by decide) mw_309 rfl rfl rfl (Nat.le_of_ble_eq_true rfl) (xG_7 rfl) dX7_takeBack_37 (fun v7 H locs hv7 hP hS => ?_)
    have hI := XI_putN hI hv7 (by decide)
    refine lv_aload_n hE.1 hE.2.1 dX7_takeBack_40 rfl (lv_at hl 0 rfl) ?_
    refine lv_aload_n hE.1 hE.2.1 dX7_takeBack_41 rfl (lv_at hl 0 rfl) ?_
    refine x_get (x := .ref (ad 62)) hE hK hP 57 (Nat.lt_of_lt_of_le (by decide) hNN) (xG_7 rfl) rfl hin7 11 (by decide) mw_320 rfl dX7_takeBack_42 ?_
    refine lv_aload_n hE.1 hE.2.1 dX7_takeBack_45 rfl (lv_at hl 0 rfl) ?_
    refine x_get (x := .int (v7 57 2)) hE hK hP 57 (Nat.lt_of_lt_of_le (by decide) hNN) (xG_7 rfl) rfl hin7 2 (by decide) mw_301 rfl dX7_takeBack_46 ?_
    refine x_top (y := iI (z1 - 1)) ((up_oth hv7 (by decide)).trans (up_eq hv4)) ?_
    refine x_iald (j := iI (z1 - 1)) hE hK hP 62 (Nat.lt_of_lt_of_le (by decide) hNN) (xG_10 rfl) (iI_in (n := 18) (by omega)) dX7_takeBack_49 ?_
    obtain ⟨z9, hz9, ez9⟩ := iI_of (ar 62 (iI (z1 - 1)).toNatClampNeg)
    refine x_top ez9 ?_
    refine x_put (x := iI (z9)) hE hK hN hP hS 57 (Nat.lt_of_lt_of_le (by decide) hNN) (xG_7 rfl) rfl hin7 tyX7 tyX7_ok nmX7 8 (by decide) mw_317 rfl rfl rfl (Nat.le_of_ble_eq_true rfl) (xG_7 rfl) dX7_takeBack_50 (fun v10 H locs hv10 hP hS => ?_)
    have hI := XI_putN hI hv10 (by decide)
    refine lv_aload_n hE.1 hE.2.1 dX7_takeBack_53 rfl (lv_at hl 0 rfl) ?_
    refine lv_aload_n hE.1 hE.2.1 dX7_takeBack_54 rfl (lv_at hl 0 rfl) ?_
    refine x_get (x := .ref (ad 63)) hE hK hP 57 (Nat.lt_of_lt_of_le (by decide) hNN) (xG_7 rfl) rfl hin7 12 (by decide) mw_321 rfl dX7_takeBack_55 ?_
    refine lv_aload_n hE.1 hE.2.1 dX7_takeBack_58 rfl (lv_at hl 0 rfl) ?_
    refine x_get (x := .int (v10 57 2)) hE hK hP 57 (Nat.lt_of_lt_of_le (by decide) hNN) (xG_7 rfl) rfl hin7 2 (by decide) mw_301 rfl dX7_takeBack_59 ?_
    refine x_top (y := iI (z1 - 1)) ((up_oth hv10 (by decide)).trans ((up_oth hv7 (by decide)).trans (up_eq hv4))) ?_
    refine x_iald (j := iI (z1 - 1)) hE hK hP 63 (Nat.lt_of_lt_of_le (by decide) hNN) (xG_10 rfl) (iI_in (n := 18) (by omega)) dX7_takeBack_62 ?_
    obtain ⟨z12, hz12, ez12⟩ := iI_of (ar 63 (iI (z1 - 1)).toNatClampNeg)
    refine x_top ez12 ?_
    refine x_put (x := iI (z12)) hE hK hN hP hS 57 (Nat.lt_of_lt_of_le (by decide) hNN) (xG_7 rfl) rfl hin7 tyX7 tyX7_ok nmX7 9 (by decide) mw_318 rfl rfl rfl (Nat.le_of_ble_eq_true rfl) (xG_7 rfl) dX7_takeBack_63 (fun v13 H locs hv13 hP hS => ?_)
    have hI := XI_putN hI hv13 (by decide)
    refine lv_aload_n hE.1 hE.2.1 dX7_takeBack_66 rfl (lv_at hl 0 rfl) ?_
    refine x_get (x := .ref (ad 58)) hE hK hP 57 (Nat.lt_of_lt_of_le (by decide) hNN) (xG_7 rfl) rfl hin7 0 (by decide) mw_295 rfl dX7_takeBack_67 ?_
    refine lv_aload_n hE.1 hE.2.1 dX7_takeBack_70 rfl (lv_at hl 0 rfl) ?_
    refine x_get (x := .int (v13 57 2)) hE hK hP 57 (Nat.lt_of_lt_of_le (by decide) hNN) (xG_7 rfl) rfl hin7 2 (by decide) mw_301 rfl dX7_takeBack_71 ?_
    refine x_top (y := iI (z1 - 1)) ((up_oth hv13 (by decide)).trans ((up_oth hv10 (by decide)).trans ((up_oth hv7 (by decide)).trans (up_eq hv4)))) ?_
    refine x_iald (j := iI (z1 - 1)) hE hK hP 58 (Nat.lt_of_lt_of_le (by decide) hNN) (xG_10 rfl) (iI_in (n := 18) (by omega)) dX7_takeBack_74 ?_
    obtain ⟨z15, hz15, ez15⟩ := iI_of (ar 58 (iI (z1 - 1)).toNatClampNeg)
    refine x_top ez15 ?_
    refine lv_istore_n (lv' := [(1, .int (iI (z15))), (0, .ref (ad 57))]) hE.1 hE.2.1 dX7_takeBack_75 rfl hl (by decide) rfl (fun ls hl => ?_)
    refine lv_iload_n hE.1 hE.2.1 dX7_takeBack_76 rfl (lv_at hl 0 rfl) ?_
    refine s_if_lt (a := z15) (tgt := 94) hE.1 hE.2.1 (by omega) dX7_takeBack_77 (by decide) (fun c16 => ?_) (fun c16 => ?_)
    · skip
      refine lv_aload_n hE.1 hE.2.1 dX7_takeBack_94 rfl (lv_at hl 1 rfl) ?_
      refine x_get (x := .ref (ad 60)) hE hK hP 57 (Nat.lt_of_lt_of_le (by decide) hNN) (xG_7 rfl) rfl hin7 7 (by decide) mw_316 rfl dX7_takeBack_95 ?_
      refine lv_aload_n hE.1 hE.2.1 dX7_takeBack_98 rfl (lv_at hl 1 rfl) ?_
      refine x_vp (nn := 0) (As := []) (rest := [.ref (ad 60)]) hE (s_X7_teller_57 l D K ad mm N hNN v13 ar al hI  ) wPre_blind (wPre_now hK hN hP) (x_recv hK hP 57 (Nat.lt_of_lt_of_le (by decide) hNN) (xG_7 rfl) rfl) rfl mw_758 mw_759 mw_760 mw_117 mw_761 (by decide +kernel) ⟨by decide, by decide⟩ hl.1 rfl (Nat.le_of_ble_eq_true rfl) ⟨Nat.zero_le _, Nat.zero_le _⟩ dX7_takeBack_99 (fun r17 hr17 => ?_)
      obtain ⟨z17, hz17, rfl⟩ := hr17
      refine lv_dup2_11 hE.1 hE.2.1 dX7_takeBack_102 rfl rfl ?_
      refine x_iald (j := iI (z17)) hE hK hP 60 (Nat.lt_of_lt_of_le (by decide) hNN) (xG_10 rfl) (iI_in (n := 3) (by omega)) dX7_takeBack_103 ?_
      obtain ⟨z19, hz19, ez19⟩ := iI_of (ar 60 (iI (z17)).toNatClampNeg)
      refine x_top ez19 ?_
      refine lv_iconst (v := iI (1)) hE.1 hE.2.1 dX7_takeBack_104 (by decide) ?_
      refine lv_isub hE.1 hE.2.1 dX7_takeBack_105 ?_
      obtain ⟨z20, hz20, ez20⟩ := iI_of (iI (z19) - iI (1))
      refine x_top ez20 ?_
      refine x_iast (j := iI (z17)) hE hK hN hP hS 60 (Nat.lt_of_lt_of_le (by decide) hNN) (fun _ => xG_10 rfl) (iI_in (n := 3) (by omega)) dX7_takeBack_106 (fun ar21 H locs ha21 hP hS => ?_)
      exact kr _ _ _ _ _ _ _ ⟨hI, fun i j h => ((up_oth hv13 (fun q => h (by rcases q with ⟨rfl, rfl⟩; decide))).trans ((up_oth hv10 (fun q => h (by rcases q with ⟨rfl, rfl⟩; decide))).trans ((up_oth hv7 (fun q => h (by rcases q with ⟨rfl, rfl⟩; decide))).trans (up_oth hv4 (fun q => h (by rcases q with ⟨rfl, rfl⟩; decide))))))⟩ hP hS dX7_takeBack_107
    · skip
      refine lv_iload_n hE.1 hE.2.1 dX7_takeBack_80 rfl (lv_at hl 0 rfl) ?_
      refine lv_bipush (v := iI (9)) hE.1 hE.2.1 dX7_takeBack_81 (by decide) ?_
      refine s_icmp_ge (a := z15) (b := 9) (tgt := 94) hE.1 hE.2.1 (by omega) (by omega) dX7_takeBack_83 (by decide) (fun c22 => ?_) (fun c22 => ?_)
      · skip
        refine lv_aload_n hE.1 hE.2.1 dX7_takeBack_94 rfl (lv_at hl 1 rfl) ?_
        refine x_get (x := .ref (ad 60)) hE hK hP 57 (Nat.lt_of_lt_of_le (by decide) hNN) (xG_7 rfl) rfl hin7 7 (by decide) mw_316 rfl dX7_takeBack_95 ?_
        refine lv_aload_n hE.1 hE.2.1 dX7_takeBack_98 rfl (lv_at hl 1 rfl) ?_
        refine x_vp (nn := 0) (As := []) (rest := [.ref (ad 60)]) hE (s_X7_teller_57 l D K ad mm N hNN v13 ar al hI  ) wPre_blind (wPre_now hK hN hP) (x_recv hK hP 57 (Nat.lt_of_lt_of_le (by decide) hNN) (xG_7 rfl) rfl) rfl mw_758 mw_759 mw_760 mw_117 mw_761 (by decide +kernel) ⟨by decide, by decide⟩ hl.1 rfl (Nat.le_of_ble_eq_true rfl) ⟨Nat.zero_le _, Nat.zero_le _⟩ dX7_takeBack_99 (fun r23 hr23 => ?_)
        obtain ⟨z23, hz23, rfl⟩ := hr23
        refine lv_dup2_11 hE.1 hE.2.1 dX7_takeBack_102 rfl rfl ?_
        refine x_iald (j := iI (z23)) hE hK hP 60 (Nat.lt_of_lt_of_le (by decide) hNN) (xG_10 rfl) (iI_in (n := 3) (by omega)) dX7_takeBack_103 ?_
        obtain ⟨z25, hz25, ez25⟩ := iI_of (ar 60 (iI (z23)).toNatClampNeg)
        refine x_top ez25 ?_
        refine lv_iconst (v := iI (1)) hE.1 hE.2.1 dX7_takeBack_104 (by decide) ?_
        refine lv_isub hE.1 hE.2.1 dX7_takeBack_105 ?_
        obtain ⟨z26, hz26, ez26⟩ := iI_of (iI (z25) - iI (1))
        refine x_top ez26 ?_
        refine x_iast (j := iI (z23)) hE hK hN hP hS 60 (Nat.lt_of_lt_of_le (by decide) hNN) (fun _ => xG_10 rfl) (iI_in (n := 3) (by omega)) dX7_takeBack_106 (fun ar27 H locs ha27 hP hS => ?_)
        exact kr _ _ _ _ _ _ _ ⟨hI, fun i j h => ((up_oth hv13 (fun q => h (by rcases q with ⟨rfl, rfl⟩; decide))).trans ((up_oth hv10 (fun q => h (by rcases q with ⟨rfl, rfl⟩; decide))).trans ((up_oth hv7 (fun q => h (by rcases q with ⟨rfl, rfl⟩; decide))).trans (up_oth hv4 (fun q => h (by rcases q with ⟨rfl, rfl⟩; decide))))))⟩ hP hS dX7_takeBack_107
      · skip
        refine lv_aload_n hE.1 hE.2.1 dX7_takeBack_86 rfl (lv_at hl 1 rfl) ?_
        refine lv_iload_n hE.1 hE.2.1 dX7_takeBack_87 rfl (lv_at hl 0 rfl) ?_
        refine x_vv (nn := 1) (As := [.int (iI (z15))]) (rest := []) hE hK hN hP hS (s_X7_untell_57 l D K ad mm N hNN v13 ar al hI (z1 - 1) (by omega) ((up_oth hv13 (by decide)).trans ((up_oth hv10 (by decide)).trans ((up_oth hv7 (by decide)).trans (up_eq hv4)))) (z15) (by omega)) (x_recv hK hP 57 (Nat.lt_of_lt_of_le (by decide) hNN) (xG_7 rfl) rfl) rfl mw_816 mw_818 mw_21 mw_117 mw_819 (by decide +kernel) ⟨by decide, by decide⟩ hl.1 rfl (Nat.le_of_ble_eq_true rfl) ⟨Nat.zero_le _, Nat.zero_le _⟩ dX7_takeBack_88 (fun v28 ar28 al28 H locs hq28 hP hS => ?_)
        obtain ⟨hI, hq28⟩ := hq28
        have hI : XI v28 := hI
        refine lv_goto (tgt := 107) hE.1 hE.2.1 dX7_takeBack_91 (by decide) ?_
        exact kr _ _ _ _ _ _ _ ⟨hI, fun i j h => ((hq28 i j (fun q => h (mem_sub (by decide) q))).trans ((up_oth hv13 (fun q => h (by rcases q with ⟨rfl, rfl⟩; decide))).trans ((up_oth hv10 (fun q => h (by rcases q with ⟨rfl, rfl⟩; decide))).trans ((up_oth hv7 (fun q => h (by rcases q with ⟨rfl, rfl⟩; decide))).trans (up_oth hv4 (fun q => h (by rcases q with ⟨rfl, rfl⟩; decide)))))))⟩ hP hS dX7_takeBack_107

theorem dX2_solve_0 : decode cX2_solve 0 = .ok (.aload_n 0, 1) := by decide +kernel
theorem dX2_solve_1 : decode cX2_solve 1 = .ok (.invokevirtual 99, 3) := by decide +kernel
theorem dX2_solve_4 : decode cX2_solve 4 = .ok (.istore_n 2, 1) := by decide +kernel
theorem dX2_solve_5 : decode cX2_solve 5 = .ok (.iload_n 1, 1) := by decide +kernel
theorem dX2_solve_6 : decode cX2_solve 6 = .ok (.bipush 19, 2) := by decide +kernel
theorem dX2_solve_8 : decode cX2_solve 8 = .ok (.if_icmp .gt 20, 3) := by decide +kernel
theorem dX2_solve_11 : decode cX2_solve 11 = .ok (.iload_n 2, 1) := by decide +kernel
theorem dX2_solve_12 : decode cX2_solve 12 = .ok (.ifCond .lt 16, 3) := by decide +kernel
theorem dX2_solve_15 : decode cX2_solve 15 = .ok (.iload_n 2, 1) := by decide +kernel
theorem dX2_solve_16 : decode cX2_solve 16 = .ok (.ldc 36, 2) := by decide +kernel
theorem dX2_solve_18 : decode cX2_solve 18 = .ok (.if_icmp .ge 10, 3) := by decide +kernel
theorem dX2_solve_21 : decode cX2_solve 21 = .ok (.aload_n 0, 1) := by decide +kernel
theorem dX2_solve_22 : decode cX2_solve 22 = .ok (.getfield 11, 3) := by decide +kernel
theorem dX2_solve_25 : decode cX2_solve 25 = .ok (.ifnonnull 5, 3) := by decide +kernel
theorem dX2_solve_28 : decode cX2_solve 28 = .ok (.iconst 0, 1) := by decide +kernel
theorem dX2_solve_29 : decode cX2_solve 29 = .ok (.ireturn, 1) := by decide +kernel
theorem dX2_solve_30 : decode cX2_solve 30 = .ok (.aload_n 0, 1) := by decide +kernel
theorem dX2_solve_31 : decode cX2_solve 31 = .ok (.getfield 11, 3) := by decide +kernel
theorem dX2_solve_34 : decode cX2_solve 34 = .ok (.iload_n 2, 1) := by decide +kernel
theorem dX2_solve_35 : decode cX2_solve 35 = .ok (.iaload, 1) := by decide +kernel
theorem dX2_solve_36 : decode cX2_solve 36 = .ok (.bipush 6, 2) := by decide +kernel
theorem dX2_solve_38 : decode cX2_solve 38 = .ok (.ishr, 1) := by decide +kernel
theorem dX2_solve_39 : decode cX2_solve 39 = .ok (.aload_n 0, 1) := by decide +kernel
theorem dX2_solve_40 : decode cX2_solve 40 = .ok (.getfield 37, 3) := by decide +kernel
theorem dX2_solve_43 : decode cX2_solve 43 = .ok (.if_icmp .ne 13, 3) := by decide +kernel
theorem dX2_solve_46 : decode cX2_solve 46 = .ok (.aload_n 0, 1) := by decide +kernel
theorem dX2_solve_47 : decode cX2_solve 47 = .ok (.getfield 11, 3) := by decide +kernel
theorem dX2_solve_50 : decode cX2_solve 50 = .ok (.iload_n 2, 1) := by decide +kernel
theorem dX2_solve_51 : decode cX2_solve 51 = .ok (.iaload, 1) := by decide +kernel
theorem dX2_solve_52 : decode cX2_solve 52 = .ok (.bipush 63, 2) := by decide +kernel
theorem dX2_solve_54 : decode cX2_solve 54 = .ok (.iand, 1) := by decide +kernel
theorem dX2_solve_55 : decode cX2_solve 55 = .ok (.ireturn, 1) := by decide +kernel
theorem dX2_solve_56 : decode cX2_solve 56 = .ok (.aload_n 0, 1) := by decide +kernel
theorem dX2_solve_57 : decode cX2_solve 57 = .ok (.invokevirtual 45, 3) := by decide +kernel
theorem dX2_solve_60 : decode cX2_solve 60 = .ok (.istore_n 3, 1) := by decide +kernel
theorem dX2_solve_61 : decode cX2_solve 61 = .ok (.iconst (-1), 1) := by decide +kernel
theorem dX2_solve_62 : decode cX2_solve 62 = .ok (.istore 4, 2) := by decide +kernel
theorem dX2_solve_64 : decode cX2_solve 64 = .ok (.iconst 0, 1) := by decide +kernel
theorem dX2_solve_65 : decode cX2_solve 65 = .ok (.istore 5, 2) := by decide +kernel
theorem dX2_solve_67 : decode cX2_solve 67 = .ok (.iconst 0, 1) := by decide +kernel
theorem dX2_solve_68 : decode cX2_solve 68 = .ok (.istore 6, 2) := by decide +kernel
theorem dX2_solve_70 : decode cX2_solve 70 = .ok (.iload 6, 2) := by decide +kernel
theorem dX2_solve_72 : decode cX2_solve 72 = .ok (.bipush 9, 2) := by decide +kernel
theorem dX2_solve_74 : decode cX2_solve 74 = .ok (.if_icmp .gt 95, 3) := by decide +kernel
theorem dX2_solve_77 : decode cX2_solve 77 = .ok (.iload 4, 2) := by decide +kernel
theorem dX2_solve_79 : decode cX2_solve 79 = .ok (.ifCond .lt 10, 3) := by decide +kernel
theorem dX2_solve_82 : decode cX2_solve 82 = .ok (.aload_n 0, 1) := by decide +kernel
theorem dX2_solve_83 : decode cX2_solve 83 = .ok (.getfield 32, 3) := by decide +kernel
theorem dX2_solve_86 : decode cX2_solve 86 = .ok (.ifCond .ne 83, 3) := by decide +kernel
theorem dX2_solve_89 : decode cX2_solve 89 = .ok (.iload_n 3, 1) := by decide +kernel
theorem dX2_solve_90 : decode cX2_solve 90 = .ok (.iload 6, 2) := by decide +kernel
theorem dX2_solve_92 : decode cX2_solve 92 = .ok (.ishr, 1) := by decide +kernel
theorem dX2_solve_93 : decode cX2_solve 93 = .ok (.iconst 1, 1) := by decide +kernel
theorem dX2_solve_94 : decode cX2_solve 94 = .ok (.iand, 1) := by decide +kernel
theorem dX2_solve_95 : decode cX2_solve 95 = .ok (.ifCond .eq 68, 3) := by decide +kernel
theorem dX2_solve_98 : decode cX2_solve 98 = .ok (.aload_n 0, 1) := by decide +kernel
theorem dX2_solve_99 : decode cX2_solve 99 = .ok (.iload 6, 2) := by decide +kernel
theorem dX2_solve_101 : decode cX2_solve 101 = .ok (.invokevirtual 49, 3) := by decide +kernel
theorem dX2_solve_104 : decode cX2_solve 104 = .ok (.aload_n 0, 1) := by decide +kernel
theorem dX2_solve_105 : decode cX2_solve 105 = .ok (.iload_n 1, 1) := by decide +kernel
theorem dX2_solve_106 : decode cX2_solve 106 = .ok (.iconst 1, 1) := by decide +kernel
theorem dX2_solve_107 : decode cX2_solve 107 = .ok (.iadd, 1) := by decide +kernel
theorem dX2_solve_108 : decode cX2_solve 108 = .ok (.invokevirtual 41, 3) := by decide +kernel
theorem dX2_solve_111 : decode cX2_solve 111 = .ok (.istore 7, 2) := by decide +kernel
theorem dX2_solve_113 : decode cX2_solve 113 = .ok (.aload_n 0, 1) := by decide +kernel
theorem dX2_solve_114 : decode cX2_solve 114 = .ok (.getfield 24, 3) := by decide +kernel
theorem dX2_solve_117 : decode cX2_solve 117 = .ok (.invokevirtual 57, 3) := by decide +kernel
theorem dX2_solve_120 : decode cX2_solve 120 = .ok (.iload 7, 2) := by decide +kernel
theorem dX2_solve_122 : decode cX2_solve 122 = .ok (.iconst 1, 1) := by decide +kernel
theorem dX2_solve_123 : decode cX2_solve 123 = .ok (.ishr, 1) := by decide +kernel
theorem dX2_solve_124 : decode cX2_solve 124 = .ok (.iconst 1, 1) := by decide +kernel
theorem dX2_solve_125 : decode cX2_solve 125 = .ok (.iadd, 1) := by decide +kernel
theorem dX2_solve_126 : decode cX2_solve 126 = .ok (.istore 8, 2) := by decide +kernel
theorem dX2_solve_128 : decode cX2_solve 128 = .ok (.iload 7, 2) := by decide +kernel
theorem dX2_solve_130 : decode cX2_solve 130 = .ok (.iconst 1, 1) := by decide +kernel
theorem dX2_solve_131 : decode cX2_solve 131 = .ok (.iand, 1) := by decide +kernel
theorem dX2_solve_132 : decode cX2_solve 132 = .ok (.ifCond .eq 15, 3) := by decide +kernel
theorem dX2_solve_135 : decode cX2_solve 135 = .ok (.iload 5, 2) := by decide +kernel
theorem dX2_solve_137 : decode cX2_solve 137 = .ok (.iload 8, 2) := by decide +kernel
theorem dX2_solve_139 : decode cX2_solve 139 = .ok (.invokestatic 102, 3) := by decide +kernel
theorem dX2_solve_142 : decode cX2_solve 142 = .ok (.istore 5, 2) := by decide +kernel
theorem dX2_solve_144 : decode cX2_solve 144 = .ok (.goto 19, 3) := by decide +kernel
theorem dX2_solve_147 : decode cX2_solve 147 = .ok (.iload 4, 2) := by decide +kernel
theorem dX2_solve_149 : decode cX2_solve 149 = .ok (.ifCond .lt 10, 3) := by decide +kernel
theorem dX2_solve_152 : decode cX2_solve 152 = .ok (.iload 8, 2) := by decide +kernel
theorem dX2_solve_154 : decode cX2_solve 154 = .ok (.iload 4, 2) := by decide +kernel
theorem dX2_solve_156 : decode cX2_solve 156 = .ok (.if_icmp .ge 7, 3) := by decide +kernel
theorem dX2_solve_159 : decode cX2_solve 159 = .ok (.iload 8, 2) := by decide +kernel
theorem dX2_solve_161 : decode cX2_solve 161 = .ok (.istore 4, 2) := by decide +kernel
theorem dX2_solve_163 : decode cX2_solve 163 = .ok (.iinc 6 1, 3) := by decide +kernel
theorem dX2_solve_166 : decode cX2_solve 166 = .ok (.goto (-96), 3) := by decide +kernel
theorem dX2_solve_169 : decode cX2_solve 169 = .ok (.iload 4, 2) := by decide +kernel
theorem dX2_solve_171 : decode cX2_solve 171 = .ok (.ifCond .lt 12, 3) := by decide +kernel
theorem dX2_solve_174 : decode cX2_solve 174 = .ok (.iconst 2, 1) := by decide +kernel
theorem dX2_solve_175 : decode cX2_solve 175 = .ok (.iload 4, 2) := by decide +kernel
theorem dX2_solve_177 : decode cX2_solve 177 = .ok (.imul, 1) := by decide +kernel
theorem dX2_solve_178 : decode cX2_solve 178 = .ok (.iconst 1, 1) := by decide +kernel
theorem dX2_solve_179 : decode cX2_solve 179 = .ok (.iadd, 1) := by decide +kernel
theorem dX2_solve_180 : decode cX2_solve 180 = .ok (.goto 7, 3) := by decide +kernel
theorem dX2_solve_183 : decode cX2_solve 183 = .ok (.iconst 2, 1) := by decide +kernel
theorem dX2_solve_184 : decode cX2_solve 184 = .ok (.iload 5, 2) := by decide +kernel
theorem dX2_solve_186 : decode cX2_solve 186 = .ok (.imul, 1) := by decide +kernel
theorem dX2_solve_187 : decode cX2_solve 187 = .ok (.istore 6, 2) := by decide +kernel
theorem dX2_solve_189 : decode cX2_solve 189 = .ok (.aload_n 0, 1) := by decide +kernel
theorem dX2_solve_190 : decode cX2_solve 190 = .ok (.getfield 11, 3) := by decide +kernel
theorem dX2_solve_193 : decode cX2_solve 193 = .ok (.iload_n 2, 1) := by decide +kernel
theorem dX2_solve_194 : decode cX2_solve 194 = .ok (.aload_n 0, 1) := by decide +kernel
theorem dX2_solve_195 : decode cX2_solve 195 = .ok (.getfield 37, 3) := by decide +kernel
theorem dX2_solve_198 : decode cX2_solve 198 = .ok (.bipush 6, 2) := by decide +kernel
theorem dX2_solve_200 : decode cX2_solve 200 = .ok (.ishl, 1) := by decide +kernel
theorem dX2_solve_201 : decode cX2_solve 201 = .ok (.iload 6, 2) := by decide +kernel
theorem dX2_solve_203 : decode cX2_solve 203 = .ok (.ior, 1) := by decide +kernel
theorem dX2_solve_204 : decode cX2_solve 204 = .ok (.iastore, 1) := by decide +kernel
theorem dX2_solve_205 : decode cX2_solve 205 = .ok (.iload 6, 2) := by decide +kernel
theorem dX2_solve_207 : decode cX2_solve 207 = .ok (.ireturn, 1) := by decide +kernel
set_option maxHeartbeats 4000000 in
set_option maxRecDepth 100000 in
theorem s_X2_solve_56 (l : Launch) (D : va_G) (K : Nat → ClassId) (ad : Nat → Nat) : ∀ (k : Nat) (v ar : sI) (al : sL) (hI : XI v) (z_1 : Int) (hz_1 : 0 ≤ z_1 ∧ z_1 ≤ 21) (hk : 20 - z_1 ≤ k), Met l yX2_solve (wM yX2_solve cX2_solve 9 (some .int)) (rmD (3 + k)) (va_Pc [.ref (ad 56), .int (iI (z_1))] (wPre D K ad (xG ad K (some (ad 132))) 133 v ar al)) (va_Qi (fun (r : Int32) (u : sT) => (∃ z : Int, (-2147483648 ≤ z ∧ z ≤ 2147483647) ∧ r = iI z) ∧ XI u.1 ∧ (∀ i j : Nat, (i, j) ∉ ([(57, 2), (57, 3), (57, 4), (57, 5), (57, 8), (57, 9)] : List (Nat × Nat)) → u.1 i j = v i j)) (wB D ad (xG ad K (some (ad 132))) 133) (inW ad 133)) 0 0 (inW ad 133) := by
  intro k
  induction k with
  | zero =>
    intro v ar al hI z_1 hz_1 hk
    refine s_metI (by decide) (Nat.le_of_ble_eq_true rfl) ?_
    intro p e s m below meth c ls args Q hE hB hl kr
    have hE : CallFix p m c cX2_solve 9 s args tbG "TaleCourt$Game" := hE
    obtain ⟨hP, hK, hN⟩ := hB
    have hS : va_S (inW ad 133) s.heap s.heap [] := va_S.rf
    have hl : lv_has ls 9 [(0, .ref (ad 56)), (1, .int (iI (z_1)))] := hl
    refine lv_aload_n hE.1 hE.2.1 dX2_solve_0 rfl (lv_at hl 0 rfl) ?_
    refine x_vp (nn := 0) (As := []) (rest := []) hE (s_X2_position_56 l D K ad (some (ad 132)) 133 (by decide) v ar al hI  ) wPre_blind (wPre_now hK hN hP) (x_recv hK hP 56 (by decide) (xG_2 rfl) rfl) rfl mw_1045 mw_1047 mw_32 mw_120 mw_1048 (by decide +kernel) ⟨by simp only [rmD]; omega, by simp only [rmD]; omega⟩ hl.1 rfl (Nat.le_of_ble_eq_true rfl) ⟨Nat.zero_le _, Nat.zero_le _⟩ dX2_solve_1 (fun r1 hr1 => ?_)
    obtain ⟨z1, hz1, rfl⟩ := hr1
    refine lv_istore_n (lv' := [(2, .int (iI (z1))), (0, .ref (ad 56)), (1, .int (iI (z_1)))]) hE.1 hE.2.1 dX2_solve_4 rfl hl (by decide) rfl (fun ls hl => ?_)
    refine lv_iload_n hE.1 hE.2.1 dX2_solve_5 rfl (lv_at hl 2 rfl) ?_
    refine lv_bipush (v := iI (19)) hE.1 hE.2.1 dX2_solve_6 (by decide) ?_
    refine s_icmp_gt (a := z_1) (b := 19) (tgt := 28) hE.1 hE.2.1 (by omega) (by omega) dX2_solve_8 (by decide) (fun _ => ?_) (fun c2 => False.elim (by omega))
    refine lv_iconst (v := iI (0)) hE.1 hE.2.1 dX2_solve_28 (by decide) ?_
    exact kr _ _ _ _ _ _ _ _ rfl ⟨⟨0, by omega, rfl⟩, hI, fun i j h => rfl⟩ hP hS dX2_solve_29
  | succ k ih =>
    intro v ar al hI z_1 hz_1 hk
    refine s_metI (by decide) (Nat.le_of_ble_eq_true rfl) ?_
    intro p e s m below meth c ls args Q hE hB hl kr
    have hE : CallFix p m c cX2_solve 9 s args tbG "TaleCourt$Game" := hE
    obtain ⟨hP, hK, hN⟩ := hB
    have hS : va_S (inW ad 133) s.heap s.heap [] := va_S.rf
    have hl : lv_has ls 9 [(0, .ref (ad 56)), (1, .int (iI (z_1)))] := hl
    refine lv_aload_n hE.1 hE.2.1 dX2_solve_0 rfl (lv_at hl 0 rfl) ?_
    refine x_vp (nn := 0) (As := []) (rest := []) hE (s_X2_position_56 l D K ad (some (ad 132)) 133 (by decide) v ar al hI  ) wPre_blind (wPre_now hK hN hP) (x_recv hK hP 56 (by decide) (xG_2 rfl) rfl) rfl mw_1045 mw_1047 mw_32 mw_120 mw_1048 (by decide +kernel) ⟨by simp only [rmD]; omega, by simp only [rmD]; omega⟩ hl.1 rfl (Nat.le_of_ble_eq_true rfl) ⟨Nat.zero_le _, Nat.zero_le _⟩ dX2_solve_1 (fun r1 hr1 => ?_)
    obtain ⟨z1, hz1, rfl⟩ := hr1
    refine lv_istore_n (lv' := [(2, .int (iI (z1))), (0, .ref (ad 56)), (1, .int (iI (z_1)))]) hE.1 hE.2.1 dX2_solve_4 rfl hl (by decide) rfl (fun ls hl => ?_)
    refine lv_iload_n hE.1 hE.2.1 dX2_solve_5 rfl (lv_at hl 2 rfl) ?_
    refine lv_bipush (v := iI (19)) hE.1 hE.2.1 dX2_solve_6 (by decide) ?_
    refine s_icmp_gt (a := z_1) (b := 19) (tgt := 28) hE.1 hE.2.1 (by omega) (by omega) dX2_solve_8 (by decide) (fun c2 => ?_) (fun c2 => ?_)
    · skip
      refine lv_iconst (v := iI (0)) hE.1 hE.2.1 dX2_solve_28 (by decide) ?_
      exact kr _ _ _ _ _ _ _ _ rfl ⟨⟨0, by omega, rfl⟩, hI, fun i j h => rfl⟩ hP hS dX2_solve_29
    · skip
      refine lv_iload_n hE.1 hE.2.1 dX2_solve_11 rfl (lv_at hl 0 rfl) ?_
      refine s_if_lt (a := z1) (tgt := 28) hE.1 hE.2.1 (by omega) dX2_solve_12 (by decide) (fun c3 => ?_) (fun c3 => ?_)
      · skip
        refine lv_iconst (v := iI (0)) hE.1 hE.2.1 dX2_solve_28 (by decide) ?_
        exact kr _ _ _ _ _ _ _ _ rfl ⟨⟨0, by omega, rfl⟩, hI, fun i j h => rfl⟩ hP hS dX2_solve_29
      · skip
        refine lv_iload_n hE.1 hE.2.1 dX2_solve_15 rfl (lv_at hl 0 rfl) ?_
        refine lv_ldc (v := 36880) hE.1 hE.2.1 hE.2.2.2.1 (hE.2.2.2.2 _ mw_1036) dX2_solve_16 ?_
        refine x_top (y := iI (36880)) (by decide) ?_
        refine s_icmp_ge (a := z1) (b := 36880) (tgt := 28) hE.1 hE.2.1 (by omega) (by omega) dX2_solve_18 (by decide) (fun c4 => ?_) (fun c4 => ?_)
        · skip
          refine lv_iconst (v := iI (0)) hE.1 hE.2.1 dX2_solve_28 (by decide) ?_
          exact kr _ _ _ _ _ _ _ _ rfl ⟨⟨0, by omega, rfl⟩, hI, fun i j h => rfl⟩ hP hS dX2_solve_29
        · skip
          refine lv_aload_n hE.1 hE.2.1 dX2_solve_21 rfl (lv_at hl 1 rfl) ?_
          refine x_get (x := .ref (ad 132)) hE hK hP 56 (by decide) (xG_2 rfl) rfl hin2 2 (by decide) mw_422 rfl dX2_solve_22 ?_
          refine lv_ifnonnull (tgt := 30) hE.1 hE.2.1 dX2_solve_25 (by decide) ?_
          refine lv_aload_n hE.1 hE.2.1 dX2_solve_30 rfl (lv_at hl 1 rfl) ?_
          refine x_get (x := .ref (ad 132)) hE hK hP 56 (by decide) (xG_2 rfl) rfl hin2 2 (by decide) mw_422 rfl dX2_solve_31 ?_
          refine lv_iload_n hE.1 hE.2.1 dX2_solve_34 rfl (lv_at hl 0 rfl) ?_
          refine x_iald (j := iI (z1)) hE hK hP 132 (by decide) (xG_10 rfl) (iI_in (n := 36880) (by omega)) dX2_solve_35 ?_
          obtain ⟨z6, hz6, ez6⟩ := iI_of (ar 132 (iI (z1)).toNatClampNeg)
          refine x_top ez6 ?_
          refine lv_bipush (v := iI (6)) hE.1 hE.2.1 dX2_solve_36 (by decide) ?_
          refine lv_ishr hE.1 hE.2.1 dX2_solve_38 ?_
          obtain ⟨z7, hz7, ez7⟩ := iI_of (iI (z6) >>> (iI (6) &&& 31))
          refine x_top ez7 ?_
          refine lv_aload_n hE.1 hE.2.1 dX2_solve_39 rfl (lv_at hl 1 rfl) ?_
          obtain ⟨z8, hz8, ez8⟩ := iI_of (v 56 3)
          refine x_get (x := .int (v 56 3)) hE hK hP 56 (by decide) (xG_2 rfl) rfl hin2 3 (by decide) mw_423 rfl dX2_solve_40 ?_
          refine x_top (y := iI (z8)) ez8 ?_
          refine s_icmp_ne (a := z7) (b := z8) (tgt := 56) hE.1 hE.2.1 (by omega) (by omega) dX2_solve_43 (by decide) (fun c9 => ?_) (fun c9 => ?_)
          · skip
            refine lv_aload_n hE.1 hE.2.1 dX2_solve_56 rfl (lv_at hl 1 rfl) ?_
            refine x_vp (nn := 0) (As := []) (rest := []) hE (s_X2_movesNow_56 l D K ad (some (ad 132)) 133 (by decide) v ar al hI  ) wPre_blind (wPre_now hK hN hP) (x_recv hK hP 56 (by decide) (xG_2 rfl) rfl) rfl mw_1050 mw_1052 mw_33 mw_120 mw_1053 (by decide +kernel) ⟨by simp only [rmD]; omega, by simp only [rmD]; omega⟩ hl.1 rfl (Nat.le_of_ble_eq_true rfl) ⟨Nat.zero_le _, Nat.zero_le _⟩ dX2_solve_57 (fun r10 hr10 => ?_)
            obtain ⟨z10, hz10, rfl⟩ := hr10
            refine lv_istore_n (lv' := [(3, .int (iI (z10))), (2, .int (iI (z1))), (0, .ref (ad 56)), (1, .int (iI (z_1)))]) hE.1 hE.2.1 dX2_solve_60 rfl hl (by decide) rfl (fun ls hl => ?_)
            refine lv_iconst (v := iI (-1)) hE.1 hE.2.1 dX2_solve_61 (by decide) ?_
            refine lv_istore (lv' := [(4, .int (iI (-1))), (3, .int (iI (z10))), (2, .int (iI (z1))), (0, .ref (ad 56)), (1, .int (iI (z_1)))]) hE.1 hE.2.1 dX2_solve_62 hl (by decide) rfl (fun ls hl => ?_)
            refine lv_iconst (v := iI (0)) hE.1 hE.2.1 dX2_solve_64 (by decide) ?_
            refine lv_istore (lv' := [(5, .int (iI (0))), (4, .int (iI (-1))), (3, .int (iI (z10))), (2, .int (iI (z1))), (0, .ref (ad 56)), (1, .int (iI (z_1)))]) hE.1 hE.2.1 dX2_solve_65 hl (by decide) rfl (fun ls hl => ?_)
            refine lv_iconst (v := iI (0)) hE.1 hE.2.1 dX2_solve_67 (by decide) ?_
            refine lv_istore (lv' := [(6, .int (iI (0))), (5, .int (iI (0))), (4, .int (iI (-1))), (3, .int (iI (z10))), (2, .int (iI (z1))), (0, .ref (ad 56)), (1, .int (iI (z_1)))]) hE.1 hE.2.1 dX2_solve_68 hl (by decide) rfl (fun ls hl => ?_)
            have loop11 : ∀ (k11 : Nat) (y11_6 : Int) (y11_5 : Int) (y11_4 : Int) (vl11 arl11 : sI) (all11 : sL) (H : Heap) (locs : List Loc) (ls : Array Slot), (10 - y11_6).toNat = k11 → (0 ≤ y11_6 ∧ y11_6 ≤ 10) → (-2147483648 ≤ y11_5 ∧ y11_5 ≤ 2147483647) → (-2147483648 ≤ y11_4 ∧ y11_4 ≤ 2147483647) → XI vl11 → (∀ i j : Nat, (i, j) ∉ ([(57, 2), (57, 3), (57, 4), (57, 5), (57, 8), (57, 9)] : List (Nat × Nat)) → vl11 i j = v i j) → va_P D xcl (wW ad (xG ad K (some (ad 132))) 133 vl11 arl11 all11) H → va_S (inW ad 133) s.heap H locs → lv_has ls 9 [(6, .int (iI (y11_6))), (5, .int (iI (y11_5))), (4, .int (iI (y11_4))), (3, .int (iI (z10))), (2, .int (iI (z1))), (0, .ref (ad 56)), (1, .int (iI (z_1)))] → W p l e (rmD (3 + (k + 1))) s m args below meth c H locs 0 0 Q (F0 m 70 ls []) := by
              intro k11
              induction k11 using Nat.strongRecOn with
              | _ k11 ih11 =>
                intro y11_6 y11_5 y11_4 vl11 arl11 all11 H locs ls hk11 hb_y11_6 hb_y11_5 hb_y11_4 hI hfr11 hP hS hl
                refine lv_iload hE.1 hE.2.1 dX2_solve_70 (lv_at hl 0 rfl) ?_
                refine lv_bipush (v := iI (9)) hE.1 hE.2.1 dX2_solve_72 (by decide) ?_
                refine s_icmp_gt (a := y11_6) (b := 9) (tgt := 169) hE.1 hE.2.1 (by omega) (by omega) dX2_solve_74 (by decide) (fun c12 => ?_) (fun c12 => ?_)
                · skip
                  refine lv_iload hE.1 hE.2.1 dX2_solve_169 (lv_at hl 2 rfl) ?_
                  refine s_if_lt (a := y11_4) (tgt := 183) hE.1 hE.2.1 (by omega) dX2_solve_171 (by decide) (fun c13 => ?_) (fun c13 => ?_)
                  · skip
                    refine lv_iconst (v := iI (2)) hE.1 hE.2.1 dX2_solve_183 (by decide) ?_
                    refine lv_iload hE.1 hE.2.1 dX2_solve_184 (lv_at hl 1 rfl) ?_
                    refine lv_imul hE.1 hE.2.1 dX2_solve_186 ?_
                    obtain ⟨z14, hz14, ez14⟩ := iI_of (iI (2) * iI (y11_5))
                    refine x_top ez14 ?_
                    refine lv_istore (lv' := [(6, .int (iI (z14))), (5, .int (iI (y11_5))), (4, .int (iI (y11_4))), (3, .int (iI (z10))), (2, .int (iI (z1))), (0, .ref (ad 56)), (1, .int (iI (z_1)))]) hE.1 hE.2.1 dX2_solve_187 hl (by decide) rfl (fun ls hl => ?_)
                    refine lv_aload_n hE.1 hE.2.1 dX2_solve_189 rfl (lv_at hl 5 rfl) ?_
                    refine x_get (x := .ref (ad 132)) hE hK hP 56 (by decide) (xG_2 rfl) rfl hin2 2 (by decide) mw_422 rfl dX2_solve_190 ?_
                    refine lv_iload_n hE.1 hE.2.1 dX2_solve_193 rfl (lv_at hl 4 rfl) ?_
                    refine lv_aload_n hE.1 hE.2.1 dX2_solve_194 rfl (lv_at hl 5 rfl) ?_
                    refine x_get (x := .int (vl11 56 3)) hE hK hP 56 (by decide) (xG_2 rfl) rfl hin2 3 (by decide) mw_423 rfl dX2_solve_195 ?_
                    refine x_top (y := iI (z8)) ((hfr11 56 3 (by decide)).trans ez8) ?_
                    refine lv_bipush (v := iI (6)) hE.1 hE.2.1 dX2_solve_198 (by decide) ?_
                    refine lv_ishl hE.1 hE.2.1 dX2_solve_200 ?_
                    obtain ⟨z15, hz15, ez15⟩ := iI_of (iI (z8) <<< (iI (6) &&& 31))
                    refine x_top ez15 ?_
                    refine lv_iload hE.1 hE.2.1 dX2_solve_201 (lv_at hl 0 rfl) ?_
                    refine lv_ior hE.1 hE.2.1 dX2_solve_203 ?_
                    obtain ⟨z16, hz16, ez16⟩ := iI_of (iI (z15) ||| iI (z14))
                    refine x_top ez16 ?_
                    refine x_iast (j := iI (z1)) hE hK hN hP hS 132 (by decide) (fun _ => xG_10 rfl) (iI_in (n := 36880) (by omega)) dX2_solve_204 (fun ar17 H locs ha17 hP hS => ?_)
                    refine lv_iload hE.1 hE.2.1 dX2_solve_205 (lv_at hl 0 rfl) ?_
                    exact kr _ _ _ _ _ _ _ _ rfl ⟨⟨z14, by omega, rfl⟩, hI, fun i j h => (hfr11 i j (fun q => h (mem_sub (by decide) q)))⟩ hP hS dX2_solve_207
                  · skip
                    refine lv_iconst (v := iI (2)) hE.1 hE.2.1 dX2_solve_174 (by decide) ?_
                    refine lv_iload hE.1 hE.2.1 dX2_solve_175 (lv_at hl 2 rfl) ?_
                    refine lv_imul hE.1 hE.2.1 dX2_solve_177 ?_
                    obtain ⟨z18, hz18, ez18⟩ := iI_of (iI (2) * iI (y11_4))
                    refine x_top ez18 ?_
                    refine lv_iconst (v := iI (1)) hE.1 hE.2.1 dX2_solve_178 (by decide) ?_
                    refine lv_iadd hE.1 hE.2.1 dX2_solve_179 ?_
                    obtain ⟨z19, hz19, ez19⟩ := iI_of (iI (z18) + iI (1))
                    refine x_top ez19 ?_
                    refine lv_goto (tgt := 187) hE.1 hE.2.1 dX2_solve_180 (by decide) ?_
                    refine lv_istore (lv' := [(6, .int (iI (z19))), (5, .int (iI (y11_5))), (4, .int (iI (y11_4))), (3, .int (iI (z10))), (2, .int (iI (z1))), (0, .ref (ad 56)), (1, .int (iI (z_1)))]) hE.1 hE.2.1 dX2_solve_187 hl (by decide) rfl (fun ls hl => ?_)
                    refine lv_aload_n hE.1 hE.2.1 dX2_solve_189 rfl (lv_at hl 5 rfl) ?_
                    refine x_get (x := .ref (ad 132)) hE hK hP 56 (by decide) (xG_2 rfl) rfl hin2 2 (by decide) mw_422 rfl dX2_solve_190 ?_
                    refine lv_iload_n hE.1 hE.2.1 dX2_solve_193 rfl (lv_at hl 4 rfl) ?_
                    refine lv_aload_n hE.1 hE.2.1 dX2_solve_194 rfl (lv_at hl 5 rfl) ?_
                    refine x_get (x := .int (vl11 56 3)) hE hK hP 56 (by decide) (xG_2 rfl) rfl hin2 3 (by decide) mw_423 rfl dX2_solve_195 ?_
                    refine x_top (y := iI (z8)) ((hfr11 56 3 (by decide)).trans ez8) ?_
                    refine lv_bipush (v := iI (6)) hE.1 hE.2.1 dX2_solve_198 (by decide) ?_
                    refine lv_ishl hE.1 hE.2.1 dX2_solve_200 ?_
                    obtain ⟨z20, hz20, ez20⟩ := iI_of (iI (z8) <<< (iI (6) &&& 31))
                    refine x_top ez20 ?_
                    refine lv_iload hE.1 hE.2.1 dX2_solve_201 (lv_at hl 0 rfl) ?_
                    refine lv_ior hE.1 hE.2.1 dX2_solve_203 ?_
                    obtain ⟨z21, hz21, ez21⟩ := iI_of (iI (z20) ||| iI (z19))
                    refine x_top ez21 ?_
                    refine x_iast (j := iI (z1)) hE hK hN hP hS 132 (by decide) (fun _ => xG_10 rfl) (iI_in (n := 36880) (by omega)) dX2_solve_204 (fun ar22 H locs ha22 hP hS => ?_)
                    refine lv_iload hE.1 hE.2.1 dX2_solve_205 (lv_at hl 0 rfl) ?_
                    exact kr _ _ _ _ _ _ _ _ rfl ⟨⟨z19, by omega, rfl⟩, hI, fun i j h => (hfr11 i j (fun q => h (mem_sub (by decide) q)))⟩ hP hS dX2_solve_207
                · skip
                  refine lv_iload hE.1 hE.2.1 dX2_solve_77 (lv_at hl 2 rfl) ?_
                  refine s_if_lt (a := y11_4) (tgt := 89) hE.1 hE.2.1 (by omega) dX2_solve_79 (by decide) (fun c23 => ?_) (fun c23 => ?_)
                  · skip
                    refine lv_iload_n hE.1 hE.2.1 dX2_solve_89 rfl (lv_at hl 3 rfl) ?_
                    refine lv_iload hE.1 hE.2.1 dX2_solve_90 (lv_at hl 0 rfl) ?_
                    refine lv_ishr hE.1 hE.2.1 dX2_solve_92 ?_
                    obtain ⟨z24, hz24, ez24⟩ := iI_of (iI (z10) >>> (iI (y11_6) &&& 31))
                    refine x_top ez24 ?_
                    refine lv_iconst (v := iI (1)) hE.1 hE.2.1 dX2_solve_93 (by decide) ?_
                    refine lv_iand hE.1 hE.2.1 dX2_solve_94 ?_
                    obtain ⟨z25, hz25, ez25⟩ := iI_and (iI (z24)) (iI (1)) 1 (by decide)
                    refine x_top ez25 ?_
                    refine s_if_eq (a := z25) (tgt := 163) hE.1 hE.2.1 (by omega) dX2_solve_95 (by decide) (fun c26 => ?_) (fun c26 => ?_)
                    · skip
                      refine lv_iinc (v := iI (y11_6 + 1)) (lv' := [(6, .int (iI (y11_6 + 1))), (5, .int (iI (y11_5))), (4, .int (iI (y11_4))), (3, .int (iI (z10))), (2, .int (iI (z1))), (0, .ref (ad 56)), (1, .int (iI (z_1)))]) hE.1 hE.2.1 dX2_solve_163 hl (k := 0) rfl ((iI_add (y11_6) (1)).trans (congrArg iI (by omega))) (by decide) rfl (fun ls hl => ?_)
                      refine lv_goto (tgt := 70) hE.1 hE.2.1 dX2_solve_166 (by decide) ?_
                      exact ih11 _ (by omega) (y11_6 + 1) (y11_5) (y11_4) vl11 arl11 all11 _ _ _ rfl (by omega) (by omega) (by omega) hI (fun i j h => (hfr11 i j h)) hP hS (lv_sub hl [0, 1, 2, 3, 4, 5, 6] rfl)
                    · skip
                      refine lv_aload_n hE.1 hE.2.1 dX2_solve_98 rfl (lv_at hl 5 rfl) ?_
                      refine lv_iload hE.1 hE.2.1 dX2_solve_99 (lv_at hl 0 rfl) ?_
                      refine x_vv (nn := 1) (As := [.int (iI (y11_6))]) (rest := []) hE hK hN hP hS (s_X2_play_56 l D K ad (some (ad 132)) 133 (by decide) vl11 arl11 all11 hI  (y11_6) (by omega)) (x_recv hK hP 56 (by decide) (xG_2 rfl) rfl) rfl mw_1056 mw_1058 mw_34 mw_120 mw_1059 (by decide +kernel) ⟨by simp only [rmD]; omega, by simp only [rmD]; omega⟩ hl.1 rfl (Nat.le_of_ble_eq_true rfl) ⟨Nat.zero_le _, Nat.zero_le _⟩ dX2_solve_101 (fun v27 ar27 al27 H locs hq27 hP hS => ?_)
                      obtain ⟨hI, hq27⟩ := hq27
                      have hI : XI v27 := hI
                      refine lv_aload_n hE.1 hE.2.1 dX2_solve_104 rfl (lv_at hl 5 rfl) ?_
                      refine lv_iload_n hE.1 hE.2.1 dX2_solve_105 rfl (lv_at hl 6 rfl) ?_
                      refine lv_iconst (v := iI (1)) hE.1 hE.2.1 dX2_solve_106 (by decide) ?_
                      refine lv_iadd hE.1 hE.2.1 dX2_solve_107 ?_
                      refine x_top (y := iI (z_1 + 1)) ((iI_add (z_1) (1)).trans (congrArg iI (by omega))) ?_
                      refine x_vi (nn := 1) (As := [.int (iI (z_1 + 1))]) (rest := []) hE hK hN hP hS (ih v27 ar27 al27 hI (z_1 + 1) (by omega) (by omega)) (x_recv hK hP 56 (by decide) (xG_2 rfl) rfl) rfl mw_1041 mw_1043 mw_31 mw_120 mw_1044 (by decide +kernel) ⟨by simp only [rmD]; omega, by simp only [rmD]; omega⟩ hl.1 rfl (Nat.le_of_ble_eq_true rfl) ⟨Nat.zero_le _, Nat.zero_le _⟩ dX2_solve_108 (fun r28 v28 ar28 al28 H locs hq28 hP hS => ?_)
                      obtain ⟨⟨z28, hz28, rfl⟩, hI, hq28⟩ := hq28
                      have hI : XI v28 := hI
                      refine lv_istore (lv' := [(7, .int (iI (z28))), (6, .int (iI (y11_6))), (5, .int (iI (y11_5))), (4, .int (iI (y11_4))), (3, .int (iI (z10))), (2, .int (iI (z1))), (0, .ref (ad 56)), (1, .int (iI (z_1)))]) hE.1 hE.2.1 dX2_solve_111 hl (by decide) rfl (fun ls hl => ?_)
                      refine lv_aload_n hE.1 hE.2.1 dX2_solve_113 rfl (lv_at hl 6 rfl) ?_
                      refine x_get (x := .ref (ad 57)) hE hK hP 56 (by decide) (xG_2 rfl) rfl hin2 1 (by decide) mw_421 rfl dX2_solve_114 ?_
                      refine x_vv (nn := 0) (As := []) (rest := []) hE hK hN hP hS (s_X7_takeBack_57 l D K ad (some (ad 132)) 133 (by decide) v28 ar28 al28 hI  ) (x_recv hK hP 57 (by decide) (xG_7 rfl) rfl) rfl mw_1062 mw_813 mw_814 mw_117 mw_815 (by decide +kernel) ⟨by simp only [rmD]; omega, by simp only [rmD]; omega⟩ hl.1 rfl (Nat.le_of_ble_eq_true rfl) ⟨Nat.zero_le _, Nat.zero_le _⟩ dX2_solve_117 (fun v29 ar29 al29 H locs hq29 hP hS => ?_)
                      obtain ⟨hI, hq29⟩ := hq29
                      have hI : XI v29 := hI
                      refine lv_iload hE.1 hE.2.1 dX2_solve_120 (lv_at hl 0 rfl) ?_
                      refine lv_iconst (v := iI (1)) hE.1 hE.2.1 dX2_solve_122 (by decide) ?_
                      refine lv_ishr hE.1 hE.2.1 dX2_solve_123 ?_
                      obtain ⟨z30, hz30, ez30⟩ := iI_of (iI (z28) >>> (iI (1) &&& 31))
                      refine x_top ez30 ?_
                      refine lv_iconst (v := iI (1)) hE.1 hE.2.1 dX2_solve_124 (by decide) ?_
                      refine lv_iadd hE.1 hE.2.1 dX2_solve_125 ?_
                      obtain ⟨z31, hz31, ez31⟩ := iI_of (iI (z30) + iI (1))
                      refine x_top ez31 ?_
                      refine lv_istore (lv' := [(8, .int (iI (z31))), (7, .int (iI (z28))), (6, .int (iI (y11_6))), (5, .int (iI (y11_5))), (4, .int (iI (y11_4))), (3, .int (iI (z10))), (2, .int (iI (z1))), (0, .ref (ad 56)), (1, .int (iI (z_1)))]) hE.1 hE.2.1 dX2_solve_126 hl (by decide) rfl (fun ls hl => ?_)
                      refine lv_iload hE.1 hE.2.1 dX2_solve_128 (lv_at hl 1 rfl) ?_
                      refine lv_iconst (v := iI (1)) hE.1 hE.2.1 dX2_solve_130 (by decide) ?_
                      refine lv_iand hE.1 hE.2.1 dX2_solve_131 ?_
                      obtain ⟨z32, hz32, ez32⟩ := iI_and (iI (z28)) (iI (1)) 1 (by decide)
                      refine x_top ez32 ?_
                      refine s_if_eq (a := z32) (tgt := 147) hE.1 hE.2.1 (by omega) dX2_solve_132 (by decide) (fun c33 => ?_) (fun c33 => ?_)
                      · skip
                        refine lv_iload hE.1 hE.2.1 dX2_solve_147 (lv_at hl 4 rfl) ?_
                        refine s_if_lt (a := y11_4) (tgt := 159) hE.1 hE.2.1 (by omega) dX2_solve_149 (by decide) (fun _ => ?_) (fun c34 => False.elim (by omega))
                        refine lv_iload hE.1 hE.2.1 dX2_solve_159 (lv_at hl 0 rfl) ?_
                        refine lv_istore (lv' := [(4, .int (iI (z31))), (8, .int (iI (z31))), (7, .int (iI (z28))), (6, .int (iI (y11_6))), (5, .int (iI (y11_5))), (3, .int (iI (z10))), (2, .int (iI (z1))), (0, .ref (ad 56)), (1, .int (iI (z_1)))]) hE.1 hE.2.1 dX2_solve_161 hl (by decide) rfl (fun ls hl => ?_)
                        refine lv_iinc (v := iI (y11_6 + 1)) (lv' := [(6, .int (iI (y11_6 + 1))), (4, .int (iI (z31))), (8, .int (iI (z31))), (7, .int (iI (z28))), (5, .int (iI (y11_5))), (3, .int (iI (z10))), (2, .int (iI (z1))), (0, .ref (ad 56)), (1, .int (iI (z_1)))]) hE.1 hE.2.1 dX2_solve_163 hl (k := 3) rfl ((iI_add (y11_6) (1)).trans (congrArg iI (by omega))) (by decide) rfl (fun ls hl => ?_)
                        refine lv_goto (tgt := 70) hE.1 hE.2.1 dX2_solve_166 (by decide) ?_
                        exact ih11 _ (by omega) (y11_6 + 1) (y11_5) (z31) v29 ar29 al29 _ _ _ rfl (by omega) (by omega) (by omega) hI (fun i j h => (((hq29 i j (fun q => h (mem_sub (by decide) q))).trans ((hq28 i j (fun q => h (mem_sub (by decide) q))).trans (hq27 i j (fun q => h (mem_sub (by decide) q))))).trans (hfr11 i j h))) hP hS (lv_sub hl [0, 4, 1, 5, 6, 7, 8] rfl)
                      · skip
                        refine lv_iload hE.1 hE.2.1 dX2_solve_135 (lv_at hl 3 rfl) ?_
                        refine lv_iload hE.1 hE.2.1 dX2_solve_137 (lv_at hl 0 rfl) ?_
                        refine va_mmax (rest := []) hE.1 hE.2.1 (hE.2.2.1.trans hl.1.symm) hE.2.2.2.1 (hE.2.2.2.2 _ mw_1063) (hE.2.2.2.2 _ mw_893) (hE.2.2.2.2 _ mw_129) (hE.2.2.2.2 _ mw_894) (Nat.le_of_ble_eq_true rfl) (Nat.le_of_ble_eq_true rfl) (Nat.zero_le _) (Nat.zero_le _) dX2_solve_139 ?_
                        obtain ⟨z35, hz35, ez35⟩ := iI_max (a := y11_5) (b := z31) (by omega) (by omega)
                        refine x_top ez35 ?_
                        refine lv_istore (lv' := [(5, .int (iI (z35))), (8, .int (iI (z31))), (7, .int (iI (z28))), (6, .int (iI (y11_6))), (4, .int (iI (y11_4))), (3, .int (iI (z10))), (2, .int (iI (z1))), (0, .ref (ad 56)), (1, .int (iI (z_1)))]) hE.1 hE.2.1 dX2_solve_142 hl (by decide) rfl (fun ls hl => ?_)
                        refine lv_goto (tgt := 163) hE.1 hE.2.1 dX2_solve_144 (by decide) ?_
                        refine lv_iinc (v := iI (y11_6 + 1)) (lv' := [(6, .int (iI (y11_6 + 1))), (5, .int (iI (z35))), (8, .int (iI (z31))), (7, .int (iI (z28))), (4, .int (iI (y11_4))), (3, .int (iI (z10))), (2, .int (iI (z1))), (0, .ref (ad 56)), (1, .int (iI (z_1)))]) hE.1 hE.2.1 dX2_solve_163 hl (k := 3) rfl ((iI_add (y11_6) (1)).trans (congrArg iI (by omega))) (by decide) rfl (fun ls hl => ?_)
                        refine lv_goto (tgt := 70) hE.1 hE.2.1 dX2_solve_166 (by decide) ?_
                        exact ih11 _ (by omega) (y11_6 + 1) (z35) (y11_4) v29 ar29 al29 _ _ _ rfl (by omega) (by omega) (by omega) hI (fun i j h => (((hq29 i j (fun q => h (mem_sub (by decide) q))).trans ((hq28 i j (fun q => h (mem_sub (by decide) q))).trans (hq27 i j (fun q => h (mem_sub (by decide) q))))).trans (hfr11 i j h))) hP hS (lv_sub hl [0, 1, 4, 5, 6, 7, 8] rfl)
                  · skip
                    refine lv_aload_n hE.1 hE.2.1 dX2_solve_82 rfl (lv_at hl 5 rfl) ?_
                    obtain ⟨z36, hz36, ez36⟩ := iI_of (vl11 56 4)
                    refine x_get (x := .int (vl11 56 4)) hE hK hP 56 (by decide) (xG_2 rfl) rfl hin2 4 (by decide) mw_424 rfl dX2_solve_83 ?_
                    refine x_top (y := iI (z36)) ez36 ?_
                    refine s_if_ne (a := z36) (tgt := 169) hE.1 hE.2.1 (by omega) dX2_solve_86 (by decide) (fun c37 => ?_) (fun c37 => ?_)
                    · skip
                      refine lv_iload hE.1 hE.2.1 dX2_solve_169 (lv_at hl 2 rfl) ?_
                      refine s_if_lt (a := y11_4) (tgt := 183) hE.1 hE.2.1 (by omega) dX2_solve_171 (by decide) (fun c38 => False.elim (by omega)) (fun _ => ?_)
                      refine lv_iconst (v := iI (2)) hE.1 hE.2.1 dX2_solve_174 (by decide) ?_
                      refine lv_iload hE.1 hE.2.1 dX2_solve_175 (lv_at hl 2 rfl) ?_
                      refine lv_imul hE.1 hE.2.1 dX2_solve_177 ?_
                      obtain ⟨z39, hz39, ez39⟩ := iI_of (iI (2) * iI (y11_4))
                      refine x_top ez39 ?_
                      refine lv_iconst (v := iI (1)) hE.1 hE.2.1 dX2_solve_178 (by decide) ?_
                      refine lv_iadd hE.1 hE.2.1 dX2_solve_179 ?_
                      obtain ⟨z40, hz40, ez40⟩ := iI_of (iI (z39) + iI (1))
                      refine x_top ez40 ?_
                      refine lv_goto (tgt := 187) hE.1 hE.2.1 dX2_solve_180 (by decide) ?_
                      refine lv_istore (lv' := [(6, .int (iI (z40))), (5, .int (iI (y11_5))), (4, .int (iI (y11_4))), (3, .int (iI (z10))), (2, .int (iI (z1))), (0, .ref (ad 56)), (1, .int (iI (z_1)))]) hE.1 hE.2.1 dX2_solve_187 hl (by decide) rfl (fun ls hl => ?_)
                      refine lv_aload_n hE.1 hE.2.1 dX2_solve_189 rfl (lv_at hl 5 rfl) ?_
                      refine x_get (x := .ref (ad 132)) hE hK hP 56 (by decide) (xG_2 rfl) rfl hin2 2 (by decide) mw_422 rfl dX2_solve_190 ?_
                      refine lv_iload_n hE.1 hE.2.1 dX2_solve_193 rfl (lv_at hl 4 rfl) ?_
                      refine lv_aload_n hE.1 hE.2.1 dX2_solve_194 rfl (lv_at hl 5 rfl) ?_
                      refine x_get (x := .int (vl11 56 3)) hE hK hP 56 (by decide) (xG_2 rfl) rfl hin2 3 (by decide) mw_423 rfl dX2_solve_195 ?_
                      refine x_top (y := iI (z8)) ((hfr11 56 3 (by decide)).trans ez8) ?_
                      refine lv_bipush (v := iI (6)) hE.1 hE.2.1 dX2_solve_198 (by decide) ?_
                      refine lv_ishl hE.1 hE.2.1 dX2_solve_200 ?_
                      obtain ⟨z41, hz41, ez41⟩ := iI_of (iI (z8) <<< (iI (6) &&& 31))
                      refine x_top ez41 ?_
                      refine lv_iload hE.1 hE.2.1 dX2_solve_201 (lv_at hl 0 rfl) ?_
                      refine lv_ior hE.1 hE.2.1 dX2_solve_203 ?_
                      obtain ⟨z42, hz42, ez42⟩ := iI_of (iI (z41) ||| iI (z40))
                      refine x_top ez42 ?_
                      refine x_iast (j := iI (z1)) hE hK hN hP hS 132 (by decide) (fun _ => xG_10 rfl) (iI_in (n := 36880) (by omega)) dX2_solve_204 (fun ar43 H locs ha43 hP hS => ?_)
                      refine lv_iload hE.1 hE.2.1 dX2_solve_205 (lv_at hl 0 rfl) ?_
                      exact kr _ _ _ _ _ _ _ _ rfl ⟨⟨z40, by omega, rfl⟩, hI, fun i j h => (hfr11 i j (fun q => h (mem_sub (by decide) q)))⟩ hP hS dX2_solve_207
                    · skip
                      refine lv_iload_n hE.1 hE.2.1 dX2_solve_89 rfl (lv_at hl 3 rfl) ?_
                      refine lv_iload hE.1 hE.2.1 dX2_solve_90 (lv_at hl 0 rfl) ?_
                      refine lv_ishr hE.1 hE.2.1 dX2_solve_92 ?_
                      obtain ⟨z44, hz44, ez44⟩ := iI_of (iI (z10) >>> (iI (y11_6) &&& 31))
                      refine x_top ez44 ?_
                      refine lv_iconst (v := iI (1)) hE.1 hE.2.1 dX2_solve_93 (by decide) ?_
                      refine lv_iand hE.1 hE.2.1 dX2_solve_94 ?_
                      obtain ⟨z45, hz45, ez45⟩ := iI_and (iI (z44)) (iI (1)) 1 (by decide)
                      refine x_top ez45 ?_
                      refine s_if_eq (a := z45) (tgt := 163) hE.1 hE.2.1 (by omega) dX2_solve_95 (by decide) (fun c46 => ?_) (fun c46 => ?_)
                      · skip
                        refine lv_iinc (v := iI (y11_6 + 1)) (lv' := [(6, .int (iI (y11_6 + 1))), (5, .int (iI (y11_5))), (4, .int (iI (y11_4))), (3, .int (iI (z10))), (2, .int (iI (z1))), (0, .ref (ad 56)), (1, .int (iI (z_1)))]) hE.1 hE.2.1 dX2_solve_163 hl (k := 0) rfl ((iI_add (y11_6) (1)).trans (congrArg iI (by omega))) (by decide) rfl (fun ls hl => ?_)
                        refine lv_goto (tgt := 70) hE.1 hE.2.1 dX2_solve_166 (by decide) ?_
                        exact ih11 _ (by omega) (y11_6 + 1) (y11_5) (y11_4) vl11 arl11 all11 _ _ _ rfl (by omega) (by omega) (by omega) hI (fun i j h => (hfr11 i j h)) hP hS (lv_sub hl [0, 1, 2, 3, 4, 5, 6] rfl)
                      · skip
                        refine lv_aload_n hE.1 hE.2.1 dX2_solve_98 rfl (lv_at hl 5 rfl) ?_
                        refine lv_iload hE.1 hE.2.1 dX2_solve_99 (lv_at hl 0 rfl) ?_
                        refine x_vv (nn := 1) (As := [.int (iI (y11_6))]) (rest := []) hE hK hN hP hS (s_X2_play_56 l D K ad (some (ad 132)) 133 (by decide) vl11 arl11 all11 hI  (y11_6) (by omega)) (x_recv hK hP 56 (by decide) (xG_2 rfl) rfl) rfl mw_1056 mw_1058 mw_34 mw_120 mw_1059 (by decide +kernel) ⟨by simp only [rmD]; omega, by simp only [rmD]; omega⟩ hl.1 rfl (Nat.le_of_ble_eq_true rfl) ⟨Nat.zero_le _, Nat.zero_le _⟩ dX2_solve_101 (fun v47 ar47 al47 H locs hq47 hP hS => ?_)
                        obtain ⟨hI, hq47⟩ := hq47
                        have hI : XI v47 := hI
                        refine lv_aload_n hE.1 hE.2.1 dX2_solve_104 rfl (lv_at hl 5 rfl) ?_
                        refine lv_iload_n hE.1 hE.2.1 dX2_solve_105 rfl (lv_at hl 6 rfl) ?_
                        refine lv_iconst (v := iI (1)) hE.1 hE.2.1 dX2_solve_106 (by decide) ?_
                        refine lv_iadd hE.1 hE.2.1 dX2_solve_107 ?_
                        refine x_top (y := iI (z_1 + 1)) ((iI_add (z_1) (1)).trans (congrArg iI (by omega))) ?_
                        refine x_vi (nn := 1) (As := [.int (iI (z_1 + 1))]) (rest := []) hE hK hN hP hS (ih v47 ar47 al47 hI (z_1 + 1) (by omega) (by omega)) (x_recv hK hP 56 (by decide) (xG_2 rfl) rfl) rfl mw_1041 mw_1043 mw_31 mw_120 mw_1044 (by decide +kernel) ⟨by simp only [rmD]; omega, by simp only [rmD]; omega⟩ hl.1 rfl (Nat.le_of_ble_eq_true rfl) ⟨Nat.zero_le _, Nat.zero_le _⟩ dX2_solve_108 (fun r48 v48 ar48 al48 H locs hq48 hP hS => ?_)
                        obtain ⟨⟨z48, hz48, rfl⟩, hI, hq48⟩ := hq48
                        have hI : XI v48 := hI
                        refine lv_istore (lv' := [(7, .int (iI (z48))), (6, .int (iI (y11_6))), (5, .int (iI (y11_5))), (4, .int (iI (y11_4))), (3, .int (iI (z10))), (2, .int (iI (z1))), (0, .ref (ad 56)), (1, .int (iI (z_1)))]) hE.1 hE.2.1 dX2_solve_111 hl (by decide) rfl (fun ls hl => ?_)
                        refine lv_aload_n hE.1 hE.2.1 dX2_solve_113 rfl (lv_at hl 6 rfl) ?_
                        refine x_get (x := .ref (ad 57)) hE hK hP 56 (by decide) (xG_2 rfl) rfl hin2 1 (by decide) mw_421 rfl dX2_solve_114 ?_
                        refine x_vv (nn := 0) (As := []) (rest := []) hE hK hN hP hS (s_X7_takeBack_57 l D K ad (some (ad 132)) 133 (by decide) v48 ar48 al48 hI  ) (x_recv hK hP 57 (by decide) (xG_7 rfl) rfl) rfl mw_1062 mw_813 mw_814 mw_117 mw_815 (by decide +kernel) ⟨by simp only [rmD]; omega, by simp only [rmD]; omega⟩ hl.1 rfl (Nat.le_of_ble_eq_true rfl) ⟨Nat.zero_le _, Nat.zero_le _⟩ dX2_solve_117 (fun v49 ar49 al49 H locs hq49 hP hS => ?_)
                        obtain ⟨hI, hq49⟩ := hq49
                        have hI : XI v49 := hI
                        refine lv_iload hE.1 hE.2.1 dX2_solve_120 (lv_at hl 0 rfl) ?_
                        refine lv_iconst (v := iI (1)) hE.1 hE.2.1 dX2_solve_122 (by decide) ?_
                        refine lv_ishr hE.1 hE.2.1 dX2_solve_123 ?_
                        obtain ⟨z50, hz50, ez50⟩ := iI_of (iI (z48) >>> (iI (1) &&& 31))
                        refine x_top ez50 ?_
                        refine lv_iconst (v := iI (1)) hE.1 hE.2.1 dX2_solve_124 (by decide) ?_
                        refine lv_iadd hE.1 hE.2.1 dX2_solve_125 ?_
                        obtain ⟨z51, hz51, ez51⟩ := iI_of (iI (z50) + iI (1))
                        refine x_top ez51 ?_
                        refine lv_istore (lv' := [(8, .int (iI (z51))), (7, .int (iI (z48))), (6, .int (iI (y11_6))), (5, .int (iI (y11_5))), (4, .int (iI (y11_4))), (3, .int (iI (z10))), (2, .int (iI (z1))), (0, .ref (ad 56)), (1, .int (iI (z_1)))]) hE.1 hE.2.1 dX2_solve_126 hl (by decide) rfl (fun ls hl => ?_)
                        refine lv_iload hE.1 hE.2.1 dX2_solve_128 (lv_at hl 1 rfl) ?_
                        refine lv_iconst (v := iI (1)) hE.1 hE.2.1 dX2_solve_130 (by decide) ?_
                        refine lv_iand hE.1 hE.2.1 dX2_solve_131 ?_
                        obtain ⟨z52, hz52, ez52⟩ := iI_and (iI (z48)) (iI (1)) 1 (by decide)
                        refine x_top ez52 ?_
                        refine s_if_eq (a := z52) (tgt := 147) hE.1 hE.2.1 (by omega) dX2_solve_132 (by decide) (fun c53 => ?_) (fun c53 => ?_)
                        · skip
                          refine lv_iload hE.1 hE.2.1 dX2_solve_147 (lv_at hl 4 rfl) ?_
                          refine s_if_lt (a := y11_4) (tgt := 159) hE.1 hE.2.1 (by omega) dX2_solve_149 (by decide) (fun c54 => False.elim (by omega)) (fun _ => ?_)
                          refine lv_iload hE.1 hE.2.1 dX2_solve_152 (lv_at hl 0 rfl) ?_
                          refine lv_iload hE.1 hE.2.1 dX2_solve_154 (lv_at hl 4 rfl) ?_
                          refine s_icmp_ge (a := z51) (b := y11_4) (tgt := 163) hE.1 hE.2.1 (by omega) (by omega) dX2_solve_156 (by decide) (fun c55 => ?_) (fun c55 => ?_)
                          · skip
                            refine lv_iinc (v := iI (y11_6 + 1)) (lv' := [(6, .int (iI (y11_6 + 1))), (8, .int (iI (z51))), (7, .int (iI (z48))), (5, .int (iI (y11_5))), (4, .int (iI (y11_4))), (3, .int (iI (z10))), (2, .int (iI (z1))), (0, .ref (ad 56)), (1, .int (iI (z_1)))]) hE.1 hE.2.1 dX2_solve_163 hl (k := 2) rfl ((iI_add (y11_6) (1)).trans (congrArg iI (by omega))) (by decide) rfl (fun ls hl => ?_)
                            refine lv_goto (tgt := 70) hE.1 hE.2.1 dX2_solve_166 (by decide) ?_
                            exact ih11 _ (by omega) (y11_6 + 1) (y11_5) (y11_4) v49 ar49 al49 _ _ _ rfl (by omega) (by omega) (by omega) hI (fun i j h => (((hq49 i j (fun q => h (mem_sub (by decide) q))).trans ((hq48 i j (fun q => h (mem_sub (by decide) q))).trans (hq47 i j (fun q => h (mem_sub (by decide) q))))).trans (hfr11 i j h))) hP hS (lv_sub hl [0, 3, 4, 5, 6, 7, 8] rfl)
                          · skip
                            refine lv_iload hE.1 hE.2.1 dX2_solve_159 (lv_at hl 0 rfl) ?_
                            refine lv_istore (lv' := [(4, .int (iI (z51))), (8, .int (iI (z51))), (7, .int (iI (z48))), (6, .int (iI (y11_6))), (5, .int (iI (y11_5))), (3, .int (iI (z10))), (2, .int (iI (z1))), (0, .ref (ad 56)), (1, .int (iI (z_1)))]) hE.1 hE.2.1 dX2_solve_161 hl (by decide) rfl (fun ls hl => ?_)
                            refine lv_iinc (v := iI (y11_6 + 1)) (lv' := [(6, .int (iI (y11_6 + 1))), (4, .int (iI (z51))), (8, .int (iI (z51))), (7, .int (iI (z48))), (5, .int (iI (y11_5))), (3, .int (iI (z10))), (2, .int (iI (z1))), (0, .ref (ad 56)), (1, .int (iI (z_1)))]) hE.1 hE.2.1 dX2_solve_163 hl (k := 3) rfl ((iI_add (y11_6) (1)).trans (congrArg iI (by omega))) (by decide) rfl (fun ls hl => ?_)
                            refine lv_goto (tgt := 70) hE.1 hE.2.1 dX2_solve_166 (by decide) ?_
                            exact ih11 _ (by omega) (y11_6 + 1) (y11_5) (z51) v49 ar49 al49 _ _ _ rfl (by omega) (by omega) (by omega) hI (fun i j h => (((hq49 i j (fun q => h (mem_sub (by decide) q))).trans ((hq48 i j (fun q => h (mem_sub (by decide) q))).trans (hq47 i j (fun q => h (mem_sub (by decide) q))))).trans (hfr11 i j h))) hP hS (lv_sub hl [0, 4, 1, 5, 6, 7, 8] rfl)
                        · skip
                          refine lv_iload hE.1 hE.2.1 dX2_solve_135 (lv_at hl 3 rfl) ?_
                          refine lv_iload hE.1 hE.2.1 dX2_solve_137 (lv_at hl 0 rfl) ?_
                          refine va_mmax (rest := []) hE.1 hE.2.1 (hE.2.2.1.trans hl.1.symm) hE.2.2.2.1 (hE.2.2.2.2 _ mw_1063) (hE.2.2.2.2 _ mw_893) (hE.2.2.2.2 _ mw_129) (hE.2.2.2.2 _ mw_894) (Nat.le_of_ble_eq_true rfl) (Nat.le_of_ble_eq_true rfl) (Nat.zero_le _) (Nat.zero_le _) dX2_solve_139 ?_
                          obtain ⟨z56, hz56, ez56⟩ := iI_max (a := y11_5) (b := z51) (by omega) (by omega)
                          refine x_top ez56 ?_
                          refine lv_istore (lv' := [(5, .int (iI (z56))), (8, .int (iI (z51))), (7, .int (iI (z48))), (6, .int (iI (y11_6))), (4, .int (iI (y11_4))), (3, .int (iI (z10))), (2, .int (iI (z1))), (0, .ref (ad 56)), (1, .int (iI (z_1)))]) hE.1 hE.2.1 dX2_solve_142 hl (by decide) rfl (fun ls hl => ?_)
                          refine lv_goto (tgt := 163) hE.1 hE.2.1 dX2_solve_144 (by decide) ?_
                          refine lv_iinc (v := iI (y11_6 + 1)) (lv' := [(6, .int (iI (y11_6 + 1))), (5, .int (iI (z56))), (8, .int (iI (z51))), (7, .int (iI (z48))), (4, .int (iI (y11_4))), (3, .int (iI (z10))), (2, .int (iI (z1))), (0, .ref (ad 56)), (1, .int (iI (z_1)))]) hE.1 hE.2.1 dX2_solve_163 hl (k := 3) rfl ((iI_add (y11_6) (1)).trans (congrArg iI (by omega))) (by decide) rfl (fun ls hl => ?_)
                          refine lv_goto (tgt := 70) hE.1 hE.2.1 dX2_solve_166 (by decide) ?_
                          exact ih11 _ (by omega) (y11_6 + 1) (z56) (y11_4) v49 ar49 al49 _ _ _ rfl (by omega) (by omega) (by omega) hI (fun i j h => (((hq49 i j (fun q => h (mem_sub (by decide) q))).trans ((hq48 i j (fun q => h (mem_sub (by decide) q))).trans (hq47 i j (fun q => h (mem_sub (by decide) q))))).trans (hfr11 i j h))) hP hS (lv_sub hl [0, 1, 4, 5, 6, 7, 8] rfl)
            exact loop11 _ (0) (0) (-1) v ar al _ _ _ rfl (by omega) (by omega) (by omega) hI (fun _ _ _ => rfl) hP hS hl
          · skip
            refine lv_aload_n hE.1 hE.2.1 dX2_solve_46 rfl (lv_at hl 1 rfl) ?_
            refine x_get (x := .ref (ad 132)) hE hK hP 56 (by decide) (xG_2 rfl) rfl hin2 2 (by decide) mw_422 rfl dX2_solve_47 ?_
            refine lv_iload_n hE.1 hE.2.1 dX2_solve_50 rfl (lv_at hl 0 rfl) ?_
            refine x_iald (j := iI (z1)) hE hK hP 132 (by decide) (xG_10 rfl) (iI_in (n := 36880) (by omega)) dX2_solve_51 ?_
            obtain ⟨z58, hz58, ez58⟩ := iI_of (ar 132 (iI (z1)).toNatClampNeg)
            refine x_top ez58 ?_
            refine lv_bipush (v := iI (63)) hE.1 hE.2.1 dX2_solve_52 (by decide) ?_
            refine lv_iand hE.1 hE.2.1 dX2_solve_54 ?_
            obtain ⟨z59, hz59, ez59⟩ := iI_and (iI (z58)) (iI (63)) 6 (by decide)
            refine x_top ez59 ?_
            exact kr _ _ _ _ _ _ _ _ rfl ⟨⟨z59, by omega, rfl⟩, hI, fun i j h => rfl⟩ hP hS dX2_solve_55

theorem dX2_isWon_0 : decode cX2_isWon 0 = .ok (.aload_n 0, 1) := by decide +kernel
theorem dX2_isWon_1 : decode cX2_isWon 1 = .ok (.iconst 0, 1) := by decide +kernel
theorem dX2_isWon_2 : decode cX2_isWon 2 = .ok (.invokevirtual 41, 3) := by decide +kernel
theorem dX2_isWon_5 : decode cX2_isWon 5 = .ok (.iconst 1, 1) := by decide +kernel
theorem dX2_isWon_6 : decode cX2_isWon 6 = .ok (.iand, 1) := by decide +kernel
theorem dX2_isWon_7 : decode cX2_isWon 7 = .ok (.ifCond .eq 7, 3) := by decide +kernel
theorem dX2_isWon_10 : decode cX2_isWon 10 = .ok (.iconst 1, 1) := by decide +kernel
theorem dX2_isWon_11 : decode cX2_isWon 11 = .ok (.goto 4, 3) := by decide +kernel
theorem dX2_isWon_14 : decode cX2_isWon 14 = .ok (.iconst 0, 1) := by decide +kernel
theorem dX2_isWon_15 : decode cX2_isWon 15 = .ok (.ireturn, 1) := by decide +kernel
set_option maxHeartbeats 4000000 in
set_option maxRecDepth 100000 in
theorem s_X2_isWon_56 (l : Launch) (D : va_G) (K : Nat → ClassId) (ad : Nat → Nat) (v ar : sI) (al : sL) (hI : XI v) : Met l yX2_isWon (wM yX2_isWon cX2_isWon 1 (some .boolean)) (rmD 24) (va_Pc [.ref (ad 56)] (wPre D K ad (xG ad K (some (ad 132))) 133 v ar al)) (va_Qi (fun (r : Int32) (u : sT) => (∃ z : Int, (0 ≤ z ∧ z ≤ 1) ∧ r = iI z) ∧ XI u.1 ∧ (∀ i j : Nat, (i, j) ∉ ([(57, 2), (57, 3), (57, 4), (57, 5), (57, 8), (57, 9)] : List (Nat × Nat)) → u.1 i j = v i j)) (wB D ad (xG ad K (some (ad 132))) 133) (inW ad 133)) 0 0 (inW ad 133) := by
  refine s_metI (by decide) (Nat.le_of_ble_eq_true rfl) ?_
  intro p e s m below meth c ls args Q hE hB hl kr
  have hE : CallFix p m c cX2_isWon 1 s args tbG "TaleCourt$Game" := hE
  obtain ⟨hP, hK, hN⟩ := hB
  have hS : va_S (inW ad 133) s.heap s.heap [] := va_S.rf
  have hl : lv_has ls 1 [(0, .ref (ad 56))] := hl
  refine lv_aload_n hE.1 hE.2.1 dX2_isWon_0 rfl (lv_at hl 0 rfl) ?_
  refine lv_iconst (v := iI (0)) hE.1 hE.2.1 dX2_isWon_1 (by decide) ?_
  refine x_vi (nn := 1) (As := [.int (iI (0))]) (rest := []) hE hK hN hP hS (s_X2_solve_56 l D K ad  20 v ar al hI (0) (by omega) (by omega)) (x_recv hK hP 56 (by decide) (xG_2 rfl) rfl) rfl mw_1041 mw_1043 mw_31 mw_120 mw_1044 (by decide +kernel) ⟨by decide, by decide⟩ hl.1 rfl (Nat.le_of_ble_eq_true rfl) ⟨Nat.zero_le _, Nat.zero_le _⟩ dX2_isWon_2 (fun r1 v1 ar1 al1 H locs hq1 hP hS => ?_)
  obtain ⟨⟨z1, hz1, rfl⟩, hI, hq1⟩ := hq1
  have hI : XI v1 := hI
  refine lv_iconst (v := iI (1)) hE.1 hE.2.1 dX2_isWon_5 (by decide) ?_
  refine lv_iand hE.1 hE.2.1 dX2_isWon_6 ?_
  obtain ⟨z2, hz2, ez2⟩ := iI_and (iI (z1)) (iI (1)) 1 (by decide)
  refine x_top ez2 ?_
  refine s_if_eq (a := z2) (tgt := 14) hE.1 hE.2.1 (by omega) dX2_isWon_7 (by decide) (fun c3 => ?_) (fun c3 => ?_)
  · skip
    refine lv_iconst (v := iI (0)) hE.1 hE.2.1 dX2_isWon_14 (by decide) ?_
    exact kr _ _ _ _ _ _ _ _ (nar01 (by omega)) ⟨⟨0, by omega, rfl⟩, hI, fun i j h => (hq1 i j (fun q => h (mem_sub (by decide) q)))⟩ hP hS dX2_isWon_15
  · skip
    refine lv_iconst (v := iI (1)) hE.1 hE.2.1 dX2_isWon_10 (by decide) ?_
    refine lv_goto (tgt := 15) hE.1 hE.2.1 dX2_isWon_11 (by decide) ?_
    exact kr _ _ _ _ _ _ _ _ (nar01 (by omega)) ⟨⟨1, by omega, rfl⟩, hI, fun i j h => (hq1 i j (fun q => h (mem_sub (by decide) q)))⟩ hP hS dX2_isWon_15

theorem dX8_wins_0 : decode cX8_wins 0 = .ok (.aload_n 0, 1) := by decide +kernel
theorem dX8_wins_1 : decode cX8_wins 1 = .ok (.invokevirtual 226, 3) := by decide +kernel
theorem dX8_wins_4 : decode cX8_wins 4 = .ok (.istore_n 1, 1) := by decide +kernel
theorem dX8_wins_5 : decode cX8_wins 5 = .ok (.iload_n 1, 1) := by decide +kernel
theorem dX8_wins_6 : decode cX8_wins 6 = .ok (.ifCond .eq 5, 3) := by decide +kernel
theorem dX8_wins_9 : decode cX8_wins 9 = .ok (.iload_n 1, 1) := by decide +kernel
theorem dX8_wins_10 : decode cX8_wins 10 = .ok (.ireturn, 1) := by decide +kernel
theorem dX8_wins_11 : decode cX8_wins 11 = .ok (.aload_n 0, 1) := by decide +kernel
theorem dX8_wins_12 : decode cX8_wins 12 = .ok (.getfield 57, 3) := by decide +kernel
theorem dX8_wins_15 : decode cX8_wins 15 = .ok (.aload_n 0, 1) := by decide +kernel
theorem dX8_wins_16 : decode cX8_wins 16 = .ok (.getfield 31, 3) := by decide +kernel
theorem dX8_wins_19 : decode cX8_wins 19 = .ok (.iconst 1, 1) := by decide +kernel
theorem dX8_wins_20 : decode cX8_wins 20 = .ok (.invokevirtual 229, 3) := by decide +kernel
theorem dX8_wins_23 : decode cX8_wins 23 = .ok (.aload_n 0, 1) := by decide +kernel
theorem dX8_wins_24 : decode cX8_wins 24 = .ok (.getfield 57, 3) := by decide +kernel
theorem dX8_wins_27 : decode cX8_wins 27 = .ok (.invokevirtual 233, 3) := by decide +kernel
theorem dX8_wins_30 : decode cX8_wins 30 = .ok (.ifCond .eq 7, 3) := by decide +kernel
theorem dX8_wins_33 : decode cX8_wins 33 = .ok (.iconst 1, 1) := by decide +kernel
theorem dX8_wins_34 : decode cX8_wins 34 = .ok (.goto 4, 3) := by decide +kernel
theorem dX8_wins_37 : decode cX8_wins 37 = .ok (.iconst 0, 1) := by decide +kernel
theorem dX8_wins_38 : decode cX8_wins 38 = .ok (.ireturn, 1) := by decide +kernel
set_option maxHeartbeats 4000000 in
set_option maxRecDepth 100000 in
theorem s_X8_wins_0 (l : Launch) (D : va_G) (K : Nat → ClassId) (ad : Nat → Nat) (v ar : sI) (al : sL) (hI : XI v) : Met l yX8_wins (wM yX8_wins cX8_wins 2 (some .int)) (rmD 25) (va_Pc [.ref (ad 0)] (wPre D K ad (xG ad K (some (ad 132))) 133 v ar al)) (va_Qi (fun (r : Int32) (u : sT) => (∃ z : Int, (-2147483648 ≤ z ∧ z ≤ 2147483647) ∧ r = iI z) ∧ XI u.1 ∧ (∀ i j : Nat, (i, j) ∉ ([(56, 3), (56, 4), (57, 2), (57, 3), (57, 4), (57, 5), (57, 8), (57, 9)] : List (Nat × Nat)) → u.1 i j = v i j)) (wB D ad (xG ad K (some (ad 132))) 133) (inW ad 133)) 0 0 (inW ad 133) := by
  refine s_metI (by decide) (Nat.le_of_ble_eq_true rfl) ?_
  intro p e s m below meth c ls args Q hE hB hl kr
  have hE : CallFix p m c cX8_wins 2 s args tbG "TaleCourt" := hE
  obtain ⟨hP, hK, hN⟩ := hB
  have hS : va_S (inW ad 133) s.heap s.heap [] := va_S.rf
  have hl : lv_has ls 2 [(0, .ref (ad 0))] := hl
  refine lv_aload_n hE.1 hE.2.1 dX8_wins_0 rfl (lv_at hl 0 rfl) ?_
  refine x_vp (nn := 0) (As := []) (rest := []) hE (s_X8_gameBar_0 l D K ad (some (ad 132)) 133 (by decide) v ar al hI  ) wPre_blind (wPre_now hK hN hP) (x_recv hK hP 0 (by decide) (xG_8 rfl) rfl) rfl mw_1027 mw_1029 mw_30 mw_114 mw_1030 (by decide +kernel) ⟨by decide, by decide⟩ hl.1 rfl (Nat.le_of_ble_eq_true rfl) ⟨Nat.zero_le _, Nat.zero_le _⟩ dX8_wins_1 (fun r1 hr1 => ?_)
  obtain ⟨z1, hz1, rfl⟩ := hr1
  refine lv_istore_n (lv' := [(1, .int (iI (z1))), (0, .ref (ad 0))]) hE.1 hE.2.1 dX8_wins_4 rfl hl (by decide) rfl (fun ls hl => ?_)
  refine lv_iload_n hE.1 hE.2.1 dX8_wins_5 rfl (lv_at hl 0 rfl) ?_
  refine s_if_eq (a := z1) (tgt := 11) hE.1 hE.2.1 (by omega) dX8_wins_6 (by decide) (fun c2 => ?_) (fun c2 => ?_)
  · skip
    refine lv_aload_n hE.1 hE.2.1 dX8_wins_11 rfl (lv_at hl 1 rfl) ?_
    refine x_get (x := .ref (ad 56)) hE hK hP 0 (by decide) (xG_8 rfl) rfl hin8 7 (by decide) mw_487 rfl dX8_wins_12 ?_
    refine lv_aload_n hE.1 hE.2.1 dX8_wins_15 rfl (lv_at hl 1 rfl) ?_
    refine x_get (x := .ref (ad 23)) hE hK hP 0 (by decide) (xG_8 rfl) rfl hin8 3 (by decide) mw_483 rfl dX8_wins_16 ?_
    refine lv_iconst (v := iI (1)) hE.1 hE.2.1 dX8_wins_19 (by decide) ?_
    refine x_vv (nn := 2) (As := [.ref (ad 23), .int (iI (1))]) (rest := []) hE hK hN hP hS (s_X2_begin_56_23 l D K ad  v ar al hI  (1) (by omega)) (x_recv hK hP 56 (by decide) (xG_2 rfl) rfl) rfl mw_1031 mw_1032 mw_1033 mw_120 mw_1034 (by decide +kernel) ⟨by decide, by decide⟩ hl.1 rfl (Nat.le_of_ble_eq_true rfl) ⟨Nat.zero_le _, Nat.zero_le _⟩ dX8_wins_20 (fun v3 ar3 al3 H locs hq3 hP hS => ?_)
    obtain ⟨hI, hq3⟩ := hq3
    have hI : XI v3 := hI
    refine lv_aload_n hE.1 hE.2.1 dX8_wins_23 rfl (lv_at hl 1 rfl) ?_
    refine x_get (x := .ref (ad 56)) hE hK hP 0 (by decide) (xG_8 rfl) rfl hin8 7 (by decide) mw_487 rfl dX8_wins_24 ?_
    refine x_vi (nn := 0) (As := []) (rest := []) hE hK hN hP hS (s_X2_isWon_56 l D K ad  v3 ar3 al3 hI  ) (x_recv hK hP 56 (by decide) (xG_2 rfl) rfl) rfl mw_1037 mw_1038 mw_1039 mw_120 mw_1040 (by decide +kernel) ⟨by decide, by decide⟩ hl.1 rfl (Nat.le_of_ble_eq_true rfl) ⟨Nat.zero_le _, Nat.zero_le _⟩ dX8_wins_27 (fun r4 v4 ar4 al4 H locs hq4 hP hS => ?_)
    obtain ⟨⟨z4, hz4, rfl⟩, hI, hq4⟩ := hq4
    have hI : XI v4 := hI
    refine s_if_eq (a := z4) (tgt := 37) hE.1 hE.2.1 (by omega) dX8_wins_30 (by decide) (fun c5 => ?_) (fun c5 => ?_)
    · skip
      refine lv_iconst (v := iI (0)) hE.1 hE.2.1 dX8_wins_37 (by decide) ?_
      exact kr _ _ _ _ _ _ _ _ rfl ⟨⟨0, by omega, rfl⟩, hI, fun i j h => ((hq4 i j (fun q => h (mem_sub (by decide) q))).trans (hq3 i j (fun q => h (mem_sub (by decide) q))))⟩ hP hS dX8_wins_38
    · skip
      refine lv_iconst (v := iI (1)) hE.1 hE.2.1 dX8_wins_33 (by decide) ?_
      refine lv_goto (tgt := 38) hE.1 hE.2.1 dX8_wins_34 (by decide) ?_
      exact kr _ _ _ _ _ _ _ _ rfl ⟨⟨1, by omega, rfl⟩, hI, fun i j h => ((hq4 i j (fun q => h (mem_sub (by decide) q))).trans (hq3 i j (fun q => h (mem_sub (by decide) q))))⟩ hP hS dX8_wins_38
  · skip
    refine lv_iload_n hE.1 hE.2.1 dX8_wins_9 rfl (lv_at hl 0 rfl) ?_
    exact kr _ _ _ _ _ _ _ _ rfl ⟨⟨z1, by omega, rfl⟩, hI, fun i j h => rfl⟩ hP hS dX8_wins_10

theorem dX2_winningMoves_0 : decode cX2_winningMoves 0 = .ok (.iconst 0, 1) := by decide +kernel
theorem dX2_winningMoves_1 : decode cX2_winningMoves 1 = .ok (.istore_n 1, 1) := by decide +kernel
theorem dX2_winningMoves_2 : decode cX2_winningMoves 2 = .ok (.aload_n 0, 1) := by decide +kernel
theorem dX2_winningMoves_3 : decode cX2_winningMoves 3 = .ok (.invokevirtual 45, 3) := by decide +kernel
theorem dX2_winningMoves_6 : decode cX2_winningMoves 6 = .ok (.istore_n 2, 1) := by decide +kernel
theorem dX2_winningMoves_7 : decode cX2_winningMoves 7 = .ok (.iconst 0, 1) := by decide +kernel
theorem dX2_winningMoves_8 : decode cX2_winningMoves 8 = .ok (.istore_n 3, 1) := by decide +kernel
theorem dX2_winningMoves_9 : decode cX2_winningMoves 9 = .ok (.iload_n 3, 1) := by decide +kernel
theorem dX2_winningMoves_10 : decode cX2_winningMoves 10 = .ok (.bipush 9, 2) := by decide +kernel
theorem dX2_winningMoves_12 : decode cX2_winningMoves 12 = .ok (.if_icmp .gt 46, 3) := by decide +kernel
theorem dX2_winningMoves_15 : decode cX2_winningMoves 15 = .ok (.iload_n 2, 1) := by decide +kernel
theorem dX2_winningMoves_16 : decode cX2_winningMoves 16 = .ok (.iload_n 3, 1) := by decide +kernel
theorem dX2_winningMoves_17 : decode cX2_winningMoves 17 = .ok (.ishr, 1) := by decide +kernel
theorem dX2_winningMoves_18 : decode cX2_winningMoves 18 = .ok (.iconst 1, 1) := by decide +kernel
theorem dX2_winningMoves_19 : decode cX2_winningMoves 19 = .ok (.iand, 1) := by decide +kernel
theorem dX2_winningMoves_20 : decode cX2_winningMoves 20 = .ok (.ifCond .eq 32, 3) := by decide +kernel
theorem dX2_winningMoves_23 : decode cX2_winningMoves 23 = .ok (.aload_n 0, 1) := by decide +kernel
theorem dX2_winningMoves_24 : decode cX2_winningMoves 24 = .ok (.iload_n 3, 1) := by decide +kernel
theorem dX2_winningMoves_25 : decode cX2_winningMoves 25 = .ok (.invokevirtual 49, 3) := by decide +kernel
theorem dX2_winningMoves_28 : decode cX2_winningMoves 28 = .ok (.iload_n 1, 1) := by decide +kernel
theorem dX2_winningMoves_29 : decode cX2_winningMoves 29 = .ok (.aload_n 0, 1) := by decide +kernel
theorem dX2_winningMoves_30 : decode cX2_winningMoves 30 = .ok (.invokevirtual 53, 3) := by decide +kernel
theorem dX2_winningMoves_33 : decode cX2_winningMoves 33 = .ok (.ifCond .eq 7, 3) := by decide +kernel
theorem dX2_winningMoves_36 : decode cX2_winningMoves 36 = .ok (.iconst 0, 1) := by decide +kernel
theorem dX2_winningMoves_37 : decode cX2_winningMoves 37 = .ok (.goto 6, 3) := by decide +kernel
theorem dX2_winningMoves_40 : decode cX2_winningMoves 40 = .ok (.iconst 1, 1) := by decide +kernel
theorem dX2_winningMoves_41 : decode cX2_winningMoves 41 = .ok (.iload_n 3, 1) := by decide +kernel
theorem dX2_winningMoves_42 : decode cX2_winningMoves 42 = .ok (.ishl, 1) := by decide +kernel
theorem dX2_winningMoves_43 : decode cX2_winningMoves 43 = .ok (.ior, 1) := by decide +kernel
theorem dX2_winningMoves_44 : decode cX2_winningMoves 44 = .ok (.istore_n 1, 1) := by decide +kernel
theorem dX2_winningMoves_45 : decode cX2_winningMoves 45 = .ok (.aload_n 0, 1) := by decide +kernel
theorem dX2_winningMoves_46 : decode cX2_winningMoves 46 = .ok (.getfield 24, 3) := by decide +kernel
theorem dX2_winningMoves_49 : decode cX2_winningMoves 49 = .ok (.invokevirtual 57, 3) := by decide +kernel
theorem dX2_winningMoves_52 : decode cX2_winningMoves 52 = .ok (.iinc 3 1, 3) := by decide +kernel
theorem dX2_winningMoves_55 : decode cX2_winningMoves 55 = .ok (.goto (-46), 3) := by decide +kernel
theorem dX2_winningMoves_58 : decode cX2_winningMoves 58 = .ok (.iload_n 1, 1) := by decide +kernel
theorem dX2_winningMoves_59 : decode cX2_winningMoves 59 = .ok (.ireturn, 1) := by decide +kernel
set_option maxHeartbeats 4000000 in
set_option maxRecDepth 100000 in
theorem s_X2_winningMoves_56 (l : Launch) (D : va_G) (K : Nat → ClassId) (ad : Nat → Nat) (v ar : sI) (al : sL) (hI : XI v) : Met l yX2_winningMoves (wM yX2_winningMoves cX2_winningMoves 4 (some .int)) (rmD 25) (va_Pc [.ref (ad 56)] (wPre D K ad (xG ad K (some (ad 132))) 133 v ar al)) (va_Qi (fun (r : Int32) (u : sT) => (∃ z : Int, (-2147483648 ≤ z ∧ z ≤ 2147483647) ∧ r = iI z) ∧ XI u.1 ∧ (∀ i j : Nat, (i, j) ∉ ([(57, 2), (57, 3), (57, 4), (57, 5), (57, 8), (57, 9)] : List (Nat × Nat)) → u.1 i j = v i j)) (wB D ad (xG ad K (some (ad 132))) 133) (inW ad 133)) 0 0 (inW ad 133) := by
  refine s_metI (by decide) (Nat.le_of_ble_eq_true rfl) ?_
  intro p e s m below meth c ls args Q hE hB hl kr
  have hE : CallFix p m c cX2_winningMoves 4 s args tbG "TaleCourt$Game" := hE
  obtain ⟨hP, hK, hN⟩ := hB
  have hS : va_S (inW ad 133) s.heap s.heap [] := va_S.rf
  have hl : lv_has ls 4 [(0, .ref (ad 56))] := hl
  refine lv_iconst (v := iI (0)) hE.1 hE.2.1 dX2_winningMoves_0 (by decide) ?_
  refine lv_istore_n (lv' := [(1, .int (iI (0))), (0, .ref (ad 56))]) hE.1 hE.2.1 dX2_winningMoves_1 rfl hl (by decide) rfl (fun ls hl => ?_)
  refine lv_aload_n hE.1 hE.2.1 dX2_winningMoves_2 rfl (lv_at hl 1 rfl) ?_
  refine x_vp (nn := 0) (As := []) (rest := []) hE (s_X2_movesNow_56 l D K ad (some (ad 132)) 133 (by decide) v ar al hI  ) wPre_blind (wPre_now hK hN hP) (x_recv hK hP 56 (by decide) (xG_2 rfl) rfl) rfl mw_1050 mw_1052 mw_33 mw_120 mw_1053 (by decide +kernel) ⟨by decide, by decide⟩ hl.1 rfl (Nat.le_of_ble_eq_true rfl) ⟨Nat.zero_le _, Nat.zero_le _⟩ dX2_winningMoves_3 (fun r1 hr1 => ?_)
  obtain ⟨z1, hz1, rfl⟩ := hr1
  refine lv_istore_n (lv' := [(2, .int (iI (z1))), (1, .int (iI (0))), (0, .ref (ad 56))]) hE.1 hE.2.1 dX2_winningMoves_6 rfl hl (by decide) rfl (fun ls hl => ?_)
  refine lv_iconst (v := iI (0)) hE.1 hE.2.1 dX2_winningMoves_7 (by decide) ?_
  refine lv_istore_n (lv' := [(3, .int (iI (0))), (2, .int (iI (z1))), (1, .int (iI (0))), (0, .ref (ad 56))]) hE.1 hE.2.1 dX2_winningMoves_8 rfl hl (by decide) rfl (fun ls hl => ?_)
  have loop2 : ∀ (k2 : Nat) (y2_3 : Int) (y2_1 : Int) (vl2 arl2 : sI) (all2 : sL) (H : Heap) (locs : List Loc) (ls : Array Slot), (10 - y2_3).toNat = k2 → (0 ≤ y2_3 ∧ y2_3 ≤ 10) → (-2147483648 ≤ y2_1 ∧ y2_1 ≤ 2147483647) → XI vl2 → (∀ i j : Nat, (i, j) ∉ ([(57, 2), (57, 3), (57, 4), (57, 5), (57, 8), (57, 9)] : List (Nat × Nat)) → vl2 i j = v i j) → va_P D xcl (wW ad (xG ad K (some (ad 132))) 133 vl2 arl2 all2) H → va_S (inW ad 133) s.heap H locs → lv_has ls 4 [(3, .int (iI (y2_3))), (2, .int (iI (z1))), (1, .int (iI (y2_1))), (0, .ref (ad 56))] → W p l e (rmD 25) s m args below meth c H locs 0 0 Q (F0 m 9 ls []) := by
    intro k2
    induction k2 using Nat.strongRecOn with
    | _ k2 ih2 =>
      intro y2_3 y2_1 vl2 arl2 all2 H locs ls hk2 hb_y2_3 hb_y2_1 hI hfr2 hP hS hl
      refine lv_iload_n hE.1 hE.2.1 dX2_winningMoves_9 rfl (lv_at hl 0 rfl) ?_
      refine lv_bipush (v := iI (9)) hE.1 hE.2.1 dX2_winningMoves_10 (by decide) ?_
      refine s_icmp_gt (a := y2_3) (b := 9) (tgt := 58) hE.1 hE.2.1 (by omega) (by omega) dX2_winningMoves_12 (by decide) (fun c3 => ?_) (fun c3 => ?_)
      · skip
        refine lv_iload_n hE.1 hE.2.1 dX2_winningMoves_58 rfl (lv_at hl 2 rfl) ?_
        exact kr _ _ _ _ _ _ _ _ rfl ⟨⟨y2_1, by omega, rfl⟩, hI, fun i j h => (hfr2 i j (fun q => h (mem_sub (by decide) q)))⟩ hP hS dX2_winningMoves_59
      · skip
        refine lv_iload_n hE.1 hE.2.1 dX2_winningMoves_15 rfl (lv_at hl 1 rfl) ?_
        refine lv_iload_n hE.1 hE.2.1 dX2_winningMoves_16 rfl (lv_at hl 0 rfl) ?_
        refine lv_ishr hE.1 hE.2.1 dX2_winningMoves_17 ?_
        obtain ⟨z4, hz4, ez4⟩ := iI_of (iI (z1) >>> (iI (y2_3) &&& 31))
        refine x_top ez4 ?_
        refine lv_iconst (v := iI (1)) hE.1 hE.2.1 dX2_winningMoves_18 (by decide) ?_
        refine lv_iand hE.1 hE.2.1 dX2_winningMoves_19 ?_
        obtain ⟨z5, hz5, ez5⟩ := iI_and (iI (z4)) (iI (1)) 1 (by decide)
        refine x_top ez5 ?_
        refine s_if_eq (a := z5) (tgt := 52) hE.1 hE.2.1 (by omega) dX2_winningMoves_20 (by decide) (fun c6 => ?_) (fun c6 => ?_)
        · skip
          refine lv_iinc (v := iI (y2_3 + 1)) (lv' := [(3, .int (iI (y2_3 + 1))), (2, .int (iI (z1))), (1, .int (iI (y2_1))), (0, .ref (ad 56))]) hE.1 hE.2.1 dX2_winningMoves_52 hl (k := 0) rfl ((iI_add (y2_3) (1)).trans (congrArg iI (by omega))) (by decide) rfl (fun ls hl => ?_)
          refine lv_goto (tgt := 9) hE.1 hE.2.1 dX2_winningMoves_55 (by decide) ?_
          exact ih2 _ (by omega) (y2_3 + 1) (y2_1) vl2 arl2 all2 _ _ _ rfl (by omega) (by omega) hI (fun i j h => (hfr2 i j h)) hP hS (lv_sub hl [0, 1, 2, 3] rfl)
        · skip
          refine lv_aload_n hE.1 hE.2.1 dX2_winningMoves_23 rfl (lv_at hl 3 rfl) ?_
          refine lv_iload_n hE.1 hE.2.1 dX2_winningMoves_24 rfl (lv_at hl 0 rfl) ?_
          refine x_vv (nn := 1) (As := [.int (iI (y2_3))]) (rest := []) hE hK hN hP hS (s_X2_play_56 l D K ad (some (ad 132)) 133 (by decide) vl2 arl2 all2 hI  (y2_3) (by omega)) (x_recv hK hP 56 (by decide) (xG_2 rfl) rfl) rfl mw_1056 mw_1058 mw_34 mw_120 mw_1059 (by decide +kernel) ⟨by decide, by decide⟩ hl.1 rfl (Nat.le_of_ble_eq_true rfl) ⟨Nat.zero_le _, Nat.zero_le _⟩ dX2_winningMoves_25 (fun v7 ar7 al7 H locs hq7 hP hS => ?_)
          obtain ⟨hI, hq7⟩ := hq7
          have hI : XI v7 := hI
          refine lv_iload_n hE.1 hE.2.1 dX2_winningMoves_28 rfl (lv_at hl 2 rfl) ?_
          refine lv_aload_n hE.1 hE.2.1 dX2_winningMoves_29 rfl (lv_at hl 3 rfl) ?_
          refine x_vi (nn := 0) (As := []) (rest := [.int (iI (y2_1))]) hE hK hN hP hS (s_X2_isWon_56 l D K ad  v7 ar7 al7 hI  ) (x_recv hK hP 56 (by decide) (xG_2 rfl) rfl) rfl mw_1072 mw_1038 mw_1039 mw_120 mw_1040 (by decide +kernel) ⟨by decide, by decide⟩ hl.1 rfl (Nat.le_of_ble_eq_true rfl) ⟨Nat.zero_le _, Nat.zero_le _⟩ dX2_winningMoves_30 (fun r8 v8 ar8 al8 H locs hq8 hP hS => ?_)
          obtain ⟨⟨z8, hz8, rfl⟩, hI, hq8⟩ := hq8
          have hI : XI v8 := hI
          refine s_if_eq (a := z8) (tgt := 40) hE.1 hE.2.1 (by omega) dX2_winningMoves_33 (by decide) (fun c9 => ?_) (fun c9 => ?_)
          · skip
            refine lv_iconst (v := iI (1)) hE.1 hE.2.1 dX2_winningMoves_40 (by decide) ?_
            refine lv_iload_n hE.1 hE.2.1 dX2_winningMoves_41 rfl (lv_at hl 0 rfl) ?_
            refine lv_ishl hE.1 hE.2.1 dX2_winningMoves_42 ?_
            obtain ⟨z10, hz10, ez10⟩ := iI_shl1 (a := y2_3) (by omega)
            refine x_top ez10 ?_
            refine lv_ior hE.1 hE.2.1 dX2_winningMoves_43 ?_
            obtain ⟨z11, hz11, ez11⟩ := iI_of (iI (y2_1) ||| iI (z10))
            refine x_top ez11 ?_
            refine lv_istore_n (lv' := [(1, .int (iI (z11))), (3, .int (iI (y2_3))), (2, .int (iI (z1))), (0, .ref (ad 56))]) hE.1 hE.2.1 dX2_winningMoves_44 rfl hl (by decide) rfl (fun ls hl => ?_)
            refine lv_aload_n hE.1 hE.2.1 dX2_winningMoves_45 rfl (lv_at hl 3 rfl) ?_
            refine x_get (x := .ref (ad 57)) hE hK hP 56 (by decide) (xG_2 rfl) rfl hin2 1 (by decide) mw_421 rfl dX2_winningMoves_46 ?_
            refine x_vv (nn := 0) (As := []) (rest := []) hE hK hN hP hS (s_X7_takeBack_57 l D K ad (some (ad 132)) 133 (by decide) v8 ar8 al8 hI  ) (x_recv hK hP 57 (by decide) (xG_7 rfl) rfl) rfl mw_1062 mw_813 mw_814 mw_117 mw_815 (by decide +kernel) ⟨by decide, by decide⟩ hl.1 rfl (Nat.le_of_ble_eq_true rfl) ⟨Nat.zero_le _, Nat.zero_le _⟩ dX2_winningMoves_49 (fun v12 ar12 al12 H locs hq12 hP hS => ?_)
            obtain ⟨hI, hq12⟩ := hq12
            have hI : XI v12 := hI
            refine lv_iinc (v := iI (y2_3 + 1)) (lv' := [(3, .int (iI (y2_3 + 1))), (1, .int (iI (z11))), (2, .int (iI (z1))), (0, .ref (ad 56))]) hE.1 hE.2.1 dX2_winningMoves_52 hl (k := 1) rfl ((iI_add (y2_3) (1)).trans (congrArg iI (by omega))) (by decide) rfl (fun ls hl => ?_)
            refine lv_goto (tgt := 9) hE.1 hE.2.1 dX2_winningMoves_55 (by decide) ?_
            exact ih2 _ (by omega) (y2_3 + 1) (z11) v12 ar12 al12 _ _ _ rfl (by omega) (by omega) hI (fun i j h => (((hq12 i j (fun q => h (mem_sub (by decide) q))).trans ((hq8 i j (fun q => h (mem_sub (by decide) q))).trans (hq7 i j (fun q => h (mem_sub (by decide) q))))).trans (hfr2 i j h))) hP hS (lv_sub hl [0, 2, 1, 3] rfl)
          · skip
            refine lv_iconst (v := iI (0)) hE.1 hE.2.1 dX2_winningMoves_36 (by decide) ?_
            refine lv_goto (tgt := 43) hE.1 hE.2.1 dX2_winningMoves_37 (by decide) ?_
            refine lv_ior hE.1 hE.2.1 dX2_winningMoves_43 ?_
            obtain ⟨z13, hz13, ez13⟩ := iI_of (iI (y2_1) ||| iI (0))
            refine x_top ez13 ?_
            refine lv_istore_n (lv' := [(1, .int (iI (z13))), (3, .int (iI (y2_3))), (2, .int (iI (z1))), (0, .ref (ad 56))]) hE.1 hE.2.1 dX2_winningMoves_44 rfl hl (by decide) rfl (fun ls hl => ?_)
            refine lv_aload_n hE.1 hE.2.1 dX2_winningMoves_45 rfl (lv_at hl 3 rfl) ?_
            refine x_get (x := .ref (ad 57)) hE hK hP 56 (by decide) (xG_2 rfl) rfl hin2 1 (by decide) mw_421 rfl dX2_winningMoves_46 ?_
            refine x_vv (nn := 0) (As := []) (rest := []) hE hK hN hP hS (s_X7_takeBack_57 l D K ad (some (ad 132)) 133 (by decide) v8 ar8 al8 hI  ) (x_recv hK hP 57 (by decide) (xG_7 rfl) rfl) rfl mw_1062 mw_813 mw_814 mw_117 mw_815 (by decide +kernel) ⟨by decide, by decide⟩ hl.1 rfl (Nat.le_of_ble_eq_true rfl) ⟨Nat.zero_le _, Nat.zero_le _⟩ dX2_winningMoves_49 (fun v14 ar14 al14 H locs hq14 hP hS => ?_)
            obtain ⟨hI, hq14⟩ := hq14
            have hI : XI v14 := hI
            refine lv_iinc (v := iI (y2_3 + 1)) (lv' := [(3, .int (iI (y2_3 + 1))), (1, .int (iI (z13))), (2, .int (iI (z1))), (0, .ref (ad 56))]) hE.1 hE.2.1 dX2_winningMoves_52 hl (k := 1) rfl ((iI_add (y2_3) (1)).trans (congrArg iI (by omega))) (by decide) rfl (fun ls hl => ?_)
            refine lv_goto (tgt := 9) hE.1 hE.2.1 dX2_winningMoves_55 (by decide) ?_
            exact ih2 _ (by omega) (y2_3 + 1) (z13) v14 ar14 al14 _ _ _ rfl (by omega) (by omega) hI (fun i j h => (((hq14 i j (fun q => h (mem_sub (by decide) q))).trans ((hq8 i j (fun q => h (mem_sub (by decide) q))).trans (hq7 i j (fun q => h (mem_sub (by decide) q))))).trans (hfr2 i j h))) hP hS (lv_sub hl [0, 2, 1, 3] rfl)
  exact loop2 _ (0) (0) v ar al _ _ _ rfl (by omega) (by omega) hI (fun _ _ _ => rfl) hP hS hl

theorem dX8_move_0 : decode cX8_move 0 = .ok (.aload_n 0, 1) := by decide +kernel
theorem dX8_move_1 : decode cX8_move 1 = .ok (.invokevirtual 226, 3) := by decide +kernel
theorem dX8_move_4 : decode cX8_move 4 = .ok (.istore_n 1, 1) := by decide +kernel
theorem dX8_move_5 : decode cX8_move 5 = .ok (.iload_n 1, 1) := by decide +kernel
theorem dX8_move_6 : decode cX8_move 6 = .ok (.ifCond .eq 5, 3) := by decide +kernel
theorem dX8_move_9 : decode cX8_move 9 = .ok (.iload_n 1, 1) := by decide +kernel
theorem dX8_move_10 : decode cX8_move 10 = .ok (.ireturn, 1) := by decide +kernel
theorem dX8_move_11 : decode cX8_move 11 = .ok (.aload_n 0, 1) := by decide +kernel
theorem dX8_move_12 : decode cX8_move 12 = .ok (.getfield 57, 3) := by decide +kernel
theorem dX8_move_15 : decode cX8_move 15 = .ok (.aload_n 0, 1) := by decide +kernel
theorem dX8_move_16 : decode cX8_move 16 = .ok (.getfield 31, 3) := by decide +kernel
theorem dX8_move_19 : decode cX8_move 19 = .ok (.iconst 1, 1) := by decide +kernel
theorem dX8_move_20 : decode cX8_move 20 = .ok (.invokevirtual 229, 3) := by decide +kernel
theorem dX8_move_23 : decode cX8_move 23 = .ok (.aload_n 0, 1) := by decide +kernel
theorem dX8_move_24 : decode cX8_move 24 = .ok (.getfield 57, 3) := by decide +kernel
theorem dX8_move_27 : decode cX8_move 27 = .ok (.invokevirtual 236, 3) := by decide +kernel
theorem dX8_move_30 : decode cX8_move 30 = .ok (.istore_n 2, 1) := by decide +kernel
theorem dX8_move_31 : decode cX8_move 31 = .ok (.iconst 0, 1) := by decide +kernel
theorem dX8_move_32 : decode cX8_move 32 = .ok (.istore_n 3, 1) := by decide +kernel
theorem dX8_move_33 : decode cX8_move 33 = .ok (.iload_n 3, 1) := by decide +kernel
theorem dX8_move_34 : decode cX8_move 34 = .ok (.bipush 9, 2) := by decide +kernel
theorem dX8_move_36 : decode cX8_move 36 = .ok (.if_icmp .gt 19, 3) := by decide +kernel
theorem dX8_move_39 : decode cX8_move 39 = .ok (.iload_n 2, 1) := by decide +kernel
theorem dX8_move_40 : decode cX8_move 40 = .ok (.iload_n 3, 1) := by decide +kernel
theorem dX8_move_41 : decode cX8_move 41 = .ok (.ishr, 1) := by decide +kernel
theorem dX8_move_42 : decode cX8_move 42 = .ok (.iconst 1, 1) := by decide +kernel
theorem dX8_move_43 : decode cX8_move 43 = .ok (.iand, 1) := by decide +kernel
theorem dX8_move_44 : decode cX8_move 44 = .ok (.ifCond .eq 5, 3) := by decide +kernel
theorem dX8_move_47 : decode cX8_move 47 = .ok (.iload_n 3, 1) := by decide +kernel
theorem dX8_move_48 : decode cX8_move 48 = .ok (.ireturn, 1) := by decide +kernel
theorem dX8_move_49 : decode cX8_move 49 = .ok (.iinc 3 1, 3) := by decide +kernel
theorem dX8_move_52 : decode cX8_move 52 = .ok (.goto (-19), 3) := by decide +kernel
theorem dX8_move_55 : decode cX8_move 55 = .ok (.iconst (-1), 1) := by decide +kernel
theorem dX8_move_56 : decode cX8_move 56 = .ok (.ireturn, 1) := by decide +kernel
set_option maxHeartbeats 4000000 in
set_option maxRecDepth 100000 in
theorem s_X8_move_0 (l : Launch) (D : va_G) (K : Nat → ClassId) (ad : Nat → Nat) (v ar : sI) (al : sL) (hI : XI v) : Met l yX8_move (wM yX8_move cX8_move 4 (some .int)) (rmD 26) (va_Pc [.ref (ad 0)] (wPre D K ad (xG ad K (some (ad 132))) 133 v ar al)) (va_Qi (fun (r : Int32) (u : sT) => (∃ z : Int, (-2147483648 ≤ z ∧ z ≤ 2147483647) ∧ r = iI z) ∧ XI u.1 ∧ (∀ i j : Nat, (i, j) ∉ ([(56, 3), (56, 4), (57, 2), (57, 3), (57, 4), (57, 5), (57, 8), (57, 9)] : List (Nat × Nat)) → u.1 i j = v i j)) (wB D ad (xG ad K (some (ad 132))) 133) (inW ad 133)) 0 0 (inW ad 133) := by
  refine s_metI (by decide) (Nat.le_of_ble_eq_true rfl) ?_
  intro p e s m below meth c ls args Q hE hB hl kr
  have hE : CallFix p m c cX8_move 4 s args tbG "TaleCourt" := hE
  obtain ⟨hP, hK, hN⟩ := hB
  have hS : va_S (inW ad 133) s.heap s.heap [] := va_S.rf
  have hl : lv_has ls 4 [(0, .ref (ad 0))] := hl
  refine lv_aload_n hE.1 hE.2.1 dX8_move_0 rfl (lv_at hl 0 rfl) ?_
  refine x_vp (nn := 0) (As := []) (rest := []) hE (s_X8_gameBar_0 l D K ad (some (ad 132)) 133 (by decide) v ar al hI  ) wPre_blind (wPre_now hK hN hP) (x_recv hK hP 0 (by decide) (xG_8 rfl) rfl) rfl mw_1027 mw_1029 mw_30 mw_114 mw_1030 (by decide +kernel) ⟨by decide, by decide⟩ hl.1 rfl (Nat.le_of_ble_eq_true rfl) ⟨Nat.zero_le _, Nat.zero_le _⟩ dX8_move_1 (fun r1 hr1 => ?_)
  obtain ⟨z1, hz1, rfl⟩ := hr1
  refine lv_istore_n (lv' := [(1, .int (iI (z1))), (0, .ref (ad 0))]) hE.1 hE.2.1 dX8_move_4 rfl hl (by decide) rfl (fun ls hl => ?_)
  refine lv_iload_n hE.1 hE.2.1 dX8_move_5 rfl (lv_at hl 0 rfl) ?_
  refine s_if_eq (a := z1) (tgt := 11) hE.1 hE.2.1 (by omega) dX8_move_6 (by decide) (fun c2 => ?_) (fun c2 => ?_)
  · skip
    refine lv_aload_n hE.1 hE.2.1 dX8_move_11 rfl (lv_at hl 1 rfl) ?_
    refine x_get (x := .ref (ad 56)) hE hK hP 0 (by decide) (xG_8 rfl) rfl hin8 7 (by decide) mw_487 rfl dX8_move_12 ?_
    refine lv_aload_n hE.1 hE.2.1 dX8_move_15 rfl (lv_at hl 1 rfl) ?_
    refine x_get (x := .ref (ad 23)) hE hK hP 0 (by decide) (xG_8 rfl) rfl hin8 3 (by decide) mw_483 rfl dX8_move_16 ?_
    refine lv_iconst (v := iI (1)) hE.1 hE.2.1 dX8_move_19 (by decide) ?_
    refine x_vv (nn := 2) (As := [.ref (ad 23), .int (iI (1))]) (rest := []) hE hK hN hP hS (s_X2_begin_56_23 l D K ad  v ar al hI  (1) (by omega)) (x_recv hK hP 56 (by decide) (xG_2 rfl) rfl) rfl mw_1031 mw_1032 mw_1033 mw_120 mw_1034 (by decide +kernel) ⟨by decide, by decide⟩ hl.1 rfl (Nat.le_of_ble_eq_true rfl) ⟨Nat.zero_le _, Nat.zero_le _⟩ dX8_move_20 (fun v3 ar3 al3 H locs hq3 hP hS => ?_)
    obtain ⟨hI, hq3⟩ := hq3
    have hI : XI v3 := hI
    refine lv_aload_n hE.1 hE.2.1 dX8_move_23 rfl (lv_at hl 1 rfl) ?_
    refine x_get (x := .ref (ad 56)) hE hK hP 0 (by decide) (xG_8 rfl) rfl hin8 7 (by decide) mw_487 rfl dX8_move_24 ?_
    refine x_vi (nn := 0) (As := []) (rest := []) hE hK hN hP hS (s_X2_winningMoves_56 l D K ad  v3 ar3 al3 hI  ) (x_recv hK hP 56 (by decide) (xG_2 rfl) rfl) rfl mw_1068 mw_1069 mw_1070 mw_120 mw_1071 (by decide +kernel) ⟨by decide, by decide⟩ hl.1 rfl (Nat.le_of_ble_eq_true rfl) ⟨Nat.zero_le _, Nat.zero_le _⟩ dX8_move_27 (fun r4 v4 ar4 al4 H locs hq4 hP hS => ?_)
    obtain ⟨⟨z4, hz4, rfl⟩, hI, hq4⟩ := hq4
    have hI : XI v4 := hI
    refine lv_istore_n (lv' := [(2, .int (iI (z4))), (1, .int (iI (z1))), (0, .ref (ad 0))]) hE.1 hE.2.1 dX8_move_30 rfl hl (by decide) rfl (fun ls hl => ?_)
    refine lv_iconst (v := iI (0)) hE.1 hE.2.1 dX8_move_31 (by decide) ?_
    refine lv_istore_n (lv' := [(3, .int (iI (0))), (2, .int (iI (z4))), (1, .int (iI (z1))), (0, .ref (ad 0))]) hE.1 hE.2.1 dX8_move_32 rfl hl (by decide) rfl (fun ls hl => ?_)
    have loop5 : ∀ (k5 : Nat) (y5_3 : Int) (vl5 arl5 : sI) (all5 : sL) (H : Heap) (locs : List Loc) (ls : Array Slot), (10 - y5_3).toNat = k5 → (0 ≤ y5_3 ∧ y5_3 ≤ 10) → XI vl5 → (∀ i j : Nat, (i, j) ∉ ([] : List (Nat × Nat)) → vl5 i j = v4 i j) → va_P D xcl (wW ad (xG ad K (some (ad 132))) 133 vl5 arl5 all5) H → va_S (inW ad 133) s.heap H locs → lv_has ls 4 [(3, .int (iI (y5_3))), (2, .int (iI (z4))), (1, .int (iI (z1))), (0, .ref (ad 0))] → W p l e (rmD 26) s m args below meth c H locs 0 0 Q (F0 m 33 ls []) := by
      intro k5
      induction k5 using Nat.strongRecOn with
      | _ k5 ih5 =>
        intro y5_3 vl5 arl5 all5 H locs ls hk5 hb_y5_3 hI hfr5 hP hS hl
        refine lv_iload_n hE.1 hE.2.1 dX8_move_33 rfl (lv_at hl 0 rfl) ?_
        refine lv_bipush (v := iI (9)) hE.1 hE.2.1 dX8_move_34 (by decide) ?_
        refine s_icmp_gt (a := y5_3) (b := 9) (tgt := 55) hE.1 hE.2.1 (by omega) (by omega) dX8_move_36 (by decide) (fun c6 => ?_) (fun c6 => ?_)
        · skip
          refine lv_iconst (v := iI (-1)) hE.1 hE.2.1 dX8_move_55 (by decide) ?_
          exact kr _ _ _ _ _ _ _ _ rfl ⟨⟨-1, by omega, rfl⟩, hI, fun i j h => ((hfr5 i j (fun q => h (mem_sub (by decide) q))).trans ((hq4 i j (fun q => h (mem_sub (by decide) q))).trans (hq3 i j (fun q => h (mem_sub (by decide) q)))))⟩ hP hS dX8_move_56
        · skip
          refine lv_iload_n hE.1 hE.2.1 dX8_move_39 rfl (lv_at hl 1 rfl) ?_
          refine lv_iload_n hE.1 hE.2.1 dX8_move_40 rfl (lv_at hl 0 rfl) ?_
          refine lv_ishr hE.1 hE.2.1 dX8_move_41 ?_
          obtain ⟨z7, hz7, ez7⟩ := iI_of (iI (z4) >>> (iI (y5_3) &&& 31))
          refine x_top ez7 ?_
          refine lv_iconst (v := iI (1)) hE.1 hE.2.1 dX8_move_42 (by decide) ?_
          refine lv_iand hE.1 hE.2.1 dX8_move_43 ?_
          obtain ⟨z8, hz8, ez8⟩ := iI_and (iI (z7)) (iI (1)) 1 (by decide)
          refine x_top ez8 ?_
          refine s_if_eq (a := z8) (tgt := 49) hE.1 hE.2.1 (by omega) dX8_move_44 (by decide) (fun c9 => ?_) (fun c9 => ?_)
          · skip
            refine lv_iinc (v := iI (y5_3 + 1)) (lv' := [(3, .int (iI (y5_3 + 1))), (2, .int (iI (z4))), (1, .int (iI (z1))), (0, .ref (ad 0))]) hE.1 hE.2.1 dX8_move_49 hl (k := 0) rfl ((iI_add (y5_3) (1)).trans (congrArg iI (by omega))) (by decide) rfl (fun ls hl => ?_)
            refine lv_goto (tgt := 33) hE.1 hE.2.1 dX8_move_52 (by decide) ?_
            exact ih5 _ (by omega) (y5_3 + 1) vl5 arl5 all5 _ _ _ rfl (by omega) hI (fun i j h => (hfr5 i j h)) hP hS (lv_sub hl [0, 1, 2, 3] rfl)
          · skip
            refine lv_iload_n hE.1 hE.2.1 dX8_move_47 rfl (lv_at hl 0 rfl) ?_
            exact kr _ _ _ _ _ _ _ _ rfl ⟨⟨y5_3, by omega, rfl⟩, hI, fun i j h => ((hfr5 i j (fun q => h (mem_sub (by decide) q))).trans ((hq4 i j (fun q => h (mem_sub (by decide) q))).trans (hq3 i j (fun q => h (mem_sub (by decide) q)))))⟩ hP hS dX8_move_48
    exact loop5 _ (0) v4 ar4 al4 _ _ _ rfl (by omega) hI (fun _ _ _ => rfl) hP hS hl
  · skip
    refine lv_iload_n hE.1 hE.2.1 dX8_move_9 rfl (lv_at hl 0 rfl) ?_
    exact kr _ _ _ _ _ _ _ _ rfl ⟨⟨z1, by omega, rfl⟩, hI, fun i j h => rfl⟩ hP hS dX8_move_10

theorem dX2_turnsToEnd_0 : decode cX2_turnsToEnd 0 = .ok (.aload_n 0, 1) := by decide +kernel
theorem dX2_turnsToEnd_1 : decode cX2_turnsToEnd 1 = .ok (.iconst 0, 1) := by decide +kernel
theorem dX2_turnsToEnd_2 : decode cX2_turnsToEnd 2 = .ok (.invokevirtual 41, 3) := by decide +kernel
theorem dX2_turnsToEnd_5 : decode cX2_turnsToEnd 5 = .ok (.iconst 1, 1) := by decide +kernel
theorem dX2_turnsToEnd_6 : decode cX2_turnsToEnd 6 = .ok (.ishr, 1) := by decide +kernel
theorem dX2_turnsToEnd_7 : decode cX2_turnsToEnd 7 = .ok (.ireturn, 1) := by decide +kernel
set_option maxHeartbeats 4000000 in
set_option maxRecDepth 100000 in
theorem s_X2_turnsToEnd_56 (l : Launch) (D : va_G) (K : Nat → ClassId) (ad : Nat → Nat) (v ar : sI) (al : sL) (hI : XI v) : Met l yX2_turnsToEnd (wM yX2_turnsToEnd cX2_turnsToEnd 1 (some .int)) (rmD 24) (va_Pc [.ref (ad 56)] (wPre D K ad (xG ad K (some (ad 132))) 133 v ar al)) (va_Qi (fun (r : Int32) (u : sT) => (∃ z : Int, (-2147483648 ≤ z ∧ z ≤ 2147483647) ∧ r = iI z) ∧ XI u.1 ∧ (∀ i j : Nat, (i, j) ∉ ([(57, 2), (57, 3), (57, 4), (57, 5), (57, 8), (57, 9)] : List (Nat × Nat)) → u.1 i j = v i j)) (wB D ad (xG ad K (some (ad 132))) 133) (inW ad 133)) 0 0 (inW ad 133) := by
  refine s_metI (by decide) (Nat.le_of_ble_eq_true rfl) ?_
  intro p e s m below meth c ls args Q hE hB hl kr
  have hE : CallFix p m c cX2_turnsToEnd 1 s args tbG "TaleCourt$Game" := hE
  obtain ⟨hP, hK, hN⟩ := hB
  have hS : va_S (inW ad 133) s.heap s.heap [] := va_S.rf
  have hl : lv_has ls 1 [(0, .ref (ad 56))] := hl
  refine lv_aload_n hE.1 hE.2.1 dX2_turnsToEnd_0 rfl (lv_at hl 0 rfl) ?_
  refine lv_iconst (v := iI (0)) hE.1 hE.2.1 dX2_turnsToEnd_1 (by decide) ?_
  refine x_vi (nn := 1) (As := [.int (iI (0))]) (rest := []) hE hK hN hP hS (s_X2_solve_56 l D K ad  20 v ar al hI (0) (by omega) (by omega)) (x_recv hK hP 56 (by decide) (xG_2 rfl) rfl) rfl mw_1041 mw_1043 mw_31 mw_120 mw_1044 (by decide +kernel) ⟨by decide, by decide⟩ hl.1 rfl (Nat.le_of_ble_eq_true rfl) ⟨Nat.zero_le _, Nat.zero_le _⟩ dX2_turnsToEnd_2 (fun r1 v1 ar1 al1 H locs hq1 hP hS => ?_)
  obtain ⟨⟨z1, hz1, rfl⟩, hI, hq1⟩ := hq1
  have hI : XI v1 := hI
  refine lv_iconst (v := iI (1)) hE.1 hE.2.1 dX2_turnsToEnd_5 (by decide) ?_
  refine lv_ishr hE.1 hE.2.1 dX2_turnsToEnd_6 ?_
  obtain ⟨z2, hz2, ez2⟩ := iI_of (iI (z1) >>> (iI (1) &&& 31))
  refine x_top ez2 ?_
  exact kr _ _ _ _ _ _ _ _ rfl ⟨⟨z2, by omega, rfl⟩, hI, fun i j h => (hq1 i j (fun q => h (mem_sub (by decide) q)))⟩ hP hS dX2_turnsToEnd_7

theorem dX8_lasts_0 : decode cX8_lasts 0 = .ok (.aload_n 0, 1) := by decide +kernel
theorem dX8_lasts_1 : decode cX8_lasts 1 = .ok (.invokevirtual 226, 3) := by decide +kernel
theorem dX8_lasts_4 : decode cX8_lasts 4 = .ok (.istore_n 1, 1) := by decide +kernel
theorem dX8_lasts_5 : decode cX8_lasts 5 = .ok (.iload_n 1, 1) := by decide +kernel
theorem dX8_lasts_6 : decode cX8_lasts 6 = .ok (.ifCond .eq 5, 3) := by decide +kernel
theorem dX8_lasts_9 : decode cX8_lasts 9 = .ok (.iload_n 1, 1) := by decide +kernel
theorem dX8_lasts_10 : decode cX8_lasts 10 = .ok (.ireturn, 1) := by decide +kernel
theorem dX8_lasts_11 : decode cX8_lasts 11 = .ok (.aload_n 0, 1) := by decide +kernel
theorem dX8_lasts_12 : decode cX8_lasts 12 = .ok (.getfield 57, 3) := by decide +kernel
theorem dX8_lasts_15 : decode cX8_lasts 15 = .ok (.aload_n 0, 1) := by decide +kernel
theorem dX8_lasts_16 : decode cX8_lasts 16 = .ok (.getfield 31, 3) := by decide +kernel
theorem dX8_lasts_19 : decode cX8_lasts 19 = .ok (.iconst 0, 1) := by decide +kernel
theorem dX8_lasts_20 : decode cX8_lasts 20 = .ok (.invokevirtual 229, 3) := by decide +kernel
theorem dX8_lasts_23 : decode cX8_lasts 23 = .ok (.aload_n 0, 1) := by decide +kernel
theorem dX8_lasts_24 : decode cX8_lasts 24 = .ok (.getfield 57, 3) := by decide +kernel
theorem dX8_lasts_27 : decode cX8_lasts 27 = .ok (.invokevirtual 239, 3) := by decide +kernel
theorem dX8_lasts_30 : decode cX8_lasts 30 = .ok (.ireturn, 1) := by decide +kernel
set_option maxHeartbeats 4000000 in
set_option maxRecDepth 100000 in
theorem s_X8_lasts_0 (l : Launch) (D : va_G) (K : Nat → ClassId) (ad : Nat → Nat) (v ar : sI) (al : sL) (hI : XI v) : Met l yX8_lasts (wM yX8_lasts cX8_lasts 2 (some .int)) (rmD 25) (va_Pc [.ref (ad 0)] (wPre D K ad (xG ad K (some (ad 132))) 133 v ar al)) (va_Qi (fun (r : Int32) (u : sT) => (∃ z : Int, (-2147483648 ≤ z ∧ z ≤ 2147483647) ∧ r = iI z) ∧ XI u.1 ∧ (∀ i j : Nat, (i, j) ∉ ([(56, 3), (56, 4), (57, 2), (57, 3), (57, 4), (57, 5), (57, 8), (57, 9)] : List (Nat × Nat)) → u.1 i j = v i j)) (wB D ad (xG ad K (some (ad 132))) 133) (inW ad 133)) 0 0 (inW ad 133) := by
  refine s_metI (by decide) (Nat.le_of_ble_eq_true rfl) ?_
  intro p e s m below meth c ls args Q hE hB hl kr
  have hE : CallFix p m c cX8_lasts 2 s args tbG "TaleCourt" := hE
  obtain ⟨hP, hK, hN⟩ := hB
  have hS : va_S (inW ad 133) s.heap s.heap [] := va_S.rf
  have hl : lv_has ls 2 [(0, .ref (ad 0))] := hl
  refine lv_aload_n hE.1 hE.2.1 dX8_lasts_0 rfl (lv_at hl 0 rfl) ?_
  refine x_vp (nn := 0) (As := []) (rest := []) hE (s_X8_gameBar_0 l D K ad (some (ad 132)) 133 (by decide) v ar al hI  ) wPre_blind (wPre_now hK hN hP) (x_recv hK hP 0 (by decide) (xG_8 rfl) rfl) rfl mw_1027 mw_1029 mw_30 mw_114 mw_1030 (by decide +kernel) ⟨by decide, by decide⟩ hl.1 rfl (Nat.le_of_ble_eq_true rfl) ⟨Nat.zero_le _, Nat.zero_le _⟩ dX8_lasts_1 (fun r1 hr1 => ?_)
  obtain ⟨z1, hz1, rfl⟩ := hr1
  refine lv_istore_n (lv' := [(1, .int (iI (z1))), (0, .ref (ad 0))]) hE.1 hE.2.1 dX8_lasts_4 rfl hl (by decide) rfl (fun ls hl => ?_)
  refine lv_iload_n hE.1 hE.2.1 dX8_lasts_5 rfl (lv_at hl 0 rfl) ?_
  refine s_if_eq (a := z1) (tgt := 11) hE.1 hE.2.1 (by omega) dX8_lasts_6 (by decide) (fun c2 => ?_) (fun c2 => ?_)
  · skip
    refine lv_aload_n hE.1 hE.2.1 dX8_lasts_11 rfl (lv_at hl 1 rfl) ?_
    refine x_get (x := .ref (ad 56)) hE hK hP 0 (by decide) (xG_8 rfl) rfl hin8 7 (by decide) mw_487 rfl dX8_lasts_12 ?_
    refine lv_aload_n hE.1 hE.2.1 dX8_lasts_15 rfl (lv_at hl 1 rfl) ?_
    refine x_get (x := .ref (ad 23)) hE hK hP 0 (by decide) (xG_8 rfl) rfl hin8 3 (by decide) mw_483 rfl dX8_lasts_16 ?_
    refine lv_iconst (v := iI (0)) hE.1 hE.2.1 dX8_lasts_19 (by decide) ?_
    refine x_vv (nn := 2) (As := [.ref (ad 23), .int (iI (0))]) (rest := []) hE hK hN hP hS (s_X2_begin_56_23 l D K ad  v ar al hI  (0) (by omega)) (x_recv hK hP 56 (by decide) (xG_2 rfl) rfl) rfl mw_1031 mw_1032 mw_1033 mw_120 mw_1034 (by decide +kernel) ⟨by decide, by decide⟩ hl.1 rfl (Nat.le_of_ble_eq_true rfl) ⟨Nat.zero_le _, Nat.zero_le _⟩ dX8_lasts_20 (fun v3 ar3 al3 H locs hq3 hP hS => ?_)
    obtain ⟨hI, hq3⟩ := hq3
    have hI : XI v3 := hI
    refine lv_aload_n hE.1 hE.2.1 dX8_lasts_23 rfl (lv_at hl 1 rfl) ?_
    refine x_get (x := .ref (ad 56)) hE hK hP 0 (by decide) (xG_8 rfl) rfl hin8 7 (by decide) mw_487 rfl dX8_lasts_24 ?_
    refine x_vi (nn := 0) (As := []) (rest := []) hE hK hN hP hS (s_X2_turnsToEnd_56 l D K ad  v3 ar3 al3 hI  ) (x_recv hK hP 56 (by decide) (xG_2 rfl) rfl) rfl mw_1077 mw_1078 mw_1079 mw_120 mw_1080 (by decide +kernel) ⟨by decide, by decide⟩ hl.1 rfl (Nat.le_of_ble_eq_true rfl) ⟨Nat.zero_le _, Nat.zero_le _⟩ dX8_lasts_27 (fun r4 v4 ar4 al4 H locs hq4 hP hS => ?_)
    obtain ⟨⟨z4, hz4, rfl⟩, hI, hq4⟩ := hq4
    have hI : XI v4 := hI
    exact kr _ _ _ _ _ _ _ _ rfl ⟨⟨z4, by omega, rfl⟩, hI, fun i j h => ((hq4 i j (fun q => h (mem_sub (by decide) q))).trans (hq3 i j (fun q => h (mem_sub (by decide) q))))⟩ hP hS dX8_lasts_30
  · skip
    refine lv_iload_n hE.1 hE.2.1 dX8_lasts_9 rfl (lv_at hl 0 rfl) ?_
    exact kr _ _ _ _ _ _ _ _ rfl ⟨⟨z1, by omega, rfl⟩, hI, fun i j h => rfl⟩ hP hS dX8_lasts_10

theorem dX8_good_0 : decode cX8_good 0 = .ok (.aload_n 0, 1) := by decide +kernel
theorem dX8_good_1 : decode cX8_good 1 = .ok (.invokevirtual 226, 3) := by decide +kernel
theorem dX8_good_4 : decode cX8_good 4 = .ok (.istore_n 1, 1) := by decide +kernel
theorem dX8_good_5 : decode cX8_good 5 = .ok (.iload_n 1, 1) := by decide +kernel
theorem dX8_good_6 : decode cX8_good 6 = .ok (.ifCond .eq 5, 3) := by decide +kernel
theorem dX8_good_9 : decode cX8_good 9 = .ok (.iload_n 1, 1) := by decide +kernel
theorem dX8_good_10 : decode cX8_good 10 = .ok (.ireturn, 1) := by decide +kernel
theorem dX8_good_11 : decode cX8_good 11 = .ok (.aload_n 0, 1) := by decide +kernel
theorem dX8_good_12 : decode cX8_good 12 = .ok (.getfield 57, 3) := by decide +kernel
theorem dX8_good_15 : decode cX8_good 15 = .ok (.aload_n 0, 1) := by decide +kernel
theorem dX8_good_16 : decode cX8_good 16 = .ok (.getfield 31, 3) := by decide +kernel
theorem dX8_good_19 : decode cX8_good 19 = .ok (.iconst 1, 1) := by decide +kernel
theorem dX8_good_20 : decode cX8_good 20 = .ok (.invokevirtual 229, 3) := by decide +kernel
theorem dX8_good_23 : decode cX8_good 23 = .ok (.aload_n 0, 1) := by decide +kernel
theorem dX8_good_24 : decode cX8_good 24 = .ok (.getfield 57, 3) := by decide +kernel
theorem dX8_good_27 : decode cX8_good 27 = .ok (.invokevirtual 236, 3) := by decide +kernel
theorem dX8_good_30 : decode cX8_good 30 = .ok (.ireturn, 1) := by decide +kernel
set_option maxHeartbeats 4000000 in
set_option maxRecDepth 100000 in
theorem s_X8_good_0 (l : Launch) (D : va_G) (K : Nat → ClassId) (ad : Nat → Nat) (v ar : sI) (al : sL) (hI : XI v) : Met l yX8_good (wM yX8_good cX8_good 2 (some .int)) (rmD 26) (va_Pc [.ref (ad 0)] (wPre D K ad (xG ad K (some (ad 132))) 133 v ar al)) (va_Qi (fun (r : Int32) (u : sT) => (∃ z : Int, (-2147483648 ≤ z ∧ z ≤ 2147483647) ∧ r = iI z) ∧ XI u.1 ∧ (∀ i j : Nat, (i, j) ∉ ([(56, 3), (56, 4), (57, 2), (57, 3), (57, 4), (57, 5), (57, 8), (57, 9)] : List (Nat × Nat)) → u.1 i j = v i j)) (wB D ad (xG ad K (some (ad 132))) 133) (inW ad 133)) 0 0 (inW ad 133) := by
  refine s_metI (by decide) (Nat.le_of_ble_eq_true rfl) ?_
  intro p e s m below meth c ls args Q hE hB hl kr
  have hE : CallFix p m c cX8_good 2 s args tbG "TaleCourt" := hE
  obtain ⟨hP, hK, hN⟩ := hB
  have hS : va_S (inW ad 133) s.heap s.heap [] := va_S.rf
  have hl : lv_has ls 2 [(0, .ref (ad 0))] := hl
  refine lv_aload_n hE.1 hE.2.1 dX8_good_0 rfl (lv_at hl 0 rfl) ?_
  refine x_vp (nn := 0) (As := []) (rest := []) hE (s_X8_gameBar_0 l D K ad (some (ad 132)) 133 (by decide) v ar al hI  ) wPre_blind (wPre_now hK hN hP) (x_recv hK hP 0 (by decide) (xG_8 rfl) rfl) rfl mw_1027 mw_1029 mw_30 mw_114 mw_1030 (by decide +kernel) ⟨by decide, by decide⟩ hl.1 rfl (Nat.le_of_ble_eq_true rfl) ⟨Nat.zero_le _, Nat.zero_le _⟩ dX8_good_1 (fun r1 hr1 => ?_)
  obtain ⟨z1, hz1, rfl⟩ := hr1
  refine lv_istore_n (lv' := [(1, .int (iI (z1))), (0, .ref (ad 0))]) hE.1 hE.2.1 dX8_good_4 rfl hl (by decide) rfl (fun ls hl => ?_)
  refine lv_iload_n hE.1 hE.2.1 dX8_good_5 rfl (lv_at hl 0 rfl) ?_
  refine s_if_eq (a := z1) (tgt := 11) hE.1 hE.2.1 (by omega) dX8_good_6 (by decide) (fun c2 => ?_) (fun c2 => ?_)
  · skip
    refine lv_aload_n hE.1 hE.2.1 dX8_good_11 rfl (lv_at hl 1 rfl) ?_
    refine x_get (x := .ref (ad 56)) hE hK hP 0 (by decide) (xG_8 rfl) rfl hin8 7 (by decide) mw_487 rfl dX8_good_12 ?_
    refine lv_aload_n hE.1 hE.2.1 dX8_good_15 rfl (lv_at hl 1 rfl) ?_
    refine x_get (x := .ref (ad 23)) hE hK hP 0 (by decide) (xG_8 rfl) rfl hin8 3 (by decide) mw_483 rfl dX8_good_16 ?_
    refine lv_iconst (v := iI (1)) hE.1 hE.2.1 dX8_good_19 (by decide) ?_
    refine x_vv (nn := 2) (As := [.ref (ad 23), .int (iI (1))]) (rest := []) hE hK hN hP hS (s_X2_begin_56_23 l D K ad  v ar al hI  (1) (by omega)) (x_recv hK hP 56 (by decide) (xG_2 rfl) rfl) rfl mw_1031 mw_1032 mw_1033 mw_120 mw_1034 (by decide +kernel) ⟨by decide, by decide⟩ hl.1 rfl (Nat.le_of_ble_eq_true rfl) ⟨Nat.zero_le _, Nat.zero_le _⟩ dX8_good_20 (fun v3 ar3 al3 H locs hq3 hP hS => ?_)
    obtain ⟨hI, hq3⟩ := hq3
    have hI : XI v3 := hI
    refine lv_aload_n hE.1 hE.2.1 dX8_good_23 rfl (lv_at hl 1 rfl) ?_
    refine x_get (x := .ref (ad 56)) hE hK hP 0 (by decide) (xG_8 rfl) rfl hin8 7 (by decide) mw_487 rfl dX8_good_24 ?_
    refine x_vi (nn := 0) (As := []) (rest := []) hE hK hN hP hS (s_X2_winningMoves_56 l D K ad  v3 ar3 al3 hI  ) (x_recv hK hP 56 (by decide) (xG_2 rfl) rfl) rfl mw_1068 mw_1069 mw_1070 mw_120 mw_1071 (by decide +kernel) ⟨by decide, by decide⟩ hl.1 rfl (Nat.le_of_ble_eq_true rfl) ⟨Nat.zero_le _, Nat.zero_le _⟩ dX8_good_27 (fun r4 v4 ar4 al4 H locs hq4 hP hS => ?_)
    obtain ⟨⟨z4, hz4, rfl⟩, hI, hq4⟩ := hq4
    have hI : XI v4 := hI
    exact kr _ _ _ _ _ _ _ _ rfl ⟨⟨z4, by omega, rfl⟩, hI, fun i j h => ((hq4 i j (fun q => h (mem_sub (by decide) q))).trans (hq3 i j (fun q => h (mem_sub (by decide) q))))⟩ hP hS dX8_good_30
  · skip
    refine lv_iload_n hE.1 hE.2.1 dX8_good_9 rfl (lv_at hl 0 rfl) ?_
    exact kr _ _ _ _ _ _ _ _ rfl ⟨⟨z1, by omega, rfl⟩, hI, fun i j h => rfl⟩ hP hS dX8_good_10

theorem dX8_kept_0 : decode cX8_kept 0 = .ok (.aload_n 0, 1) := by decide +kernel
theorem dX8_kept_1 : decode cX8_kept 1 = .ok (.invokevirtual 226, 3) := by decide +kernel
theorem dX8_kept_4 : decode cX8_kept 4 = .ok (.istore_n 3, 1) := by decide +kernel
theorem dX8_kept_5 : decode cX8_kept 5 = .ok (.iload_n 3, 1) := by decide +kernel
theorem dX8_kept_6 : decode cX8_kept 6 = .ok (.ifCond .eq 5, 3) := by decide +kernel
theorem dX8_kept_9 : decode cX8_kept 9 = .ok (.iload_n 3, 1) := by decide +kernel
theorem dX8_kept_10 : decode cX8_kept 10 = .ok (.ireturn, 1) := by decide +kernel
theorem dX8_kept_11 : decode cX8_kept 11 = .ok (.aload_n 0, 1) := by decide +kernel
theorem dX8_kept_12 : decode cX8_kept 12 = .ok (.getfield 19, 3) := by decide +kernel
theorem dX8_kept_15 : decode cX8_kept 15 = .ok (.iload_n 1, 1) := by decide +kernel
theorem dX8_kept_16 : decode cX8_kept 16 = .ok (.invokevirtual 102, 3) := by decide +kernel
theorem dX8_kept_19 : decode cX8_kept 19 = .ok (.ifCond .eq 14, 3) := by decide +kernel
theorem dX8_kept_22 : decode cX8_kept 22 = .ok (.aload_n 0, 1) := by decide +kernel
theorem dX8_kept_23 : decode cX8_kept 23 = .ok (.getfield 19, 3) := by decide +kernel
theorem dX8_kept_26 : decode cX8_kept 26 = .ok (.iload_n 2, 1) := by decide +kernel
theorem dX8_kept_27 : decode cX8_kept 27 = .ok (.invokevirtual 242, 3) := by decide +kernel
theorem dX8_kept_30 : decode cX8_kept 30 = .ok (.ifCond .ne 6, 3) := by decide +kernel
theorem dX8_kept_33 : decode cX8_kept 33 = .ok (.bipush (-2), 2) := by decide +kernel
theorem dX8_kept_35 : decode cX8_kept 35 = .ok (.ireturn, 1) := by decide +kernel
theorem dX8_kept_36 : decode cX8_kept 36 = .ok (.aload_n 0, 1) := by decide +kernel
theorem dX8_kept_37 : decode cX8_kept 37 = .ok (.getfield 19, 3) := by decide +kernel
theorem dX8_kept_40 : decode cX8_kept 40 = .ok (.getfield 125, 3) := by decide +kernel
theorem dX8_kept_43 : decode cX8_kept 43 = .ok (.iload_n 1, 1) := by decide +kernel
theorem dX8_kept_44 : decode cX8_kept 44 = .ok (.iaload, 1) := by decide +kernel
theorem dX8_kept_45 : decode cX8_kept 45 = .ok (.istore 4, 2) := by decide +kernel
theorem dX8_kept_47 : decode cX8_kept 47 = .ok (.aload_n 0, 1) := by decide +kernel
theorem dX8_kept_48 : decode cX8_kept 48 = .ok (.getfield 19, 3) := by decide +kernel
theorem dX8_kept_51 : decode cX8_kept 51 = .ok (.iload_n 1, 1) := by decide +kernel
theorem dX8_kept_52 : decode cX8_kept 52 = .ok (.iload_n 2, 1) := by decide +kernel
theorem dX8_kept_53 : decode cX8_kept 53 = .ok (.invokevirtual 245, 3) := by decide +kernel
theorem dX8_kept_56 : decode cX8_kept 56 = .ok (.aload_n 0, 1) := by decide +kernel
theorem dX8_kept_57 : decode cX8_kept 57 = .ok (.getfield 57, 3) := by decide +kernel
theorem dX8_kept_60 : decode cX8_kept 60 = .ok (.aload_n 0, 1) := by decide +kernel
theorem dX8_kept_61 : decode cX8_kept 61 = .ok (.getfield 31, 3) := by decide +kernel
theorem dX8_kept_64 : decode cX8_kept 64 = .ok (.iconst 1, 1) := by decide +kernel
theorem dX8_kept_65 : decode cX8_kept 65 = .ok (.invokevirtual 229, 3) := by decide +kernel
theorem dX8_kept_68 : decode cX8_kept 68 = .ok (.aload_n 0, 1) := by decide +kernel
theorem dX8_kept_69 : decode cX8_kept 69 = .ok (.getfield 57, 3) := by decide +kernel
theorem dX8_kept_72 : decode cX8_kept 72 = .ok (.invokevirtual 233, 3) := by decide +kernel
theorem dX8_kept_75 : decode cX8_kept 75 = .ok (.istore 5, 2) := by decide +kernel
theorem dX8_kept_77 : decode cX8_kept 77 = .ok (.aload_n 0, 1) := by decide +kernel
theorem dX8_kept_78 : decode cX8_kept 78 = .ok (.getfield 19, 3) := by decide +kernel
theorem dX8_kept_81 : decode cX8_kept 81 = .ok (.iload_n 1, 1) := by decide +kernel
theorem dX8_kept_82 : decode cX8_kept 82 = .ok (.iload 4, 2) := by decide +kernel
theorem dX8_kept_84 : decode cX8_kept 84 = .ok (.invokevirtual 245, 3) := by decide +kernel
theorem dX8_kept_87 : decode cX8_kept 87 = .ok (.iload 5, 2) := by decide +kernel
theorem dX8_kept_89 : decode cX8_kept 89 = .ok (.ifCond .eq 7, 3) := by decide +kernel
theorem dX8_kept_92 : decode cX8_kept 92 = .ok (.iconst 1, 1) := by decide +kernel
theorem dX8_kept_93 : decode cX8_kept 93 = .ok (.goto 4, 3) := by decide +kernel
theorem dX8_kept_96 : decode cX8_kept 96 = .ok (.iconst 0, 1) := by decide +kernel
theorem dX8_kept_97 : decode cX8_kept 97 = .ok (.ireturn, 1) := by decide +kernel
set_option maxHeartbeats 4000000 in
set_option maxRecDepth 100000 in
theorem s_X8_kept_0 (l : Launch) (D : va_G) (K : Nat → ClassId) (ad : Nat → Nat) (v ar : sI) (al : sL) (hI : XI v) (z_1 : Int) (hz_1 : -2147483648 ≤ z_1 ∧ z_1 ≤ 2147483647) (z_2 : Int) (hz_2 : -2147483648 ≤ z_2 ∧ z_2 ≤ 2147483647) : Met l yX8_kept (wM yX8_kept cX8_kept 6 (some .int)) (rmD 25) (va_Pc [.ref (ad 0), .int (iI (z_1)), .int (iI (z_2))] (wPre D K ad (xG ad K (some (ad 132))) 133 v ar al)) (va_Qi (fun (r : Int32) (u : sT) => (∃ z : Int, (-2147483648 ≤ z ∧ z ≤ 2147483647) ∧ r = iI z) ∧ XI u.1 ∧ (∀ i j : Nat, (i, j) ∉ ([(56, 3), (56, 4), (57, 2), (57, 3), (57, 4), (57, 5), (57, 8), (57, 9)] : List (Nat × Nat)) → u.1 i j = v i j)) (wB D ad (xG ad K (some (ad 132))) 133) (inW ad 133)) 0 0 (inW ad 133) := by
  refine s_metI (by decide) (Nat.le_of_ble_eq_true rfl) ?_
  intro p e s m below meth c ls args Q hE hB hl kr
  have hE : CallFix p m c cX8_kept 6 s args tbG "TaleCourt" := hE
  obtain ⟨hP, hK, hN⟩ := hB
  have hS : va_S (inW ad 133) s.heap s.heap [] := va_S.rf
  have hl : lv_has ls 6 [(0, .ref (ad 0)), (1, .int (iI (z_1))), (2, .int (iI (z_2)))] := hl
  refine lv_aload_n hE.1 hE.2.1 dX8_kept_0 rfl (lv_at hl 0 rfl) ?_
  refine x_vp (nn := 0) (As := []) (rest := []) hE (s_X8_gameBar_0 l D K ad (some (ad 132)) 133 (by decide) v ar al hI  ) wPre_blind (wPre_now hK hN hP) (x_recv hK hP 0 (by decide) (xG_8 rfl) rfl) rfl mw_1027 mw_1029 mw_30 mw_114 mw_1030 (by decide +kernel) ⟨by decide, by decide⟩ hl.1 rfl (Nat.le_of_ble_eq_true rfl) ⟨Nat.zero_le _, Nat.zero_le _⟩ dX8_kept_1 (fun r1 hr1 => ?_)
  obtain ⟨z1, hz1, rfl⟩ := hr1
  refine lv_istore_n (lv' := [(3, .int (iI (z1))), (0, .ref (ad 0)), (1, .int (iI (z_1))), (2, .int (iI (z_2)))]) hE.1 hE.2.1 dX8_kept_4 rfl hl (by decide) rfl (fun ls hl => ?_)
  refine lv_iload_n hE.1 hE.2.1 dX8_kept_5 rfl (lv_at hl 0 rfl) ?_
  refine s_if_eq (a := z1) (tgt := 11) hE.1 hE.2.1 (by omega) dX8_kept_6 (by decide) (fun c2 => ?_) (fun c2 => ?_)
  · skip
    refine lv_aload_n hE.1 hE.2.1 dX8_kept_11 rfl (lv_at hl 1 rfl) ?_
    refine x_get (x := .ref (ad 3)) hE hK hP 0 (by decide) (xG_8 rfl) rfl hin8 1 (by decide) mw_481 rfl dX8_kept_12 ?_
    refine lv_iload_n hE.1 hE.2.1 dX8_kept_15 rfl (lv_at hl 2 rfl) ?_
    refine x_vp (nn := 1) (As := [.int (iI (z_1))]) (rest := []) hE (s_X1_hasMotif_3 l D K ad (some (ad 132)) 133 (by decide) v ar al hI  (z_1) (by omega)) wPre_blind (wPre_now hK hN hP) (x_recv hK hP 3 (by decide) (xG_1 rfl) rfl) rfl mw_694 mw_695 mw_696 mw_116 mw_697 (by decide +kernel) ⟨by decide, by decide⟩ hl.1 rfl (Nat.le_of_ble_eq_true rfl) ⟨Nat.zero_le _, Nat.zero_le _⟩ dX8_kept_16 (fun r3 hr3 => ?_)
    obtain ⟨z3, hz3, rfl⟩ := hr3
    refine s_if_eq (a := z3) (tgt := 33) hE.1 hE.2.1 (by omega) dX8_kept_19 (by decide) (fun c4 => ?_) (fun c4 => ?_)
    · skip
      refine lv_bipush (v := iI (-2)) hE.1 hE.2.1 dX8_kept_33 (by decide) ?_
      exact kr _ _ _ _ _ _ _ _ rfl ⟨⟨-2, by omega, rfl⟩, hI, fun i j h => rfl⟩ hP hS dX8_kept_35
    · skip
      refine lv_aload_n hE.1 hE.2.1 dX8_kept_22 rfl (lv_at hl 1 rfl) ?_
      refine x_get (x := .ref (ad 3)) hE hK hP 0 (by decide) (xG_8 rfl) rfl hin8 1 (by decide) mw_481 rfl dX8_kept_23 ?_
      refine lv_iload_n hE.1 hE.2.1 dX8_kept_26 rfl (lv_at hl 3 rfl) ?_
      refine x_vp (nn := 1) (As := [.int (iI (z_2))]) (rest := []) hE (s_X1_mayKeep_3 l D K ad (some (ad 132)) 133 (by decide) v ar al hI  (z_2) (by omega)) wPre_blind (wPre_now hK hN hP) (x_recv hK hP 3 (by decide) (xG_1 rfl) rfl) rfl mw_1089 mw_1090 mw_1091 mw_116 mw_1092 (by decide +kernel) ⟨by decide, by decide⟩ hl.1 rfl (Nat.le_of_ble_eq_true rfl) ⟨Nat.zero_le _, Nat.zero_le _⟩ dX8_kept_27 (fun r5 hr5 => ?_)
      obtain ⟨z5, hz5, rfl⟩ := hr5
      refine s_if_ne (a := z5) (tgt := 36) hE.1 hE.2.1 (by omega) dX8_kept_30 (by decide) (fun c6 => ?_) (fun c6 => ?_)
      · skip
        refine lv_aload_n hE.1 hE.2.1 dX8_kept_36 rfl (lv_at hl 1 rfl) ?_
        refine x_get (x := .ref (ad 3)) hE hK hP 0 (by decide) (xG_8 rfl) rfl hin8 1 (by decide) mw_481 rfl dX8_kept_37 ?_
        refine x_get (x := .ref (ad 7)) hE hK hP 3 (by decide) (xG_1 rfl) rfl hin1 14 (by decide) mw_230 rfl dX8_kept_40 ?_
        refine lv_iload_n hE.1 hE.2.1 dX8_kept_43 rfl (lv_at hl 2 rfl) ?_
        refine x_iald (j := iI (z_1)) hE hK hP 7 (by decide) (xG_10 rfl) (iI_in (n := 9) (by omega)) dX8_kept_44 ?_
        obtain ⟨z8, hz8, ez8⟩ := iI_of (ar 7 (iI (z_1)).toNatClampNeg)
        refine x_top ez8 ?_
        refine lv_istore (lv' := [(4, .int (iI (z8))), (3, .int (iI (z1))), (0, .ref (ad 0)), (1, .int (iI (z_1))), (2, .int (iI (z_2)))]) hE.1 hE.2.1 dX8_kept_45 hl (by decide) rfl (fun ls hl => ?_)
        refine lv_aload_n hE.1 hE.2.1 dX8_kept_47 rfl (lv_at hl 2 rfl) ?_
        refine x_get (x := .ref (ad 3)) hE hK hP 0 (by decide) (xG_8 rfl) rfl hin8 1 (by decide) mw_481 rfl dX8_kept_48 ?_
        refine lv_iload_n hE.1 hE.2.1 dX8_kept_51 rfl (lv_at hl 3 rfl) ?_
        refine lv_iload_n hE.1 hE.2.1 dX8_kept_52 rfl (lv_at hl 4 rfl) ?_
        refine x_vv (nn := 2) (As := [.int (iI (z_1)), .int (iI (z_2))]) (rest := []) hE hK hN hP hS (s_X1_setKeeper_3 l D K ad (some (ad 132)) 133 (by decide) v ar al hI  (z_1) (by omega) (z_2) (by omega)) (x_recv hK hP 3 (by decide) (xG_1 rfl) rfl) rfl mw_1094 mw_664 mw_665 mw_116 mw_666 (by decide +kernel) ⟨by decide, by decide⟩ hl.1 rfl (Nat.le_of_ble_eq_true rfl) ⟨Nat.zero_le _, Nat.zero_le _⟩ dX8_kept_53 (fun v9 ar9 al9 H locs hq9 hP hS => ?_)
        obtain ⟨hI, hq9⟩ := hq9
        have hI : XI v9 := hI
        refine lv_aload_n hE.1 hE.2.1 dX8_kept_56 rfl (lv_at hl 2 rfl) ?_
        refine x_get (x := .ref (ad 56)) hE hK hP 0 (by decide) (xG_8 rfl) rfl hin8 7 (by decide) mw_487 rfl dX8_kept_57 ?_
        refine lv_aload_n hE.1 hE.2.1 dX8_kept_60 rfl (lv_at hl 2 rfl) ?_
        refine x_get (x := .ref (ad 23)) hE hK hP 0 (by decide) (xG_8 rfl) rfl hin8 3 (by decide) mw_483 rfl dX8_kept_61 ?_
        refine lv_iconst (v := iI (1)) hE.1 hE.2.1 dX8_kept_64 (by decide) ?_
        refine x_vv (nn := 2) (As := [.ref (ad 23), .int (iI (1))]) (rest := []) hE hK hN hP hS (s_X2_begin_56_23 l D K ad  v9 ar9 al9 hI  (1) (by omega)) (x_recv hK hP 56 (by decide) (xG_2 rfl) rfl) rfl mw_1031 mw_1032 mw_1033 mw_120 mw_1034 (by decide +kernel) ⟨by decide, by decide⟩ hl.1 rfl (Nat.le_of_ble_eq_true rfl) ⟨Nat.zero_le _, Nat.zero_le _⟩ dX8_kept_65 (fun v10 ar10 al10 H locs hq10 hP hS => ?_)
        obtain ⟨hI, hq10⟩ := hq10
        have hI : XI v10 := hI
        refine lv_aload_n hE.1 hE.2.1 dX8_kept_68 rfl (lv_at hl 2 rfl) ?_
        refine x_get (x := .ref (ad 56)) hE hK hP 0 (by decide) (xG_8 rfl) rfl hin8 7 (by decide) mw_487 rfl dX8_kept_69 ?_
        refine x_vi (nn := 0) (As := []) (rest := []) hE hK hN hP hS (s_X2_isWon_56 l D K ad  v10 ar10 al10 hI  ) (x_recv hK hP 56 (by decide) (xG_2 rfl) rfl) rfl mw_1037 mw_1038 mw_1039 mw_120 mw_1040 (by decide +kernel) ⟨by decide, by decide⟩ hl.1 rfl (Nat.le_of_ble_eq_true rfl) ⟨Nat.zero_le _, Nat.zero_le _⟩ dX8_kept_72 (fun r11 v11 ar11 al11 H locs hq11 hP hS => ?_)
        obtain ⟨⟨z11, hz11, rfl⟩, hI, hq11⟩ := hq11
        have hI : XI v11 := hI
        refine lv_istore (lv' := [(5, .int (iI (z11))), (4, .int (iI (z8))), (3, .int (iI (z1))), (0, .ref (ad 0)), (1, .int (iI (z_1))), (2, .int (iI (z_2)))]) hE.1 hE.2.1 dX8_kept_75 hl (by decide) rfl (fun ls hl => ?_)
        refine lv_aload_n hE.1 hE.2.1 dX8_kept_77 rfl (lv_at hl 3 rfl) ?_
        refine x_get (x := .ref (ad 3)) hE hK hP 0 (by decide) (xG_8 rfl) rfl hin8 1 (by decide) mw_481 rfl dX8_kept_78 ?_
        refine lv_iload_n hE.1 hE.2.1 dX8_kept_81 rfl (lv_at hl 4 rfl) ?_
        refine lv_iload hE.1 hE.2.1 dX8_kept_82 (lv_at hl 1 rfl) ?_
        refine x_vv (nn := 2) (As := [.int (iI (z_1)), .int (iI (z8))]) (rest := []) hE hK hN hP hS (s_X1_setKeeper_3 l D K ad (some (ad 132)) 133 (by decide) v11 ar11 al11 hI  (z_1) (by omega) (z8) (by omega)) (x_recv hK hP 3 (by decide) (xG_1 rfl) rfl) rfl mw_1094 mw_664 mw_665 mw_116 mw_666 (by decide +kernel) ⟨by decide, by decide⟩ hl.1 rfl (Nat.le_of_ble_eq_true rfl) ⟨Nat.zero_le _, Nat.zero_le _⟩ dX8_kept_84 (fun v12 ar12 al12 H locs hq12 hP hS => ?_)
        obtain ⟨hI, hq12⟩ := hq12
        have hI : XI v12 := hI
        refine lv_iload hE.1 hE.2.1 dX8_kept_87 (lv_at hl 0 rfl) ?_
        refine s_if_eq (a := z11) (tgt := 96) hE.1 hE.2.1 (by omega) dX8_kept_89 (by decide) (fun c13 => ?_) (fun c13 => ?_)
        · skip
          refine lv_iconst (v := iI (0)) hE.1 hE.2.1 dX8_kept_96 (by decide) ?_
          exact kr _ _ _ _ _ _ _ _ rfl ⟨⟨0, by omega, rfl⟩, hI, fun i j h => ((hq12 i j (fun q => h (mem_sub (by decide) q))).trans ((hq11 i j (fun q => h (mem_sub (by decide) q))).trans ((hq10 i j (fun q => h (mem_sub (by decide) q))).trans (hq9 i j (fun q => h (mem_sub (by decide) q))))))⟩ hP hS dX8_kept_97
        · skip
          refine lv_iconst (v := iI (1)) hE.1 hE.2.1 dX8_kept_92 (by decide) ?_
          refine lv_goto (tgt := 97) hE.1 hE.2.1 dX8_kept_93 (by decide) ?_
          exact kr _ _ _ _ _ _ _ _ rfl ⟨⟨1, by omega, rfl⟩, hI, fun i j h => ((hq12 i j (fun q => h (mem_sub (by decide) q))).trans ((hq11 i j (fun q => h (mem_sub (by decide) q))).trans ((hq10 i j (fun q => h (mem_sub (by decide) q))).trans (hq9 i j (fun q => h (mem_sub (by decide) q))))))⟩ hP hS dX8_kept_97
      · skip
        refine lv_bipush (v := iI (-2)) hE.1 hE.2.1 dX8_kept_33 (by decide) ?_
        exact kr _ _ _ _ _ _ _ _ rfl ⟨⟨-2, by omega, rfl⟩, hI, fun i j h => rfl⟩ hP hS dX8_kept_35
  · skip
    refine lv_iload_n hE.1 hE.2.1 dX8_kept_9 rfl (lv_at hl 0 rfl) ?_
    exact kr _ _ _ _ _ _ _ _ rfl ⟨⟨z1, by omega, rfl⟩, hI, fun i j h => rfl⟩ hP hS dX8_kept_10

theorem dX1_keeperOf_0 : decode cX1_keeperOf 0 = .ok (.aload_n 0, 1) := by decide +kernel
theorem dX1_keeperOf_1 : decode cX1_keeperOf 1 = .ok (.iload_n 1, 1) := by decide +kernel
theorem dX1_keeperOf_2 : decode cX1_keeperOf 2 = .ok (.invokevirtual 91, 3) := by decide +kernel
theorem dX1_keeperOf_5 : decode cX1_keeperOf 5 = .ok (.ifCond .eq 12, 3) := by decide +kernel
theorem dX1_keeperOf_8 : decode cX1_keeperOf 8 = .ok (.aload_n 0, 1) := by decide +kernel
theorem dX1_keeperOf_9 : decode cX1_keeperOf 9 = .ok (.getfield 21, 3) := by decide +kernel
theorem dX1_keeperOf_12 : decode cX1_keeperOf 12 = .ok (.iload_n 1, 1) := by decide +kernel
theorem dX1_keeperOf_13 : decode cX1_keeperOf 13 = .ok (.iaload, 1) := by decide +kernel
theorem dX1_keeperOf_14 : decode cX1_keeperOf 14 = .ok (.goto 4, 3) := by decide +kernel
theorem dX1_keeperOf_17 : decode cX1_keeperOf 17 = .ok (.iconst (-1), 1) := by decide +kernel
theorem dX1_keeperOf_18 : decode cX1_keeperOf 18 = .ok (.ireturn, 1) := by decide +kernel
set_option maxHeartbeats 4000000 in
set_option maxRecDepth 100000 in
theorem s_X1_keeperOf_3 (l : Launch) (D : va_G) (K : Nat → ClassId) (ad : Nat → Nat) (mm : Option Nat) (N : Nat) (hNN : 132 ≤ N) (v ar : sI) (al : sL) (hI : XI v) (z_1 : Int) (hz_1 : -2147483648 ≤ z_1 ∧ z_1 ≤ 2147483647) : Met l yX1_keeperOf (wM yX1_keeperOf cX1_keeperOf 2 (some .int)) (rmD 1) (va_Pc [.ref (ad 3), .int (iI (z_1))] (wPre D K ad (xG ad K mm) N v ar al)) (vp_Si (fun r => ∃ z : Int, (-2147483648 ≤ z ∧ z ≤ 2147483647) ∧ r = iI z)) 0 0 (fun _ => False) := by
  refine s_metP (by decide) (Nat.le_of_ble_eq_true rfl) ?_
  intro p e s m below meth c ls args Q hE hB hl kr
  have hE : CallFix p m c cX1_keeperOf 2 s args tbG "TaleCourt$Court" := hE
  obtain ⟨hP, hK, hN⟩ := hB
  have hl : lv_has ls 2 [(0, .ref (ad 3)), (1, .int (iI (z_1)))] := hl
  refine lv_aload_n hE.1 hE.2.1 dX1_keeperOf_0 rfl (lv_at hl 0 rfl) ?_
  refine lv_iload_n hE.1 hE.2.1 dX1_keeperOf_1 rfl (lv_at hl 1 rfl) ?_
  refine x_vp (nn := 1) (As := [.int (iI (z_1))]) (rest := []) hE (s_X1_hasMotif_3 l D K ad mm N hNN v ar al hI  (z_1) (by omega)) wPre_blind (wPre_now hK hN hP) (x_recv hK hP 3 (Nat.lt_of_lt_of_le (by decide) hNN) (xG_1 rfl) rfl) rfl mw_1107 mw_695 mw_696 mw_116 mw_697 (by decide +kernel) ⟨by decide, by decide⟩ hl.1 rfl (Nat.le_of_ble_eq_true rfl) ⟨Nat.zero_le _, Nat.zero_le _⟩ dX1_keeperOf_2 (fun r1 hr1 => ?_)
  obtain ⟨z1, hz1, rfl⟩ := hr1
  refine s_if_eq (a := z1) (tgt := 17) hE.1 hE.2.1 (by omega) dX1_keeperOf_5 (by decide) (fun c2 => ?_) (fun c2 => ?_)
  · skip
    refine lv_iconst (v := iI (-1)) hE.1 hE.2.1 dX1_keeperOf_17 (by decide) ?_
    exact kr _ _ _ rfl ⟨-1, by omega, rfl⟩ dX1_keeperOf_18
  · skip
    refine lv_aload_n hE.1 hE.2.1 dX1_keeperOf_8 rfl (lv_at hl 0 rfl) ?_
    refine x_get (x := .ref (ad 7)) hE hK hP 3 (Nat.lt_of_lt_of_le (by decide) hNN) (xG_1 rfl) rfl hin1 14 (by decide) mw_229 rfl dX1_keeperOf_9 ?_
    refine lv_iload_n hE.1 hE.2.1 dX1_keeperOf_12 rfl (lv_at hl 1 rfl) ?_
    refine x_iald (j := iI (z_1)) hE hK hP 7 (Nat.lt_of_lt_of_le (by decide) hNN) (xG_10 rfl) (iI_in (n := 9) (by omega)) dX1_keeperOf_13 ?_
    obtain ⟨z4, hz4, ez4⟩ := iI_of (ar 7 (iI (z_1)).toNatClampNeg)
    refine x_top ez4 ?_
    refine lv_goto (tgt := 18) hE.1 hE.2.1 dX1_keeperOf_14 (by decide) ?_
    exact kr _ _ _ rfl ⟨z4, by omega, rfl⟩ dX1_keeperOf_18

theorem dX8_tradeWins_0 : decode cX8_tradeWins 0 = .ok (.aload_n 0, 1) := by decide +kernel
theorem dX8_tradeWins_1 : decode cX8_tradeWins 1 = .ok (.getfield 19, 3) := by decide +kernel
theorem dX8_tradeWins_4 : decode cX8_tradeWins 4 = .ok (.iload_n 1, 1) := by decide +kernel
theorem dX8_tradeWins_5 : decode cX8_tradeWins 5 = .ok (.invokevirtual 253, 3) := by decide +kernel
theorem dX8_tradeWins_8 : decode cX8_tradeWins 8 = .ok (.istore_n 3, 1) := by decide +kernel
theorem dX8_tradeWins_9 : decode cX8_tradeWins 9 = .ok (.aload_n 0, 1) := by decide +kernel
theorem dX8_tradeWins_10 : decode cX8_tradeWins 10 = .ok (.getfield 19, 3) := by decide +kernel
theorem dX8_tradeWins_13 : decode cX8_tradeWins 13 = .ok (.iload_n 2, 1) := by decide +kernel
theorem dX8_tradeWins_14 : decode cX8_tradeWins 14 = .ok (.invokevirtual 253, 3) := by decide +kernel
theorem dX8_tradeWins_17 : decode cX8_tradeWins 17 = .ok (.istore 4, 2) := by decide +kernel
theorem dX8_tradeWins_19 : decode cX8_tradeWins 19 = .ok (.iload_n 3, 1) := by decide +kernel
theorem dX8_tradeWins_20 : decode cX8_tradeWins 20 = .ok (.ifCond .lt 14, 3) := by decide +kernel
theorem dX8_tradeWins_23 : decode cX8_tradeWins 23 = .ok (.iload 4, 2) := by decide +kernel
theorem dX8_tradeWins_25 : decode cX8_tradeWins 25 = .ok (.ifCond .lt 9, 3) := by decide +kernel
theorem dX8_tradeWins_28 : decode cX8_tradeWins 28 = .ok (.iload_n 3, 1) := by decide +kernel
theorem dX8_tradeWins_29 : decode cX8_tradeWins 29 = .ok (.iload 4, 2) := by decide +kernel
theorem dX8_tradeWins_31 : decode cX8_tradeWins 31 = .ok (.if_icmp .ne 5, 3) := by decide +kernel
theorem dX8_tradeWins_34 : decode cX8_tradeWins 34 = .ok (.iconst 0, 1) := by decide +kernel
theorem dX8_tradeWins_35 : decode cX8_tradeWins 35 = .ok (.ireturn, 1) := by decide +kernel
theorem dX8_tradeWins_36 : decode cX8_tradeWins 36 = .ok (.aload_n 0, 1) := by decide +kernel
theorem dX8_tradeWins_37 : decode cX8_tradeWins 37 = .ok (.getfield 19, 3) := by decide +kernel
theorem dX8_tradeWins_40 : decode cX8_tradeWins 40 = .ok (.iload_n 1, 1) := by decide +kernel
theorem dX8_tradeWins_41 : decode cX8_tradeWins 41 = .ok (.iload 4, 2) := by decide +kernel
theorem dX8_tradeWins_43 : decode cX8_tradeWins 43 = .ok (.invokevirtual 245, 3) := by decide +kernel
theorem dX8_tradeWins_46 : decode cX8_tradeWins 46 = .ok (.aload_n 0, 1) := by decide +kernel
theorem dX8_tradeWins_47 : decode cX8_tradeWins 47 = .ok (.getfield 19, 3) := by decide +kernel
theorem dX8_tradeWins_50 : decode cX8_tradeWins 50 = .ok (.iload_n 2, 1) := by decide +kernel
theorem dX8_tradeWins_51 : decode cX8_tradeWins 51 = .ok (.iload_n 3, 1) := by decide +kernel
theorem dX8_tradeWins_52 : decode cX8_tradeWins 52 = .ok (.invokevirtual 245, 3) := by decide +kernel
theorem dX8_tradeWins_55 : decode cX8_tradeWins 55 = .ok (.aload_n 0, 1) := by decide +kernel
theorem dX8_tradeWins_56 : decode cX8_tradeWins 56 = .ok (.getfield 57, 3) := by decide +kernel
theorem dX8_tradeWins_59 : decode cX8_tradeWins 59 = .ok (.aload_n 0, 1) := by decide +kernel
theorem dX8_tradeWins_60 : decode cX8_tradeWins 60 = .ok (.getfield 31, 3) := by decide +kernel
theorem dX8_tradeWins_63 : decode cX8_tradeWins 63 = .ok (.iconst 1, 1) := by decide +kernel
theorem dX8_tradeWins_64 : decode cX8_tradeWins 64 = .ok (.invokevirtual 229, 3) := by decide +kernel
theorem dX8_tradeWins_67 : decode cX8_tradeWins 67 = .ok (.aload_n 0, 1) := by decide +kernel
theorem dX8_tradeWins_68 : decode cX8_tradeWins 68 = .ok (.getfield 57, 3) := by decide +kernel
theorem dX8_tradeWins_71 : decode cX8_tradeWins 71 = .ok (.invokevirtual 233, 3) := by decide +kernel
theorem dX8_tradeWins_74 : decode cX8_tradeWins 74 = .ok (.istore 5, 2) := by decide +kernel
theorem dX8_tradeWins_76 : decode cX8_tradeWins 76 = .ok (.aload_n 0, 1) := by decide +kernel
theorem dX8_tradeWins_77 : decode cX8_tradeWins 77 = .ok (.getfield 19, 3) := by decide +kernel
theorem dX8_tradeWins_80 : decode cX8_tradeWins 80 = .ok (.iload_n 1, 1) := by decide +kernel
theorem dX8_tradeWins_81 : decode cX8_tradeWins 81 = .ok (.iload_n 3, 1) := by decide +kernel
theorem dX8_tradeWins_82 : decode cX8_tradeWins 82 = .ok (.invokevirtual 245, 3) := by decide +kernel
theorem dX8_tradeWins_85 : decode cX8_tradeWins 85 = .ok (.aload_n 0, 1) := by decide +kernel
theorem dX8_tradeWins_86 : decode cX8_tradeWins 86 = .ok (.getfield 19, 3) := by decide +kernel
theorem dX8_tradeWins_89 : decode cX8_tradeWins 89 = .ok (.iload_n 2, 1) := by decide +kernel
theorem dX8_tradeWins_90 : decode cX8_tradeWins 90 = .ok (.iload 4, 2) := by decide +kernel
theorem dX8_tradeWins_92 : decode cX8_tradeWins 92 = .ok (.invokevirtual 245, 3) := by decide +kernel
theorem dX8_tradeWins_95 : decode cX8_tradeWins 95 = .ok (.iload 5, 2) := by decide +kernel
theorem dX8_tradeWins_97 : decode cX8_tradeWins 97 = .ok (.ireturn, 1) := by decide +kernel
set_option maxHeartbeats 4000000 in
set_option maxRecDepth 100000 in
theorem s_X8_tradeWins_0 (l : Launch) (D : va_G) (K : Nat → ClassId) (ad : Nat → Nat) (v ar : sI) (al : sL) (hI : XI v) (z_1 : Int) (hz_1 : -2147483648 ≤ z_1 ∧ z_1 ≤ 2147483647) (z_2 : Int) (hz_2 : -2147483648 ≤ z_2 ∧ z_2 ≤ 2147483647) : Met l yX8_tradeWins (wM yX8_tradeWins cX8_tradeWins 6 (some .boolean)) (rmD 25) (va_Pc [.ref (ad 0), .int (iI (z_1)), .int (iI (z_2))] (wPre D K ad (xG ad K (some (ad 132))) 133 v ar al)) (va_Qi (fun (r : Int32) (u : sT) => (∃ z : Int, (0 ≤ z ∧ z ≤ 1) ∧ r = iI z) ∧ XI u.1 ∧ (∀ i j : Nat, (i, j) ∉ ([(56, 3), (56, 4), (57, 2), (57, 3), (57, 4), (57, 5), (57, 8), (57, 9)] : List (Nat × Nat)) → u.1 i j = v i j)) (wB D ad (xG ad K (some (ad 132))) 133) (inW ad 133)) 0 0 (inW ad 133) := by
  refine s_metI (by decide) (Nat.le_of_ble_eq_true rfl) ?_
  intro p e s m below meth c ls args Q hE hB hl kr
  have hE : CallFix p m c cX8_tradeWins 6 s args tbG "TaleCourt" := hE
  obtain ⟨hP, hK, hN⟩ := hB
  have hS : va_S (inW ad 133) s.heap s.heap [] := va_S.rf
  have hl : lv_has ls 6 [(0, .ref (ad 0)), (1, .int (iI (z_1))), (2, .int (iI (z_2)))] := hl
  refine lv_aload_n hE.1 hE.2.1 dX8_tradeWins_0 rfl (lv_at hl 0 rfl) ?_
  refine x_get (x := .ref (ad 3)) hE hK hP 0 (by decide) (xG_8 rfl) rfl hin8 1 (by decide) mw_481 rfl dX8_tradeWins_1 ?_
  refine lv_iload_n hE.1 hE.2.1 dX8_tradeWins_4 rfl (lv_at hl 1 rfl) ?_
  refine x_vp (nn := 1) (As := [.int (iI (z_1))]) (rest := []) hE (s_X1_keeperOf_3 l D K ad (some (ad 132)) 133 (by decide) v ar al hI  (z_1) (by omega)) wPre_blind (wPre_now hK hN hP) (x_recv hK hP 3 (by decide) (xG_1 rfl) rfl) rfl mw_1103 mw_1104 mw_1105 mw_116 mw_1106 (by decide +kernel) ⟨by decide, by decide⟩ hl.1 rfl (Nat.le_of_ble_eq_true rfl) ⟨Nat.zero_le _, Nat.zero_le _⟩ dX8_tradeWins_5 (fun r1 hr1 => ?_)
  obtain ⟨z1, hz1, rfl⟩ := hr1
  refine lv_istore_n (lv' := [(3, .int (iI (z1))), (0, .ref (ad 0)), (1, .int (iI (z_1))), (2, .int (iI (z_2)))]) hE.1 hE.2.1 dX8_tradeWins_8 rfl hl (by decide) rfl (fun ls hl => ?_)
  refine lv_aload_n hE.1 hE.2.1 dX8_tradeWins_9 rfl (lv_at hl 1 rfl) ?_
  refine x_get (x := .ref (ad 3)) hE hK hP 0 (by decide) (xG_8 rfl) rfl hin8 1 (by decide) mw_481 rfl dX8_tradeWins_10 ?_
  refine lv_iload_n hE.1 hE.2.1 dX8_tradeWins_13 rfl (lv_at hl 3 rfl) ?_
  refine x_vp (nn := 1) (As := [.int (iI (z_2))]) (rest := []) hE (s_X1_keeperOf_3 l D K ad (some (ad 132)) 133 (by decide) v ar al hI  (z_2) (by omega)) wPre_blind (wPre_now hK hN hP) (x_recv hK hP 3 (by decide) (xG_1 rfl) rfl) rfl mw_1103 mw_1104 mw_1105 mw_116 mw_1106 (by decide +kernel) ⟨by decide, by decide⟩ hl.1 rfl (Nat.le_of_ble_eq_true rfl) ⟨Nat.zero_le _, Nat.zero_le _⟩ dX8_tradeWins_14 (fun r2 hr2 => ?_)
  obtain ⟨z2, hz2, rfl⟩ := hr2
  refine lv_istore (lv' := [(4, .int (iI (z2))), (3, .int (iI (z1))), (0, .ref (ad 0)), (1, .int (iI (z_1))), (2, .int (iI (z_2)))]) hE.1 hE.2.1 dX8_tradeWins_17 hl (by decide) rfl (fun ls hl => ?_)
  refine lv_iload_n hE.1 hE.2.1 dX8_tradeWins_19 rfl (lv_at hl 1 rfl) ?_
  refine s_if_lt (a := z1) (tgt := 34) hE.1 hE.2.1 (by omega) dX8_tradeWins_20 (by decide) (fun c3 => ?_) (fun c3 => ?_)
  · skip
    refine lv_iconst (v := iI (0)) hE.1 hE.2.1 dX8_tradeWins_34 (by decide) ?_
    exact kr _ _ _ _ _ _ _ _ (nar01 (by omega)) ⟨⟨0, by omega, rfl⟩, hI, fun i j h => rfl⟩ hP hS dX8_tradeWins_35
  · skip
    refine lv_iload hE.1 hE.2.1 dX8_tradeWins_23 (lv_at hl 0 rfl) ?_
    refine s_if_lt (a := z2) (tgt := 34) hE.1 hE.2.1 (by omega) dX8_tradeWins_25 (by decide) (fun c4 => ?_) (fun c4 => ?_)
    · skip
      refine lv_iconst (v := iI (0)) hE.1 hE.2.1 dX8_tradeWins_34 (by decide) ?_
      exact kr _ _ _ _ _ _ _ _ (nar01 (by omega)) ⟨⟨0, by omega, rfl⟩, hI, fun i j h => rfl⟩ hP hS dX8_tradeWins_35
    · skip
      refine lv_iload_n hE.1 hE.2.1 dX8_tradeWins_28 rfl (lv_at hl 1 rfl) ?_
      refine lv_iload hE.1 hE.2.1 dX8_tradeWins_29 (lv_at hl 0 rfl) ?_
      refine s_icmp_ne (a := z1) (b := z2) (tgt := 36) hE.1 hE.2.1 (by omega) (by omega) dX8_tradeWins_31 (by decide) (fun c5 => ?_) (fun c5 => ?_)
      · skip
        refine lv_aload_n hE.1 hE.2.1 dX8_tradeWins_36 rfl (lv_at hl 2 rfl) ?_
        refine x_get (x := .ref (ad 3)) hE hK hP 0 (by decide) (xG_8 rfl) rfl hin8 1 (by decide) mw_481 rfl dX8_tradeWins_37 ?_
        refine lv_iload_n hE.1 hE.2.1 dX8_tradeWins_40 rfl (lv_at hl 3 rfl) ?_
        refine lv_iload hE.1 hE.2.1 dX8_tradeWins_41 (lv_at hl 0 rfl) ?_
        refine x_vv (nn := 2) (As := [.int (iI (z_1)), .int (iI (z2))]) (rest := []) hE hK hN hP hS (s_X1_setKeeper_3 l D K ad (some (ad 132)) 133 (by decide) v ar al hI  (z_1) (by omega) (z2) (by omega)) (x_recv hK hP 3 (by decide) (xG_1 rfl) rfl) rfl mw_1094 mw_664 mw_665 mw_116 mw_666 (by decide +kernel) ⟨by decide, by decide⟩ hl.1 rfl (Nat.le_of_ble_eq_true rfl) ⟨Nat.zero_le _, Nat.zero_le _⟩ dX8_tradeWins_43 (fun v6 ar6 al6 H locs hq6 hP hS => ?_)
        obtain ⟨hI, hq6⟩ := hq6
        have hI : XI v6 := hI
        refine lv_aload_n hE.1 hE.2.1 dX8_tradeWins_46 rfl (lv_at hl 2 rfl) ?_
        refine x_get (x := .ref (ad 3)) hE hK hP 0 (by decide) (xG_8 rfl) rfl hin8 1 (by decide) mw_481 rfl dX8_tradeWins_47 ?_
        refine lv_iload_n hE.1 hE.2.1 dX8_tradeWins_50 rfl (lv_at hl 4 rfl) ?_
        refine lv_iload_n hE.1 hE.2.1 dX8_tradeWins_51 rfl (lv_at hl 1 rfl) ?_
        refine x_vv (nn := 2) (As := [.int (iI (z_2)), .int (iI (z1))]) (rest := []) hE hK hN hP hS (s_X1_setKeeper_3 l D K ad (some (ad 132)) 133 (by decide) v6 ar6 al6 hI  (z_2) (by omega) (z1) (by omega)) (x_recv hK hP 3 (by decide) (xG_1 rfl) rfl) rfl mw_1094 mw_664 mw_665 mw_116 mw_666 (by decide +kernel) ⟨by decide, by decide⟩ hl.1 rfl (Nat.le_of_ble_eq_true rfl) ⟨Nat.zero_le _, Nat.zero_le _⟩ dX8_tradeWins_52 (fun v7 ar7 al7 H locs hq7 hP hS => ?_)
        obtain ⟨hI, hq7⟩ := hq7
        have hI : XI v7 := hI
        refine lv_aload_n hE.1 hE.2.1 dX8_tradeWins_55 rfl (lv_at hl 2 rfl) ?_
        refine x_get (x := .ref (ad 56)) hE hK hP 0 (by decide) (xG_8 rfl) rfl hin8 7 (by decide) mw_487 rfl dX8_tradeWins_56 ?_
        refine lv_aload_n hE.1 hE.2.1 dX8_tradeWins_59 rfl (lv_at hl 2 rfl) ?_
        refine x_get (x := .ref (ad 23)) hE hK hP 0 (by decide) (xG_8 rfl) rfl hin8 3 (by decide) mw_483 rfl dX8_tradeWins_60 ?_
        refine lv_iconst (v := iI (1)) hE.1 hE.2.1 dX8_tradeWins_63 (by decide) ?_
        refine x_vv (nn := 2) (As := [.ref (ad 23), .int (iI (1))]) (rest := []) hE hK hN hP hS (s_X2_begin_56_23 l D K ad  v7 ar7 al7 hI  (1) (by omega)) (x_recv hK hP 56 (by decide) (xG_2 rfl) rfl) rfl mw_1031 mw_1032 mw_1033 mw_120 mw_1034 (by decide +kernel) ⟨by decide, by decide⟩ hl.1 rfl (Nat.le_of_ble_eq_true rfl) ⟨Nat.zero_le _, Nat.zero_le _⟩ dX8_tradeWins_64 (fun v8 ar8 al8 H locs hq8 hP hS => ?_)
        obtain ⟨hI, hq8⟩ := hq8
        have hI : XI v8 := hI
        refine lv_aload_n hE.1 hE.2.1 dX8_tradeWins_67 rfl (lv_at hl 2 rfl) ?_
        refine x_get (x := .ref (ad 56)) hE hK hP 0 (by decide) (xG_8 rfl) rfl hin8 7 (by decide) mw_487 rfl dX8_tradeWins_68 ?_
        refine x_vi (nn := 0) (As := []) (rest := []) hE hK hN hP hS (s_X2_isWon_56 l D K ad  v8 ar8 al8 hI  ) (x_recv hK hP 56 (by decide) (xG_2 rfl) rfl) rfl mw_1037 mw_1038 mw_1039 mw_120 mw_1040 (by decide +kernel) ⟨by decide, by decide⟩ hl.1 rfl (Nat.le_of_ble_eq_true rfl) ⟨Nat.zero_le _, Nat.zero_le _⟩ dX8_tradeWins_71 (fun r9 v9 ar9 al9 H locs hq9 hP hS => ?_)
        obtain ⟨⟨z9, hz9, rfl⟩, hI, hq9⟩ := hq9
        have hI : XI v9 := hI
        refine lv_istore (lv' := [(5, .int (iI (z9))), (4, .int (iI (z2))), (3, .int (iI (z1))), (0, .ref (ad 0)), (1, .int (iI (z_1))), (2, .int (iI (z_2)))]) hE.1 hE.2.1 dX8_tradeWins_74 hl (by decide) rfl (fun ls hl => ?_)
        refine lv_aload_n hE.1 hE.2.1 dX8_tradeWins_76 rfl (lv_at hl 3 rfl) ?_
        refine x_get (x := .ref (ad 3)) hE hK hP 0 (by decide) (xG_8 rfl) rfl hin8 1 (by decide) mw_481 rfl dX8_tradeWins_77 ?_
        refine lv_iload_n hE.1 hE.2.1 dX8_tradeWins_80 rfl (lv_at hl 4 rfl) ?_
        refine lv_iload_n hE.1 hE.2.1 dX8_tradeWins_81 rfl (lv_at hl 2 rfl) ?_
        refine x_vv (nn := 2) (As := [.int (iI (z_1)), .int (iI (z1))]) (rest := []) hE hK hN hP hS (s_X1_setKeeper_3 l D K ad (some (ad 132)) 133 (by decide) v9 ar9 al9 hI  (z_1) (by omega) (z1) (by omega)) (x_recv hK hP 3 (by decide) (xG_1 rfl) rfl) rfl mw_1094 mw_664 mw_665 mw_116 mw_666 (by decide +kernel) ⟨by decide, by decide⟩ hl.1 rfl (Nat.le_of_ble_eq_true rfl) ⟨Nat.zero_le _, Nat.zero_le _⟩ dX8_tradeWins_82 (fun v10 ar10 al10 H locs hq10 hP hS => ?_)
        obtain ⟨hI, hq10⟩ := hq10
        have hI : XI v10 := hI
        refine lv_aload_n hE.1 hE.2.1 dX8_tradeWins_85 rfl (lv_at hl 3 rfl) ?_
        refine x_get (x := .ref (ad 3)) hE hK hP 0 (by decide) (xG_8 rfl) rfl hin8 1 (by decide) mw_481 rfl dX8_tradeWins_86 ?_
        refine lv_iload_n hE.1 hE.2.1 dX8_tradeWins_89 rfl (lv_at hl 5 rfl) ?_
        refine lv_iload hE.1 hE.2.1 dX8_tradeWins_90 (lv_at hl 1 rfl) ?_
        refine x_vv (nn := 2) (As := [.int (iI (z_2)), .int (iI (z2))]) (rest := []) hE hK hN hP hS (s_X1_setKeeper_3 l D K ad (some (ad 132)) 133 (by decide) v10 ar10 al10 hI  (z_2) (by omega) (z2) (by omega)) (x_recv hK hP 3 (by decide) (xG_1 rfl) rfl) rfl mw_1094 mw_664 mw_665 mw_116 mw_666 (by decide +kernel) ⟨by decide, by decide⟩ hl.1 rfl (Nat.le_of_ble_eq_true rfl) ⟨Nat.zero_le _, Nat.zero_le _⟩ dX8_tradeWins_92 (fun v11 ar11 al11 H locs hq11 hP hS => ?_)
        obtain ⟨hI, hq11⟩ := hq11
        have hI : XI v11 := hI
        refine lv_iload hE.1 hE.2.1 dX8_tradeWins_95 (lv_at hl 0 rfl) ?_
        exact kr _ _ _ _ _ _ _ _ (nar01 (by omega)) ⟨⟨z9, by omega, rfl⟩, hI, fun i j h => ((hq11 i j (fun q => h (mem_sub (by decide) q))).trans ((hq10 i j (fun q => h (mem_sub (by decide) q))).trans ((hq9 i j (fun q => h (mem_sub (by decide) q))).trans ((hq8 i j (fun q => h (mem_sub (by decide) q))).trans ((hq7 i j (fun q => h (mem_sub (by decide) q))).trans (hq6 i j (fun q => h (mem_sub (by decide) q))))))))⟩ hP hS dX8_tradeWins_97
      · skip
        refine lv_iconst (v := iI (0)) hE.1 hE.2.1 dX8_tradeWins_34 (by decide) ?_
        exact kr _ _ _ _ _ _ _ _ (nar01 (by omega)) ⟨⟨0, by omega, rfl⟩, hI, fun i j h => rfl⟩ hP hS dX8_tradeWins_35

theorem dX8_trade_0 : decode cX8_trade 0 = .ok (.aload_n 0, 1) := by decide +kernel
theorem dX8_trade_1 : decode cX8_trade 1 = .ok (.invokevirtual 226, 3) := by decide +kernel
theorem dX8_trade_4 : decode cX8_trade 4 = .ok (.istore_n 1, 1) := by decide +kernel
theorem dX8_trade_5 : decode cX8_trade 5 = .ok (.iload_n 1, 1) := by decide +kernel
theorem dX8_trade_6 : decode cX8_trade 6 = .ok (.ifCond .eq 5, 3) := by decide +kernel
theorem dX8_trade_9 : decode cX8_trade 9 = .ok (.iload_n 1, 1) := by decide +kernel
theorem dX8_trade_10 : decode cX8_trade 10 = .ok (.ireturn, 1) := by decide +kernel
theorem dX8_trade_11 : decode cX8_trade 11 = .ok (.aload_n 0, 1) := by decide +kernel
theorem dX8_trade_12 : decode cX8_trade 12 = .ok (.getfield 57, 3) := by decide +kernel
theorem dX8_trade_15 : decode cX8_trade 15 = .ok (.aload_n 0, 1) := by decide +kernel
theorem dX8_trade_16 : decode cX8_trade 16 = .ok (.getfield 31, 3) := by decide +kernel
theorem dX8_trade_19 : decode cX8_trade 19 = .ok (.iconst 1, 1) := by decide +kernel
theorem dX8_trade_20 : decode cX8_trade 20 = .ok (.invokevirtual 229, 3) := by decide +kernel
theorem dX8_trade_23 : decode cX8_trade 23 = .ok (.aload_n 0, 1) := by decide +kernel
theorem dX8_trade_24 : decode cX8_trade 24 = .ok (.getfield 57, 3) := by decide +kernel
theorem dX8_trade_27 : decode cX8_trade 27 = .ok (.invokevirtual 233, 3) := by decide +kernel
theorem dX8_trade_30 : decode cX8_trade 30 = .ok (.ifCond .eq 5, 3) := by decide +kernel
theorem dX8_trade_33 : decode cX8_trade 33 = .ok (.iconst (-1), 1) := by decide +kernel
theorem dX8_trade_34 : decode cX8_trade 34 = .ok (.ireturn, 1) := by decide +kernel
theorem dX8_trade_35 : decode cX8_trade 35 = .ok (.iconst 0, 1) := by decide +kernel
theorem dX8_trade_36 : decode cX8_trade 36 = .ok (.istore_n 2, 1) := by decide +kernel
theorem dX8_trade_37 : decode cX8_trade 37 = .ok (.iload_n 2, 1) := by decide +kernel
theorem dX8_trade_38 : decode cX8_trade 38 = .ok (.aload_n 0, 1) := by decide +kernel
theorem dX8_trade_39 : decode cX8_trade 39 = .ok (.getfield 19, 3) := by decide +kernel
theorem dX8_trade_42 : decode cX8_trade 42 = .ok (.getfield 217, 3) := by decide +kernel
theorem dX8_trade_45 : decode cX8_trade 45 = .ok (.if_icmp .ge 46, 3) := by decide +kernel
theorem dX8_trade_48 : decode cX8_trade 48 = .ok (.iload_n 2, 1) := by decide +kernel
theorem dX8_trade_49 : decode cX8_trade 49 = .ok (.iconst 1, 1) := by decide +kernel
theorem dX8_trade_50 : decode cX8_trade 50 = .ok (.iadd, 1) := by decide +kernel
theorem dX8_trade_51 : decode cX8_trade 51 = .ok (.istore_n 3, 1) := by decide +kernel
theorem dX8_trade_52 : decode cX8_trade 52 = .ok (.iload_n 3, 1) := by decide +kernel
theorem dX8_trade_53 : decode cX8_trade 53 = .ok (.aload_n 0, 1) := by decide +kernel
theorem dX8_trade_54 : decode cX8_trade 54 = .ok (.getfield 19, 3) := by decide +kernel
theorem dX8_trade_57 : decode cX8_trade 57 = .ok (.getfield 217, 3) := by decide +kernel
theorem dX8_trade_60 : decode cX8_trade 60 = .ok (.if_icmp .ge 25, 3) := by decide +kernel
theorem dX8_trade_63 : decode cX8_trade 63 = .ok (.aload_n 0, 1) := by decide +kernel
theorem dX8_trade_64 : decode cX8_trade 64 = .ok (.iload_n 2, 1) := by decide +kernel
theorem dX8_trade_65 : decode cX8_trade 65 = .ok (.iload_n 3, 1) := by decide +kernel
theorem dX8_trade_66 : decode cX8_trade 66 = .ok (.invokevirtual 249, 3) := by decide +kernel
theorem dX8_trade_69 : decode cX8_trade 69 = .ok (.ifCond .eq 10, 3) := by decide +kernel
theorem dX8_trade_72 : decode cX8_trade 72 = .ok (.bipush 10, 2) := by decide +kernel
theorem dX8_trade_74 : decode cX8_trade 74 = .ok (.iload_n 2, 1) := by decide +kernel
theorem dX8_trade_75 : decode cX8_trade 75 = .ok (.imul, 1) := by decide +kernel
theorem dX8_trade_76 : decode cX8_trade 76 = .ok (.iload_n 3, 1) := by decide +kernel
theorem dX8_trade_77 : decode cX8_trade 77 = .ok (.iadd, 1) := by decide +kernel
theorem dX8_trade_78 : decode cX8_trade 78 = .ok (.ireturn, 1) := by decide +kernel
theorem dX8_trade_79 : decode cX8_trade 79 = .ok (.iinc 3 1, 3) := by decide +kernel
theorem dX8_trade_82 : decode cX8_trade 82 = .ok (.goto (-30), 3) := by decide +kernel
theorem dX8_trade_85 : decode cX8_trade 85 = .ok (.iinc 2 1, 3) := by decide +kernel
theorem dX8_trade_88 : decode cX8_trade 88 = .ok (.goto (-51), 3) := by decide +kernel
theorem dX8_trade_91 : decode cX8_trade 91 = .ok (.iconst (-1), 1) := by decide +kernel
theorem dX8_trade_92 : decode cX8_trade 92 = .ok (.ireturn, 1) := by decide +kernel
set_option maxHeartbeats 4000000 in
set_option maxRecDepth 100000 in
theorem s_X8_trade_0 (l : Launch) (D : va_G) (K : Nat → ClassId) (ad : Nat → Nat) (v ar : sI) (al : sL) (hI : XI v) : Met l yX8_trade (wM yX8_trade cX8_trade 4 (some .int)) (rmD 26) (va_Pc [.ref (ad 0)] (wPre D K ad (xG ad K (some (ad 132))) 133 v ar al)) (va_Qi (fun (r : Int32) (u : sT) => (∃ z : Int, (-2147483648 ≤ z ∧ z ≤ 2147483647) ∧ r = iI z) ∧ XI u.1 ∧ (∀ i j : Nat, (i, j) ∉ ([(56, 3), (56, 4), (57, 2), (57, 3), (57, 4), (57, 5), (57, 8), (57, 9)] : List (Nat × Nat)) → u.1 i j = v i j)) (wB D ad (xG ad K (some (ad 132))) 133) (inW ad 133)) 0 0 (inW ad 133) := by
  refine s_metI (by decide) (Nat.le_of_ble_eq_true rfl) ?_
  intro p e s m below meth c ls args Q hE hB hl kr
  have hE : CallFix p m c cX8_trade 4 s args tbG "TaleCourt" := hE
  obtain ⟨hP, hK, hN⟩ := hB
  have hS : va_S (inW ad 133) s.heap s.heap [] := va_S.rf
  have hl : lv_has ls 4 [(0, .ref (ad 0))] := hl
  refine lv_aload_n hE.1 hE.2.1 dX8_trade_0 rfl (lv_at hl 0 rfl) ?_
  refine x_vp (nn := 0) (As := []) (rest := []) hE (s_X8_gameBar_0 l D K ad (some (ad 132)) 133 (by decide) v ar al hI  ) wPre_blind (wPre_now hK hN hP) (x_recv hK hP 0 (by decide) (xG_8 rfl) rfl) rfl mw_1027 mw_1029 mw_30 mw_114 mw_1030 (by decide +kernel) ⟨by decide, by decide⟩ hl.1 rfl (Nat.le_of_ble_eq_true rfl) ⟨Nat.zero_le _, Nat.zero_le _⟩ dX8_trade_1 (fun r1 hr1 => ?_)
  obtain ⟨z1, hz1, rfl⟩ := hr1
  refine lv_istore_n (lv' := [(1, .int (iI (z1))), (0, .ref (ad 0))]) hE.1 hE.2.1 dX8_trade_4 rfl hl (by decide) rfl (fun ls hl => ?_)
  refine lv_iload_n hE.1 hE.2.1 dX8_trade_5 rfl (lv_at hl 0 rfl) ?_
  refine s_if_eq (a := z1) (tgt := 11) hE.1 hE.2.1 (by omega) dX8_trade_6 (by decide) (fun c2 => ?_) (fun c2 => ?_)
  · skip
    refine lv_aload_n hE.1 hE.2.1 dX8_trade_11 rfl (lv_at hl 1 rfl) ?_
    refine x_get (x := .ref (ad 56)) hE hK hP 0 (by decide) (xG_8 rfl) rfl hin8 7 (by decide) mw_487 rfl dX8_trade_12 ?_
    refine lv_aload_n hE.1 hE.2.1 dX8_trade_15 rfl (lv_at hl 1 rfl) ?_
    refine x_get (x := .ref (ad 23)) hE hK hP 0 (by decide) (xG_8 rfl) rfl hin8 3 (by decide) mw_483 rfl dX8_trade_16 ?_
    refine lv_iconst (v := iI (1)) hE.1 hE.2.1 dX8_trade_19 (by decide) ?_
    refine x_vv (nn := 2) (As := [.ref (ad 23), .int (iI (1))]) (rest := []) hE hK hN hP hS (s_X2_begin_56_23 l D K ad  v ar al hI  (1) (by omega)) (x_recv hK hP 56 (by decide) (xG_2 rfl) rfl) rfl mw_1031 mw_1032 mw_1033 mw_120 mw_1034 (by decide +kernel) ⟨by decide, by decide⟩ hl.1 rfl (Nat.le_of_ble_eq_true rfl) ⟨Nat.zero_le _, Nat.zero_le _⟩ dX8_trade_20 (fun v3 ar3 al3 H locs hq3 hP hS => ?_)
    obtain ⟨hI, hq3⟩ := hq3
    have hI : XI v3 := hI
    refine lv_aload_n hE.1 hE.2.1 dX8_trade_23 rfl (lv_at hl 1 rfl) ?_
    refine x_get (x := .ref (ad 56)) hE hK hP 0 (by decide) (xG_8 rfl) rfl hin8 7 (by decide) mw_487 rfl dX8_trade_24 ?_
    refine x_vi (nn := 0) (As := []) (rest := []) hE hK hN hP hS (s_X2_isWon_56 l D K ad  v3 ar3 al3 hI  ) (x_recv hK hP 56 (by decide) (xG_2 rfl) rfl) rfl mw_1037 mw_1038 mw_1039 mw_120 mw_1040 (by decide +kernel) ⟨by decide, by decide⟩ hl.1 rfl (Nat.le_of_ble_eq_true rfl) ⟨Nat.zero_le _, Nat.zero_le _⟩ dX8_trade_27 (fun r4 v4 ar4 al4 H locs hq4 hP hS => ?_)
    obtain ⟨⟨z4, hz4, rfl⟩, hI, hq4⟩ := hq4
    have hI : XI v4 := hI
    refine s_if_eq (a := z4) (tgt := 35) hE.1 hE.2.1 (by omega) dX8_trade_30 (by decide) (fun c5 => ?_) (fun c5 => ?_)
    · skip
      refine lv_iconst (v := iI (0)) hE.1 hE.2.1 dX8_trade_35 (by decide) ?_
      refine lv_istore_n (lv' := [(2, .int (iI (0))), (1, .int (iI (z1))), (0, .ref (ad 0))]) hE.1 hE.2.1 dX8_trade_36 rfl hl (by decide) rfl (fun ls hl => ?_)
      have loop6 : ∀ (k6 : Nat) (y6_2 : Int) (vl6 arl6 : sI) (all6 : sL) (H : Heap) (locs : List Loc) (ls : Array Slot), (9 - y6_2).toNat = k6 → (0 ≤ y6_2 ∧ y6_2 ≤ 9) → XI vl6 → (∀ i j : Nat, (i, j) ∉ ([(56, 3), (56, 4), (57, 2), (57, 3), (57, 4), (57, 5), (57, 8), (57, 9)] : List (Nat × Nat)) → vl6 i j = v4 i j) → va_P D xcl (wW ad (xG ad K (some (ad 132))) 133 vl6 arl6 all6) H → va_S (inW ad 133) s.heap H locs → lv_has ls 4 [(2, .int (iI (y6_2))), (1, .int (iI (z1))), (0, .ref (ad 0))] → W p l e (rmD 26) s m args below meth c H locs 0 0 Q (F0 m 37 ls []) := by
        intro k6
        induction k6 using Nat.strongRecOn with
        | _ k6 ih6 =>
          intro y6_2 vl6 arl6 all6 H locs ls hk6 hb_y6_2 hI hfr6 hP hS hl
          refine lv_iload_n hE.1 hE.2.1 dX8_trade_37 rfl (lv_at hl 0 rfl) ?_
          refine lv_aload_n hE.1 hE.2.1 dX8_trade_38 rfl (lv_at hl 2 rfl) ?_
          refine x_get (x := .ref (ad 3)) hE hK hP 0 (by decide) (xG_8 rfl) rfl hin8 1 (by decide) mw_481 rfl dX8_trade_39 ?_
          obtain ⟨z7, hz7, ez7⟩ := XI_get hI 3 2 0 9 (by decide)
          refine x_get (x := .int (vl6 3 2)) hE hK hP 3 (by decide) (xG_1 rfl) rfl hin1 2 (by decide) mw_189 rfl dX8_trade_42 ?_
          refine x_top (y := iI (z7)) ez7 ?_
          refine s_icmp_ge (a := y6_2) (b := z7) (tgt := 91) hE.1 hE.2.1 (by omega) (by omega) dX8_trade_45 (by decide) (fun c8 => ?_) (fun c8 => ?_)
          · skip
            refine lv_iconst (v := iI (-1)) hE.1 hE.2.1 dX8_trade_91 (by decide) ?_
            exact kr _ _ _ _ _ _ _ _ rfl ⟨⟨-1, by omega, rfl⟩, hI, fun i j h => ((hfr6 i j (fun q => h (mem_sub (by decide) q))).trans ((hq4 i j (fun q => h (mem_sub (by decide) q))).trans (hq3 i j (fun q => h (mem_sub (by decide) q)))))⟩ hP hS dX8_trade_92
          · skip
            refine lv_iload_n hE.1 hE.2.1 dX8_trade_48 rfl (lv_at hl 0 rfl) ?_
            refine lv_iconst (v := iI (1)) hE.1 hE.2.1 dX8_trade_49 (by decide) ?_
            refine lv_iadd hE.1 hE.2.1 dX8_trade_50 ?_
            refine x_top (y := iI (y6_2 + 1)) ((iI_add (y6_2) (1)).trans (congrArg iI (by omega))) ?_
            refine lv_istore_n (lv' := [(3, .int (iI (y6_2 + 1))), (2, .int (iI (y6_2))), (1, .int (iI (z1))), (0, .ref (ad 0))]) hE.1 hE.2.1 dX8_trade_51 rfl hl (by decide) rfl (fun ls hl => ?_)
            have loop9 : ∀ (k9 : Nat) (y9_3 : Int) (vl9 arl9 : sI) (all9 : sL) (H : Heap) (locs : List Loc) (ls : Array Slot), (10 - y9_3).toNat = k9 → (1 ≤ y9_3 ∧ y9_3 ≤ 10) → XI vl9 → (∀ i j : Nat, (i, j) ∉ ([(56, 3), (56, 4), (57, 2), (57, 3), (57, 4), (57, 5), (57, 8), (57, 9)] : List (Nat × Nat)) → vl9 i j = vl6 i j) → va_P D xcl (wW ad (xG ad K (some (ad 132))) 133 vl9 arl9 all9) H → va_S (inW ad 133) s.heap H locs → lv_has ls 4 [(3, .int (iI (y9_3))), (2, .int (iI (y6_2))), (1, .int (iI (z1))), (0, .ref (ad 0))] → W p l e (rmD 26) s m args below meth c H locs 0 0 Q (F0 m 52 ls []) := by
              intro k9
              induction k9 using Nat.strongRecOn with
              | _ k9 ih9 =>
                intro y9_3 vl9 arl9 all9 H locs ls hk9 hb_y9_3 hI hfr9 hP hS hl
                refine lv_iload_n hE.1 hE.2.1 dX8_trade_52 rfl (lv_at hl 0 rfl) ?_
                refine lv_aload_n hE.1 hE.2.1 dX8_trade_53 rfl (lv_at hl 3 rfl) ?_
                refine x_get (x := .ref (ad 3)) hE hK hP 0 (by decide) (xG_8 rfl) rfl hin8 1 (by decide) mw_481 rfl dX8_trade_54 ?_
                refine x_get (x := .int (vl9 3 2)) hE hK hP 3 (by decide) (xG_1 rfl) rfl hin1 2 (by decide) mw_189 rfl dX8_trade_57 ?_
                refine x_top (y := iI (z7)) ((hfr9 3 2 (by decide)).trans ez7) ?_
                refine s_icmp_ge (a := y9_3) (b := z7) (tgt := 85) hE.1 hE.2.1 (by omega) (by omega) dX8_trade_60 (by decide) (fun c10 => ?_) (fun c10 => ?_)
                · skip
                  refine lv_iinc (v := iI (y6_2 + 1)) (lv' := [(2, .int (iI (y6_2 + 1))), (3, .int (iI (y9_3))), (1, .int (iI (z1))), (0, .ref (ad 0))]) hE.1 hE.2.1 dX8_trade_85 hl (k := 1) rfl ((iI_add (y6_2) (1)).trans (congrArg iI (by omega))) (by decide) rfl (fun ls hl => ?_)
                  refine lv_goto (tgt := 37) hE.1 hE.2.1 dX8_trade_88 (by decide) ?_
                  exact ih6 _ (by omega) (y6_2 + 1) vl9 arl9 all9 _ _ _ rfl (by omega) hI (fun i j h => ((hfr9 i j (fun q => h (mem_sub (by decide) q))).trans (hfr6 i j h))) hP hS (lv_sub hl [0, 2, 3] rfl)
                · skip
                  refine lv_aload_n hE.1 hE.2.1 dX8_trade_63 rfl (lv_at hl 3 rfl) ?_
                  refine lv_iload_n hE.1 hE.2.1 dX8_trade_64 rfl (lv_at hl 1 rfl) ?_
                  refine lv_iload_n hE.1 hE.2.1 dX8_trade_65 rfl (lv_at hl 0 rfl) ?_
                  refine x_vi (nn := 2) (As := [.int (iI (y6_2)), .int (iI (y9_3))]) (rest := []) hE hK hN hP hS (s_X8_tradeWins_0 l D K ad  vl9 arl9 all9 hI  (y6_2) (by omega) (y9_3) (by omega)) (x_recv hK hP 0 (by decide) (xG_8 rfl) rfl) rfl mw_1099 mw_1101 mw_35 mw_114 mw_1102 (by decide +kernel) ⟨by decide, by decide⟩ hl.1 rfl (Nat.le_of_ble_eq_true rfl) ⟨Nat.zero_le _, Nat.zero_le _⟩ dX8_trade_66 (fun r11 v11 ar11 al11 H locs hq11 hP hS => ?_)
                  obtain ⟨⟨z11, hz11, rfl⟩, hI, hq11⟩ := hq11
                  have hI : XI v11 := hI
                  refine s_if_eq (a := z11) (tgt := 79) hE.1 hE.2.1 (by omega) dX8_trade_69 (by decide) (fun c12 => ?_) (fun c12 => ?_)
                  · skip
                    refine lv_iinc (v := iI (y9_3 + 1)) (lv' := [(3, .int (iI (y9_3 + 1))), (2, .int (iI (y6_2))), (1, .int (iI (z1))), (0, .ref (ad 0))]) hE.1 hE.2.1 dX8_trade_79 hl (k := 0) rfl ((iI_add (y9_3) (1)).trans (congrArg iI (by omega))) (by decide) rfl (fun ls hl => ?_)
                    refine lv_goto (tgt := 52) hE.1 hE.2.1 dX8_trade_82 (by decide) ?_
                    exact ih9 _ (by omega) (y9_3 + 1) v11 ar11 al11 _ _ _ rfl (by omega) hI (fun i j h => ((hq11 i j (fun q => h (mem_sub (by decide) q))).trans (hfr9 i j h))) hP hS (lv_sub hl [0, 1, 2, 3] rfl)
                  · skip
                    refine lv_bipush (v := iI (10)) hE.1 hE.2.1 dX8_trade_72 (by decide) ?_
                    refine lv_iload_n hE.1 hE.2.1 dX8_trade_74 rfl (lv_at hl 1 rfl) ?_
                    refine lv_imul hE.1 hE.2.1 dX8_trade_75 ?_
                    refine x_top (y := iI (10 * y6_2)) ((iI_mul (10) (y6_2)).trans (congrArg iI (by omega))) ?_
                    refine lv_iload_n hE.1 hE.2.1 dX8_trade_76 rfl (lv_at hl 0 rfl) ?_
                    refine lv_iadd hE.1 hE.2.1 dX8_trade_77 ?_
                    refine x_top (y := iI (10 * y6_2 + y9_3)) ((iI_add (10 * y6_2) (y9_3)).trans (congrArg iI (by omega))) ?_
                    exact kr _ _ _ _ _ _ _ _ rfl ⟨⟨10 * y6_2 + y9_3, by omega, rfl⟩, hI, fun i j h => ((hq11 i j (fun q => h (mem_sub (by decide) q))).trans ((hfr9 i j (fun q => h (mem_sub (by decide) q))).trans ((hfr6 i j (fun q => h (mem_sub (by decide) q))).trans ((hq4 i j (fun q => h (mem_sub (by decide) q))).trans (hq3 i j (fun q => h (mem_sub (by decide) q)))))))⟩ hP hS dX8_trade_78
            exact loop9 _ (y6_2 + 1) vl6 arl6 all6 _ _ _ rfl (by omega) hI (fun _ _ _ => rfl) hP hS hl
      exact loop6 _ (0) v4 ar4 al4 _ _ _ rfl (by omega) hI (fun _ _ _ => rfl) hP hS hl
    · skip
      refine lv_iconst (v := iI (-1)) hE.1 hE.2.1 dX8_trade_33 (by decide) ?_
      exact kr _ _ _ _ _ _ _ _ rfl ⟨⟨-1, by omega, rfl⟩, hI, fun i j h => ((hq4 i j (fun q => h (mem_sub (by decide) q))).trans (hq3 i j (fun q => h (mem_sub (by decide) q))))⟩ hP hS dX8_trade_34
  · skip
    refine lv_iload_n hE.1 hE.2.1 dX8_trade_9 rfl (lv_at hl 0 rfl) ?_
    exact kr _ _ _ _ _ _ _ _ rfl ⟨⟨z1, by omega, rfl⟩, hI, fun i j h => rfl⟩ hP hS dX8_trade_10

set_option maxHeartbeats 4000000 in
set_option maxRecDepth 100000 in
theorem s_X7_clear_57 (l : Launch) (D : va_G) (K : Nat → ClassId) (ad : Nat → Nat) (mm : Option Nat) (N : Nat) (hNN : 132 ≤ N) (v ar : sI) (al : sL) (hI : XI v) : Met l yX7_clear (wM yX7_clear cX7_clear 1 none) (rmD 1) (va_Pc [.ref (ad 57)] (wPre D K ad (xG ad K mm) N v ar al)) (va_Qv (fun u : sT => XI u.1 ∧ (∀ i j : Nat, (i, j) ∉ ([(57, 2), (57, 3), (57, 4), (57, 5), (57, 8), (57, 9)] : List (Nat × Nat)) → u.1 i j = v i j)) (wB D ad (xG ad K mm) N) (inW ad N)) 0 0 (inW ad N) := by
  refine s_metV (by decide) (Nat.le_of_ble_eq_true rfl) ?_
  intro p e s m below meth c ls args Q hE hB hl kr
  have hE : CallFix p m c cX7_clear 1 s args tbG "TaleCourt$Telling" := hE
  obtain ⟨hP, hK, hN⟩ := hB
  have hS : va_S (inW ad N) s.heap s.heap [] := va_S.rf
  have hl : lv_has ls 1 [(0, .ref (ad 57))] := hl
  refine lv_aload_n hE.1 hE.2.1 dX7_clear_0 rfl (lv_at hl 0 rfl) ?_
  refine lv_iconst (v := iI (0)) hE.1 hE.2.1 dX7_clear_1 (by decide) ?_
  refine x_put (x := iI (0)) hE hK hN hP hS 57 (Nat.lt_of_lt_of_le (by decide) hNN) (xG_7 rfl) rfl hin7 tyX7 tyX7_ok nmX7 2 (by decide) mw_301 rfl rfl rfl (Nat.le_of_ble_eq_true rfl) (xG_7 rfl) dX7_clear_2 (fun v1 H locs hv1 hP hS => ?_)
  have hI := XI_putB (z := 0) hI hv1 0 18 (by omega) (by decide) (by omega)
  refine lv_aload_n hE.1 hE.2.1 dX7_clear_5 rfl (lv_at hl 0 rfl) ?_
  refine lv_iconst (v := iI (0)) hE.1 hE.2.1 dX7_clear_6 (by decide) ?_
  refine x_put (x := iI (0)) hE hK hN hP hS 57 (Nat.lt_of_lt_of_le (by decide) hNN) (xG_7 rfl) rfl hin7 tyX7 tyX7_ok nmX7 3 (by decide) mw_305 rfl rfl rfl (Nat.le_of_ble_eq_true rfl) (xG_7 rfl) dX7_clear_7 (fun v2 H locs hv2 hP hS => ?_)
  have hI := XI_putN hI hv2 (by decide)
  refine lv_aload_n hE.1 hE.2.1 dX7_clear_10 rfl (lv_at hl 0 rfl) ?_
  refine lv_iconst (v := iI (-1)) hE.1 hE.2.1 dX7_clear_11 (by decide) ?_
  refine x_put (x := iI (-1)) hE hK hN hP hS 57 (Nat.lt_of_lt_of_le (by decide) hNN) (xG_7 rfl) rfl hin7 tyX7 tyX7_ok nmX7 4 (by decide) mw_309 rfl rfl rfl (Nat.le_of_ble_eq_true rfl) (xG_7 rfl) dX7_clear_12 (fun v3 H locs hv3 hP hS => ?_)
  have hI := XI_putN hI hv3 (by decide)
  refine lv_aload_n hE.1 hE.2.1 dX7_clear_15 rfl (lv_at hl 0 rfl) ?_
  refine lv_iconst (v := iI (0)) hE.1 hE.2.1 dX7_clear_16 (by decide) ?_
  refine x_put (x := iI (0)) hE hK hN hP hS 57 (Nat.lt_of_lt_of_le (by decide) hNN) (xG_7 rfl) rfl hin7 tyX7 tyX7_ok nmX7 5 (by decide) mw_312 rfl rfl rfl (Nat.le_of_ble_eq_true rfl) (xG_7 rfl) dX7_clear_17 (fun v4 H locs hv4 hP hS => ?_)
  have hI := XI_putN hI hv4 (by decide)
  refine lv_aload_n hE.1 hE.2.1 dX7_clear_20 rfl (lv_at hl 0 rfl) ?_
  refine lv_iconst (v := iI (0)) hE.1 hE.2.1 dX7_clear_21 (by decide) ?_
  refine x_put (x := iI (0)) hE hK hN hP hS 57 (Nat.lt_of_lt_of_le (by decide) hNN) (xG_7 rfl) rfl hin7 tyX7 tyX7_ok nmX7 8 (by decide) mw_317 rfl rfl rfl (Nat.le_of_ble_eq_true rfl) (xG_7 rfl) dX7_clear_22 (fun v5 H locs hv5 hP hS => ?_)
  have hI := XI_putN hI hv5 (by decide)
  refine lv_aload_n hE.1 hE.2.1 dX7_clear_25 rfl (lv_at hl 0 rfl) ?_
  refine lv_iconst (v := iI (0)) hE.1 hE.2.1 dX7_clear_26 (by decide) ?_
  refine x_put (x := iI (0)) hE hK hN hP hS 57 (Nat.lt_of_lt_of_le (by decide) hNN) (xG_7 rfl) rfl hin7 tyX7 tyX7_ok nmX7 9 (by decide) mw_318 rfl rfl rfl (Nat.le_of_ble_eq_true rfl) (xG_7 rfl) dX7_clear_27 (fun v6 H locs hv6 hP hS => ?_)
  have hI := XI_putN hI hv6 (by decide)
  refine lv_aload_n hE.1 hE.2.1 dX7_clear_30 rfl (lv_at hl 0 rfl) ?_
  refine x_get (x := .ref (ad 60)) hE hK hP 57 (Nat.lt_of_lt_of_le (by decide) hNN) (xG_7 rfl) rfl hin7 7 (by decide) mw_316 rfl dX7_clear_31 ?_
  refine lv_iconst (v := iI (0)) hE.1 hE.2.1 dX7_clear_34 (by decide) ?_
  refine x_sv (nn := 2) (As := [.ref (ad 60), .int (iI (0))]) (rest := []) hE hK hN hP hS (k_fillI l D K ad v6 ar al 60 3 (Nat.lt_of_lt_of_le (by decide) hNN) (fun _ => xG_10 rfl) (Nat.le_of_ble_eq_true rfl) (iI (0))) rfl mw_685 mw_536 mw_124 mw_537 (by decide +kernel) ⟨by decide, by decide⟩ hl.1 rfl (Nat.le_of_ble_eq_true rfl) ⟨Nat.zero_le _, Nat.zero_le _⟩ dX7_clear_35 (fun v7 ar7 al7 H locs hq7 hP hS => ?_)
  rw [show v7 = v6 from hq7.1] at hP
  exact kr _ _ _ _ _ _ _ ⟨hI, fun i j h => ((up_oth hv6 (fun q => h (by rcases q with ⟨rfl, rfl⟩; decide))).trans ((up_oth hv5 (fun q => h (by rcases q with ⟨rfl, rfl⟩; decide))).trans ((up_oth hv4 (fun q => h (by rcases q with ⟨rfl, rfl⟩; decide))).trans ((up_oth hv3 (fun q => h (by rcases q with ⟨rfl, rfl⟩; decide))).trans ((up_oth hv2 (fun q => h (by rcases q with ⟨rfl, rfl⟩; decide))).trans (up_oth hv1 (fun q => h (by rcases q with ⟨rfl, rfl⟩; decide))))))))⟩ hP hS dX7_clear_38

theorem dX2_firstBlunder_0 : decode cX2_firstBlunder 0 = .ok (.aload_n 0, 1) := by decide +kernel
theorem dX2_firstBlunder_1 : decode cX2_firstBlunder 1 = .ok (.aload_n 1, 1) := by decide +kernel
theorem dX2_firstBlunder_2 : decode cX2_firstBlunder 2 = .ok (.iconst 1, 1) := by decide +kernel
theorem dX2_firstBlunder_3 : decode cX2_firstBlunder 3 = .ok (.invokevirtual 60, 3) := by decide +kernel
theorem dX2_firstBlunder_6 : decode cX2_firstBlunder 6 = .ok (.aload_n 0, 1) := by decide +kernel
theorem dX2_firstBlunder_7 : decode cX2_firstBlunder 7 = .ok (.getfield 24, 3) := by decide +kernel
theorem dX2_firstBlunder_10 : decode cX2_firstBlunder 10 = .ok (.invokevirtual 64, 3) := by decide +kernel
theorem dX2_firstBlunder_13 : decode cX2_firstBlunder 13 = .ok (.aload_n 0, 1) := by decide +kernel
theorem dX2_firstBlunder_14 : decode cX2_firstBlunder 14 = .ok (.invokevirtual 53, 3) := by decide +kernel
theorem dX2_firstBlunder_17 : decode cX2_firstBlunder 17 = .ok (.istore_n 2, 1) := by decide +kernel
theorem dX2_firstBlunder_18 : decode cX2_firstBlunder 18 = .ok (.iconst 0, 1) := by decide +kernel
theorem dX2_firstBlunder_19 : decode cX2_firstBlunder 19 = .ok (.istore_n 3, 1) := by decide +kernel
theorem dX2_firstBlunder_20 : decode cX2_firstBlunder 20 = .ok (.iload_n 3, 1) := by decide +kernel
theorem dX2_firstBlunder_21 : decode cX2_firstBlunder 21 = .ok (.aload_n 1, 1) := by decide +kernel
theorem dX2_firstBlunder_22 : decode cX2_firstBlunder 22 = .ok (.getfield 67, 3) := by decide +kernel
theorem dX2_firstBlunder_25 : decode cX2_firstBlunder 25 = .ok (.if_icmp .ge 45, 3) := by decide +kernel
theorem dX2_firstBlunder_28 : decode cX2_firstBlunder 28 = .ok (.iload_n 3, 1) := by decide +kernel
theorem dX2_firstBlunder_29 : decode cX2_firstBlunder 29 = .ok (.bipush 18, 2) := by decide +kernel
theorem dX2_firstBlunder_31 : decode cX2_firstBlunder 31 = .ok (.if_icmp .ge 39, 3) := by decide +kernel
theorem dX2_firstBlunder_34 : decode cX2_firstBlunder 34 = .ok (.aload_n 0, 1) := by decide +kernel
theorem dX2_firstBlunder_35 : decode cX2_firstBlunder 35 = .ok (.aload_n 1, 1) := by decide +kernel
theorem dX2_firstBlunder_36 : decode cX2_firstBlunder 36 = .ok (.getfield 70, 3) := by decide +kernel
theorem dX2_firstBlunder_39 : decode cX2_firstBlunder 39 = .ok (.iload_n 3, 1) := by decide +kernel
theorem dX2_firstBlunder_40 : decode cX2_firstBlunder 40 = .ok (.iaload, 1) := by decide +kernel
theorem dX2_firstBlunder_41 : decode cX2_firstBlunder 41 = .ok (.invokevirtual 49, 3) := by decide +kernel
theorem dX2_firstBlunder_44 : decode cX2_firstBlunder 44 = .ok (.aload_n 0, 1) := by decide +kernel
theorem dX2_firstBlunder_45 : decode cX2_firstBlunder 45 = .ok (.invokevirtual 53, 3) := by decide +kernel
theorem dX2_firstBlunder_48 : decode cX2_firstBlunder 48 = .ok (.istore 4, 2) := by decide +kernel
theorem dX2_firstBlunder_50 : decode cX2_firstBlunder 50 = .ok (.iload_n 2, 1) := by decide +kernel
theorem dX2_firstBlunder_51 : decode cX2_firstBlunder 51 = .ok (.ifCond .eq 10, 3) := by decide +kernel
theorem dX2_firstBlunder_54 : decode cX2_firstBlunder 54 = .ok (.iload 4, 2) := by decide +kernel
theorem dX2_firstBlunder_56 : decode cX2_firstBlunder 56 = .ok (.ifCond .eq 5, 3) := by decide +kernel
theorem dX2_firstBlunder_59 : decode cX2_firstBlunder 59 = .ok (.iload_n 3, 1) := by decide +kernel
theorem dX2_firstBlunder_60 : decode cX2_firstBlunder 60 = .ok (.ireturn, 1) := by decide +kernel
theorem dX2_firstBlunder_61 : decode cX2_firstBlunder 61 = .ok (.iload 4, 2) := by decide +kernel
theorem dX2_firstBlunder_63 : decode cX2_firstBlunder 63 = .ok (.istore_n 2, 1) := by decide +kernel
theorem dX2_firstBlunder_64 : decode cX2_firstBlunder 64 = .ok (.iinc 3 1, 3) := by decide +kernel
theorem dX2_firstBlunder_67 : decode cX2_firstBlunder 67 = .ok (.goto (-47), 3) := by decide +kernel
theorem dX2_firstBlunder_70 : decode cX2_firstBlunder 70 = .ok (.iconst (-1), 1) := by decide +kernel
theorem dX2_firstBlunder_71 : decode cX2_firstBlunder 71 = .ok (.ireturn, 1) := by decide +kernel
set_option maxHeartbeats 4000000 in
set_option maxRecDepth 100000 in
theorem s_X2_firstBlunder_56_23 (l : Launch) (D : va_G) (K : Nat → ClassId) (ad : Nat → Nat) (v ar : sI) (al : sL) (hI : XI v) : Met l yX2_firstBlunder (wM yX2_firstBlunder cX2_firstBlunder 5 (some .int)) (rmD 25) (va_Pc [.ref (ad 56), .ref (ad 23)] (wPre D K ad (xG ad K (some (ad 132))) 133 v ar al)) (va_Qi (fun (r : Int32) (u : sT) => (∃ z : Int, (-2147483648 ≤ z ∧ z ≤ 2147483647) ∧ r = iI z) ∧ XI u.1 ∧ (∀ i j : Nat, (i, j) ∉ ([(56, 3), (56, 4), (57, 2), (57, 3), (57, 4), (57, 5), (57, 8), (57, 9)] : List (Nat × Nat)) → u.1 i j = v i j)) (wB D ad (xG ad K (some (ad 132))) 133) (inW ad 133)) 0 0 (inW ad 133) := by
  refine s_metI (by decide) (Nat.le_of_ble_eq_true rfl) ?_
  intro p e s m below meth c ls args Q hE hB hl kr
  have hE : CallFix p m c cX2_firstBlunder 5 s args tbG "TaleCourt$Game" := hE
  obtain ⟨hP, hK, hN⟩ := hB
  have hS : va_S (inW ad 133) s.heap s.heap [] := va_S.rf
  have hl : lv_has ls 5 [(0, .ref (ad 56)), (1, .ref (ad 23))] := hl
  refine lv_aload_n hE.1 hE.2.1 dX2_firstBlunder_0 rfl (lv_at hl 0 rfl) ?_
  refine lv_aload_n hE.1 hE.2.1 dX2_firstBlunder_1 rfl (lv_at hl 1 rfl) ?_
  refine lv_iconst (v := iI (1)) hE.1 hE.2.1 dX2_firstBlunder_2 (by decide) ?_
  refine x_vv (nn := 2) (As := [.ref (ad 23), .int (iI (1))]) (rest := []) hE hK hN hP hS (s_X2_begin_56_23 l D K ad  v ar al hI  (1) (by omega)) (x_recv hK hP 56 (by decide) (xG_2 rfl) rfl) rfl mw_1116 mw_1032 mw_1033 mw_120 mw_1034 (by decide +kernel) ⟨by decide, by decide⟩ hl.1 rfl (Nat.le_of_ble_eq_true rfl) ⟨Nat.zero_le _, Nat.zero_le _⟩ dX2_firstBlunder_3 (fun v1 ar1 al1 H locs hq1 hP hS => ?_)
  obtain ⟨hI, hq1⟩ := hq1
  have hI : XI v1 := hI
  refine lv_aload_n hE.1 hE.2.1 dX2_firstBlunder_6 rfl (lv_at hl 0 rfl) ?_
  refine x_get (x := .ref (ad 57)) hE hK hP 56 (by decide) (xG_2 rfl) rfl hin2 1 (by decide) mw_421 rfl dX2_firstBlunder_7 ?_
  refine x_vv (nn := 0) (As := []) (rest := []) hE hK hN hP hS (s_X7_clear_57 l D K ad (some (ad 132)) 133 (by decide) v1 ar1 al1 hI  ) (x_recv hK hP 57 (by decide) (xG_7 rfl) rfl) rfl mw_1117 mw_682 mw_683 mw_117 mw_684 (by decide +kernel) ⟨by decide, by decide⟩ hl.1 rfl (Nat.le_of_ble_eq_true rfl) ⟨Nat.zero_le _, Nat.zero_le _⟩ dX2_firstBlunder_10 (fun v2 ar2 al2 H locs hq2 hP hS => ?_)
  obtain ⟨hI, hq2⟩ := hq2
  have hI : XI v2 := hI
  refine lv_aload_n hE.1 hE.2.1 dX2_firstBlunder_13 rfl (lv_at hl 0 rfl) ?_
  refine x_vi (nn := 0) (As := []) (rest := []) hE hK hN hP hS (s_X2_isWon_56 l D K ad  v2 ar2 al2 hI  ) (x_recv hK hP 56 (by decide) (xG_2 rfl) rfl) rfl mw_1072 mw_1038 mw_1039 mw_120 mw_1040 (by decide +kernel) ⟨by decide, by decide⟩ hl.1 rfl (Nat.le_of_ble_eq_true rfl) ⟨Nat.zero_le _, Nat.zero_le _⟩ dX2_firstBlunder_14 (fun r3 v3 ar3 al3 H locs hq3 hP hS => ?_)
  obtain ⟨⟨z3, hz3, rfl⟩, hI, hq3⟩ := hq3
  have hI : XI v3 := hI
  refine lv_istore_n (lv' := [(2, .int (iI (z3))), (0, .ref (ad 56)), (1, .ref (ad 23))]) hE.1 hE.2.1 dX2_firstBlunder_17 rfl hl (by decide) rfl (fun ls hl => ?_)
  refine lv_iconst (v := iI (0)) hE.1 hE.2.1 dX2_firstBlunder_18 (by decide) ?_
  refine lv_istore_n (lv' := [(3, .int (iI (0))), (2, .int (iI (z3))), (0, .ref (ad 56)), (1, .ref (ad 23))]) hE.1 hE.2.1 dX2_firstBlunder_19 rfl hl (by decide) rfl (fun ls hl => ?_)
  have loop4 : ∀ (k4 : Nat) (y4_3 : Int) (y4_2 : Int) (vl4 arl4 : sI) (all4 : sL) (H : Heap) (locs : List Loc) (ls : Array Slot), (18 - y4_3).toNat = k4 → (0 ≤ y4_3 ∧ y4_3 ≤ 18) → (-2147483648 ≤ y4_2 ∧ y4_2 ≤ 2147483647) → XI vl4 → (∀ i j : Nat, (i, j) ∉ ([(57, 2), (57, 3), (57, 4), (57, 5), (57, 8), (57, 9)] : List (Nat × Nat)) → vl4 i j = v3 i j) → va_P D xcl (wW ad (xG ad K (some (ad 132))) 133 vl4 arl4 all4) H → va_S (inW ad 133) s.heap H locs → lv_has ls 5 [(3, .int (iI (y4_3))), (2, .int (iI (y4_2))), (0, .ref (ad 56)), (1, .ref (ad 23))] → W p l e (rmD 25) s m args below meth c H locs 0 0 Q (F0 m 20 ls []) := by
    intro k4
    induction k4 using Nat.strongRecOn with
    | _ k4 ih4 =>
      intro y4_3 y4_2 vl4 arl4 all4 H locs ls hk4 hb_y4_3 hb_y4_2 hI hfr4 hP hS hl
      refine lv_iload_n hE.1 hE.2.1 dX2_firstBlunder_20 rfl (lv_at hl 0 rfl) ?_
      refine lv_aload_n hE.1 hE.2.1 dX2_firstBlunder_21 rfl (lv_at hl 3 rfl) ?_
      obtain ⟨z5, hz5, ez5⟩ := XI_get hI 23 2 0 18 (by decide)
      refine x_get (x := .int (vl4 23 2)) hE hK hP 23 (by decide) (xG_7 rfl) rfl hin7 2 (by decide) mw_303 rfl dX2_firstBlunder_22 ?_
      refine x_top (y := iI (z5)) ez5 ?_
      refine s_icmp_ge (a := y4_3) (b := z5) (tgt := 70) hE.1 hE.2.1 (by omega) (by omega) dX2_firstBlunder_25 (by decide) (fun c6 => ?_) (fun c6 => ?_)
      · skip
        refine lv_iconst (v := iI (-1)) hE.1 hE.2.1 dX2_firstBlunder_70 (by decide) ?_
        exact kr _ _ _ _ _ _ _ _ rfl ⟨⟨-1, by omega, rfl⟩, hI, fun i j h => ((hfr4 i j (fun q => h (mem_sub (by decide) q))).trans ((hq3 i j (fun q => h (mem_sub (by decide) q))).trans ((hq2 i j (fun q => h (mem_sub (by decide) q))).trans (hq1 i j (fun q => h (mem_sub (by decide) q))))))⟩ hP hS dX2_firstBlunder_71
      · skip
        refine lv_iload_n hE.1 hE.2.1 dX2_firstBlunder_28 rfl (lv_at hl 0 rfl) ?_
        refine lv_bipush (v := iI (18)) hE.1 hE.2.1 dX2_firstBlunder_29 (by decide) ?_
        refine s_icmp_ge (a := y4_3) (b := 18) (tgt := 70) hE.1 hE.2.1 (by omega) (by omega) dX2_firstBlunder_31 (by decide) (fun c7 => False.elim (by omega)) (fun _ => ?_)
        refine lv_aload_n hE.1 hE.2.1 dX2_firstBlunder_34 rfl (lv_at hl 2 rfl) ?_
        refine lv_aload_n hE.1 hE.2.1 dX2_firstBlunder_35 rfl (lv_at hl 3 rfl) ?_
        refine x_get (x := .ref (ad 24)) hE hK hP 23 (by decide) (xG_7 rfl) rfl hin7 0 (by decide) mw_297 rfl dX2_firstBlunder_36 ?_
        refine lv_iload_n hE.1 hE.2.1 dX2_firstBlunder_39 rfl (lv_at hl 0 rfl) ?_
        refine x_iald (j := iI (y4_3)) hE hK hP 24 (by decide) (xG_10 rfl) (iI_in (n := 18) (by omega)) dX2_firstBlunder_40 ?_
        obtain ⟨z9, hz9, ez9⟩ := iI_of (arl4 24 (iI (y4_3)).toNatClampNeg)
        refine x_top ez9 ?_
        refine x_vv (nn := 1) (As := [.int (iI (z9))]) (rest := []) hE hK hN hP hS (s_X2_play_56 l D K ad (some (ad 132)) 133 (by decide) vl4 arl4 all4 hI  (z9) (by omega)) (x_recv hK hP 56 (by decide) (xG_2 rfl) rfl) rfl mw_1056 mw_1058 mw_34 mw_120 mw_1059 (by decide +kernel) ⟨by decide, by decide⟩ hl.1 rfl (Nat.le_of_ble_eq_true rfl) ⟨Nat.zero_le _, Nat.zero_le _⟩ dX2_firstBlunder_41 (fun v10 ar10 al10 H locs hq10 hP hS => ?_)
        obtain ⟨hI, hq10⟩ := hq10
        have hI : XI v10 := hI
        refine lv_aload_n hE.1 hE.2.1 dX2_firstBlunder_44 rfl (lv_at hl 2 rfl) ?_
        refine x_vi (nn := 0) (As := []) (rest := []) hE hK hN hP hS (s_X2_isWon_56 l D K ad  v10 ar10 al10 hI  ) (x_recv hK hP 56 (by decide) (xG_2 rfl) rfl) rfl mw_1072 mw_1038 mw_1039 mw_120 mw_1040 (by decide +kernel) ⟨by decide, by decide⟩ hl.1 rfl (Nat.le_of_ble_eq_true rfl) ⟨Nat.zero_le _, Nat.zero_le _⟩ dX2_firstBlunder_45 (fun r11 v11 ar11 al11 H locs hq11 hP hS => ?_)
        obtain ⟨⟨z11, hz11, rfl⟩, hI, hq11⟩ := hq11
        have hI : XI v11 := hI
        refine lv_istore (lv' := [(4, .int (iI (z11))), (3, .int (iI (y4_3))), (2, .int (iI (y4_2))), (0, .ref (ad 56)), (1, .ref (ad 23))]) hE.1 hE.2.1 dX2_firstBlunder_48 hl (by decide) rfl (fun ls hl => ?_)
        refine lv_iload_n hE.1 hE.2.1 dX2_firstBlunder_50 rfl (lv_at hl 2 rfl) ?_
        refine s_if_eq (a := y4_2) (tgt := 61) hE.1 hE.2.1 (by omega) dX2_firstBlunder_51 (by decide) (fun c12 => ?_) (fun c12 => ?_)
        · skip
          refine lv_iload hE.1 hE.2.1 dX2_firstBlunder_61 (lv_at hl 0 rfl) ?_
          refine lv_istore_n (lv' := [(2, .int (iI (z11))), (4, .int (iI (z11))), (3, .int (iI (y4_3))), (0, .ref (ad 56)), (1, .ref (ad 23))]) hE.1 hE.2.1 dX2_firstBlunder_63 rfl hl (by decide) rfl (fun ls hl => ?_)
          refine lv_iinc (v := iI (y4_3 + 1)) (lv' := [(3, .int (iI (y4_3 + 1))), (2, .int (iI (z11))), (4, .int (iI (z11))), (0, .ref (ad 56)), (1, .ref (ad 23))]) hE.1 hE.2.1 dX2_firstBlunder_64 hl (k := 2) rfl ((iI_add (y4_3) (1)).trans (congrArg iI (by omega))) (by decide) rfl (fun ls hl => ?_)
          refine lv_goto (tgt := 20) hE.1 hE.2.1 dX2_firstBlunder_67 (by decide) ?_
          exact ih4 _ (by omega) (y4_3 + 1) (z11) v11 ar11 al11 _ _ _ rfl (by omega) (by omega) hI (fun i j h => (((hq11 i j (fun q => h (mem_sub (by decide) q))).trans (hq10 i j (fun q => h (mem_sub (by decide) q)))).trans (hfr4 i j h))) hP hS (lv_sub hl [0, 1, 3, 4] rfl)
        · skip
          refine lv_iload hE.1 hE.2.1 dX2_firstBlunder_54 (lv_at hl 0 rfl) ?_
          refine s_if_eq (a := z11) (tgt := 61) hE.1 hE.2.1 (by omega) dX2_firstBlunder_56 (by decide) (fun c13 => ?_) (fun c13 => ?_)
          · skip
            refine lv_iload hE.1 hE.2.1 dX2_firstBlunder_61 (lv_at hl 0 rfl) ?_
            refine lv_istore_n (lv' := [(2, .int (iI (z11))), (4, .int (iI (z11))), (3, .int (iI (y4_3))), (0, .ref (ad 56)), (1, .ref (ad 23))]) hE.1 hE.2.1 dX2_firstBlunder_63 rfl hl (by decide) rfl (fun ls hl => ?_)
            refine lv_iinc (v := iI (y4_3 + 1)) (lv' := [(3, .int (iI (y4_3 + 1))), (2, .int (iI (z11))), (4, .int (iI (z11))), (0, .ref (ad 56)), (1, .ref (ad 23))]) hE.1 hE.2.1 dX2_firstBlunder_64 hl (k := 2) rfl ((iI_add (y4_3) (1)).trans (congrArg iI (by omega))) (by decide) rfl (fun ls hl => ?_)
            refine lv_goto (tgt := 20) hE.1 hE.2.1 dX2_firstBlunder_67 (by decide) ?_
            exact ih4 _ (by omega) (y4_3 + 1) (z11) v11 ar11 al11 _ _ _ rfl (by omega) (by omega) hI (fun i j h => (((hq11 i j (fun q => h (mem_sub (by decide) q))).trans (hq10 i j (fun q => h (mem_sub (by decide) q)))).trans (hfr4 i j h))) hP hS (lv_sub hl [0, 1, 3, 4] rfl)
          · skip
            refine lv_iload_n hE.1 hE.2.1 dX2_firstBlunder_59 rfl (lv_at hl 1 rfl) ?_
            exact kr _ _ _ _ _ _ _ _ rfl ⟨⟨y4_3, by omega, rfl⟩, hI, fun i j h => ((hq11 i j (fun q => h (mem_sub (by decide) q))).trans ((hq10 i j (fun q => h (mem_sub (by decide) q))).trans ((hfr4 i j (fun q => h (mem_sub (by decide) q))).trans ((hq3 i j (fun q => h (mem_sub (by decide) q))).trans ((hq2 i j (fun q => h (mem_sub (by decide) q))).trans (hq1 i j (fun q => h (mem_sub (by decide) q))))))))⟩ hP hS dX2_firstBlunder_60
  exact loop4 _ (0) (z3) v3 ar3 al3 _ _ _ rfl (by omega) (by omega) hI (fun _ _ _ => rfl) hP hS hl

theorem dX8_blunder_0 : decode cX8_blunder 0 = .ok (.aload_n 0, 1) := by decide +kernel
theorem dX8_blunder_1 : decode cX8_blunder 1 = .ok (.invokevirtual 226, 3) := by decide +kernel
theorem dX8_blunder_4 : decode cX8_blunder 4 = .ok (.istore_n 1, 1) := by decide +kernel
theorem dX8_blunder_5 : decode cX8_blunder 5 = .ok (.iload_n 1, 1) := by decide +kernel
theorem dX8_blunder_6 : decode cX8_blunder 6 = .ok (.ifCond .eq 5, 3) := by decide +kernel
theorem dX8_blunder_9 : decode cX8_blunder 9 = .ok (.iload_n 1, 1) := by decide +kernel
theorem dX8_blunder_10 : decode cX8_blunder 10 = .ok (.ireturn, 1) := by decide +kernel
theorem dX8_blunder_11 : decode cX8_blunder 11 = .ok (.aload_n 0, 1) := by decide +kernel
theorem dX8_blunder_12 : decode cX8_blunder 12 = .ok (.getfield 57, 3) := by decide +kernel
theorem dX8_blunder_15 : decode cX8_blunder 15 = .ok (.aload_n 0, 1) := by decide +kernel
theorem dX8_blunder_16 : decode cX8_blunder 16 = .ok (.getfield 31, 3) := by decide +kernel
theorem dX8_blunder_19 : decode cX8_blunder 19 = .ok (.invokevirtual 256, 3) := by decide +kernel
theorem dX8_blunder_22 : decode cX8_blunder 22 = .ok (.ireturn, 1) := by decide +kernel
set_option maxHeartbeats 4000000 in
set_option maxRecDepth 100000 in
theorem s_X8_blunder_0 (l : Launch) (D : va_G) (K : Nat → ClassId) (ad : Nat → Nat) (v ar : sI) (al : sL) (hI : XI v) : Met l yX8_blunder (wM yX8_blunder cX8_blunder 2 (some .int)) (rmD 26) (va_Pc [.ref (ad 0)] (wPre D K ad (xG ad K (some (ad 132))) 133 v ar al)) (va_Qi (fun (r : Int32) (u : sT) => (∃ z : Int, (-2147483648 ≤ z ∧ z ≤ 2147483647) ∧ r = iI z) ∧ XI u.1 ∧ (∀ i j : Nat, (i, j) ∉ ([(56, 3), (56, 4), (57, 2), (57, 3), (57, 4), (57, 5), (57, 8), (57, 9)] : List (Nat × Nat)) → u.1 i j = v i j)) (wB D ad (xG ad K (some (ad 132))) 133) (inW ad 133)) 0 0 (inW ad 133) := by
  refine s_metI (by decide) (Nat.le_of_ble_eq_true rfl) ?_
  intro p e s m below meth c ls args Q hE hB hl kr
  have hE : CallFix p m c cX8_blunder 2 s args tbG "TaleCourt" := hE
  obtain ⟨hP, hK, hN⟩ := hB
  have hS : va_S (inW ad 133) s.heap s.heap [] := va_S.rf
  have hl : lv_has ls 2 [(0, .ref (ad 0))] := hl
  refine lv_aload_n hE.1 hE.2.1 dX8_blunder_0 rfl (lv_at hl 0 rfl) ?_
  refine x_vp (nn := 0) (As := []) (rest := []) hE (s_X8_gameBar_0 l D K ad (some (ad 132)) 133 (by decide) v ar al hI  ) wPre_blind (wPre_now hK hN hP) (x_recv hK hP 0 (by decide) (xG_8 rfl) rfl) rfl mw_1027 mw_1029 mw_30 mw_114 mw_1030 (by decide +kernel) ⟨by decide, by decide⟩ hl.1 rfl (Nat.le_of_ble_eq_true rfl) ⟨Nat.zero_le _, Nat.zero_le _⟩ dX8_blunder_1 (fun r1 hr1 => ?_)
  obtain ⟨z1, hz1, rfl⟩ := hr1
  refine lv_istore_n (lv' := [(1, .int (iI (z1))), (0, .ref (ad 0))]) hE.1 hE.2.1 dX8_blunder_4 rfl hl (by decide) rfl (fun ls hl => ?_)
  refine lv_iload_n hE.1 hE.2.1 dX8_blunder_5 rfl (lv_at hl 0 rfl) ?_
  refine s_if_eq (a := z1) (tgt := 11) hE.1 hE.2.1 (by omega) dX8_blunder_6 (by decide) (fun c2 => ?_) (fun c2 => ?_)
  · skip
    refine lv_aload_n hE.1 hE.2.1 dX8_blunder_11 rfl (lv_at hl 1 rfl) ?_
    refine x_get (x := .ref (ad 56)) hE hK hP 0 (by decide) (xG_8 rfl) rfl hin8 7 (by decide) mw_487 rfl dX8_blunder_12 ?_
    refine lv_aload_n hE.1 hE.2.1 dX8_blunder_15 rfl (lv_at hl 1 rfl) ?_
    refine x_get (x := .ref (ad 23)) hE hK hP 0 (by decide) (xG_8 rfl) rfl hin8 3 (by decide) mw_483 rfl dX8_blunder_16 ?_
    refine x_vi (nn := 1) (As := [.ref (ad 23)]) (rest := []) hE hK hN hP hS (s_X2_firstBlunder_56_23 l D K ad  v ar al hI  ) (x_recv hK hP 56 (by decide) (xG_2 rfl) rfl) rfl mw_1112 mw_1113 mw_1114 mw_120 mw_1115 (by decide +kernel) ⟨by decide, by decide⟩ hl.1 rfl (Nat.le_of_ble_eq_true rfl) ⟨Nat.zero_le _, Nat.zero_le _⟩ dX8_blunder_19 (fun r3 v3 ar3 al3 H locs hq3 hP hS => ?_)
    obtain ⟨⟨z3, hz3, rfl⟩, hI, hq3⟩ := hq3
    have hI : XI v3 := hI
    exact kr _ _ _ _ _ _ _ _ rfl ⟨⟨z3, by omega, rfl⟩, hI, fun i j h => (hq3 i j (fun q => h (mem_sub (by decide) q)))⟩ hP hS dX8_blunder_22
  · skip
    refine lv_iload_n hE.1 hE.2.1 dX8_blunder_9 rfl (lv_at hl 0 rfl) ?_
    exact kr _ _ _ _ _ _ _ _ rfl ⟨⟨z1, by omega, rfl⟩, hI, fun i j h => rfl⟩ hP hS dX8_blunder_10
