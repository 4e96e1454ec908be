set_option maxHeartbeats 4000000 in
set_option maxRecDepth 100000 in
theorem s_X7_copyFrom_48_23 (l : Launch) (D : va_G) (K : Nat → ClassId) (ad : Nat → Nat) (mm : Option Nat) (N : Nat) (hNN : 132 ≤ N) (v ar : sI) (al : sL) (hI : XI v) : Met l yX7_copyFrom (wM yX7_copyFrom cX7_copyFrom 2 none) (rmD 1) (va_Pc [.ref (ad 48), .ref (ad 23)] (wPre D K ad (xG ad K mm) N v ar al)) (va_Qv (fun u : sT => XI u.1 ∧ (∀ i j : Nat, (i, j) ∉ ([(48, 2), (48, 3), (48, 4), (48, 5), (48, 8), (48, 9)] : List (Nat × Nat)) → u.1 i j = v i j)) (wB D ad (xG ad K mm) N) (inW ad N)) 0 0 (inW ad N) := by
  refine s_metV (by decide) (Nat.le_of_ble_eq_true rfl) ?_
  intro p e s m below meth c ls args Q hE hB hl kr
  have hE : CallFix p m c cX7_copyFrom 2 s args tbG "TaleCourt$Telling" := hE
  obtain ⟨hP, hK, hN⟩ := hB
  have hS : va_S (inW ad N) s.heap s.heap [] := va_S.rf
  have hl : lv_has ls 2 [(0, .ref (ad 48)), (1, .ref (ad 23))] := hl
  refine lv_aload_n hE.1 hE.2.1 dX7_copyFrom_0 rfl (lv_at hl 0 rfl) ?_
  refine lv_aload_n hE.1 hE.2.1 dX7_copyFrom_1 rfl (lv_at hl 1 rfl) ?_
  obtain ⟨z1, hz1, ez1⟩ := XI_get hI 23 2 0 18 (by decide)
  refine x_get (x := .int (v 23 2)) hE hK hP 23 (Nat.lt_of_lt_of_le (by decide) hNN) (xG_7 rfl) rfl hin7 2 (by decide) mw_301 rfl dX7_copyFrom_2 ?_
  refine x_top (y := iI (z1)) ez1 ?_
  refine x_put (x := iI (z1)) hE hK hN hP hS 48 (Nat.lt_of_lt_of_le (by decide) hNN) (xG_7 rfl) rfl hin7 tyX7 tyX7_ok nmX7 2 (by decide) mw_301 rfl rfl rfl (Nat.le_of_ble_eq_true rfl) (xG_7 rfl) dX7_copyFrom_5 (fun v2 H locs hv2 hP hS => ?_)
  have hI := XI_putB (z := z1) hI hv2 0 18 (by omega) (by decide) (by omega)
  refine lv_aload_n hE.1 hE.2.1 dX7_copyFrom_8 rfl (lv_at hl 0 rfl) ?_
  refine lv_aload_n hE.1 hE.2.1 dX7_copyFrom_9 rfl (lv_at hl 1 rfl) ?_
  obtain ⟨z3, hz3, ez3⟩ := iI_of (v2 23 3)
  refine x_get (x := .int (v2 23 3)) hE hK hP 23 (Nat.lt_of_lt_of_le (by decide) hNN) (xG_7 rfl) rfl hin7 3 (by decide) mw_305 rfl dX7_copyFrom_10 ?_
  refine x_top (y := iI (z3)) ez3 ?_
  refine x_put (x := iI (z3)) hE hK hN hP hS 48 (Nat.lt_of_lt_of_le (by decide) hNN) (xG_7 rfl) rfl hin7 tyX7 tyX7_ok nmX7 3 (by decide) mw_305 rfl rfl rfl (Nat.le_of_ble_eq_true rfl) (xG_7 rfl) dX7_copyFrom_13 (fun v4 H locs hv4 hP hS => ?_)
  have hI := XI_putN hI hv4 (by decide)
  refine lv_aload_n hE.1 hE.2.1 dX7_copyFrom_16 rfl (lv_at hl 0 rfl) ?_
  refine lv_aload_n hE.1 hE.2.1 dX7_copyFrom_17 rfl (lv_at hl 1 rfl) ?_
  obtain ⟨z5, hz5, ez5⟩ := iI_of (v4 23 4)
  refine x_get (x := .int (v4 23 4)) hE hK hP 23 (Nat.lt_of_lt_of_le (by decide) hNN) (xG_7 rfl) rfl hin7 4 (by decide) mw_309 rfl dX7_copyFrom_18 ?_
  refine x_top (y := iI (z5)) ez5 ?_
  refine x_put (x := iI (z5)) hE hK hN hP hS 48 (Nat.lt_of_lt_of_le (by decide) hNN) (xG_7 rfl) rfl hin7 tyX7 tyX7_ok nmX7 4 (by decide) mw_309 rfl rfl rfl (Nat.le_of_ble_eq_true rfl) (xG_7 rfl) dX7_copyFrom_21 (fun v6 H locs hv6 hP hS => ?_)
  have hI := XI_putN hI hv6 (by decide)
  refine lv_aload_n hE.1 hE.2.1 dX7_copyFrom_24 rfl (lv_at hl 0 rfl) ?_
  refine lv_aload_n hE.1 hE.2.1 dX7_copyFrom_25 rfl (lv_at hl 1 rfl) ?_
  obtain ⟨z7, hz7, ez7⟩ := iI_of (v6 23 5)
  refine x_get (x := .int (v6 23 5)) hE hK hP 23 (Nat.lt_of_lt_of_le (by decide) hNN) (xG_7 rfl) rfl hin7 5 (by decide) mw_312 rfl dX7_copyFrom_26 ?_
  refine x_top (y := iI (z7)) ez7 ?_
  refine x_put (x := iI (z7)) hE hK hN hP hS 48 (Nat.lt_of_lt_of_le (by decide) hNN) (xG_7 rfl) rfl hin7 tyX7 tyX7_ok nmX7 5 (by decide) mw_312 rfl rfl rfl (Nat.le_of_ble_eq_true rfl) (xG_7 rfl) dX7_copyFrom_29 (fun v8 H locs hv8 hP hS => ?_)
  have hI := XI_putN hI hv8 (by decide)
  refine lv_aload_n hE.1 hE.2.1 dX7_copyFrom_32 rfl (lv_at hl 0 rfl) ?_
  refine lv_aload_n hE.1 hE.2.1 dX7_copyFrom_33 rfl (lv_at hl 1 rfl) ?_
  obtain ⟨z9, hz9, ez9⟩ := iI_of (v8 23 8)
  refine x_get (x := .int (v8 23 8)) hE hK hP 23 (Nat.lt_of_lt_of_le (by decide) hNN) (xG_7 rfl) rfl hin7 8 (by decide) mw_317 rfl dX7_copyFrom_34 ?_
  refine x_top (y := iI (z9)) ez9 ?_
  refine x_put (x := iI (z9)) hE hK hN hP hS 48 (Nat.lt_of_lt_of_le (by decide) hNN) (xG_7 rfl) rfl hin7 tyX7 tyX7_ok nmX7 8 (by decide) mw_317 rfl rfl rfl (Nat.le_of_ble_eq_true rfl) (xG_7 rfl) dX7_copyFrom_37 (fun v10 H locs hv10 hP hS => ?_)
  have hI := XI_putN hI hv10 (by decide)
  refine lv_aload_n hE.1 hE.2.1 dX7_copyFrom_40 rfl (lv_at hl 0 rfl) ?_
  refine lv_aload_n hE.1 hE.2.1 dX7_copyFrom_41 rfl (lv_at hl 1 rfl) ?_
  obtain ⟨z11, hz11, ez11⟩ := iI_of (v10 23 9)
  refine x_get (x := .int (v10 23 9)) hE hK hP 23 (Nat.lt_of_lt_of_le (by decide) hNN) (xG_7 rfl) rfl hin7 9 (by decide) mw_318 rfl dX7_copyFrom_42 ?_
  refine x_top (y := iI (z11)) ez11 ?_
  refine x_put (x := iI (z11)) hE hK hN hP hS 48 (Nat.lt_of_lt_of_le (by decide) hNN) (xG_7 rfl) rfl hin7 tyX7 tyX7_ok nmX7 9 (by decide) mw_318 rfl rfl rfl (Nat.le_of_ble_eq_true rfl) (xG_7 rfl) dX7_copyFrom_45 (fun v12 H locs hv12 hP hS => ?_)
  have hI := XI_putN hI hv12 (by decide)
  refine lv_aload_n hE.1 hE.2.1 dX7_copyFrom_48 rfl (lv_at hl 1 rfl) ?_
  refine x_get (x := .ref (ad 24)) hE hK hP 23 (Nat.lt_of_lt_of_le (by decide) hNN) (xG_7 rfl) rfl hin7 0 (by decide) mw_295 rfl dX7_copyFrom_49 ?_
  refine lv_iconst (v := iI (0)) hE.1 hE.2.1 dX7_copyFrom_52 (by decide) ?_
  refine lv_aload_n hE.1 hE.2.1 dX7_copyFrom_53 rfl (lv_at hl 0 rfl) ?_
  refine x_get (x := .ref (ad 49)) hE hK hP 48 (Nat.lt_of_lt_of_le (by decide) hNN) (xG_7 rfl) rfl hin7 0 (by decide) mw_295 rfl dX7_copyFrom_54 ?_
  refine lv_iconst (v := iI (0)) hE.1 hE.2.1 dX7_copyFrom_57 (by decide) ?_
  refine lv_bipush (v := iI (18)) hE.1 hE.2.1 dX7_copyFrom_58 (by decide) ?_
  refine x_copyi (rest := []) (sp := iI (0)) (dp := iI (0)) (n := iI (18)) (n0 := 18) (n1 := 18) hE hl.1 hK hN hP hS mw_912 mw_680 mw_679 mw_130 24 49 (Nat.lt_of_lt_of_le (by decide) hNN) (Nat.lt_of_lt_of_le (by decide) hNN) (xG_10 rfl) (fun _ => xG_10 rfl) (by decide) (by decide) (by decide) (by decide) (by decide) (by decide) (by decide) dX7_copyFrom_60 (fun ar13 H locs ha13 hP hS => ?_)
  refine lv_aload_n hE.1 hE.2.1 dX7_copyFrom_63 rfl (lv_at hl 1 rfl) ?_
  refine x_get (x := .ref (ad 25)) hE hK hP 23 (Nat.lt_of_lt_of_le (by decide) hNN) (xG_7 rfl) rfl hin7 1 (by decide) mw_299 rfl dX7_copyFrom_64 ?_
  refine lv_iconst (v := iI (0)) hE.1 hE.2.1 dX7_copyFrom_67 (by decide) ?_
  refine lv_aload_n hE.1 hE.2.1 dX7_copyFrom_68 rfl (lv_at hl 0 rfl) ?_
  refine x_get (x := .ref (ad 50)) hE hK hP 48 (Nat.lt_of_lt_of_le (by decide) hNN) (xG_7 rfl) rfl hin7 1 (by decide) mw_299 rfl dX7_copyFrom_69 ?_
  refine lv_iconst (v := iI (0)) hE.1 hE.2.1 dX7_copyFrom_72 (by decide) ?_
  refine lv_bipush (v := iI (9)) hE.1 hE.2.1 dX7_copyFrom_73 (by decide) ?_
  refine x_copyi (rest := []) (sp := iI (0)) (dp := iI (0)) (n := iI (9)) (n0 := 9) (n1 := 9) hE hl.1 hK hN hP hS mw_912 mw_680 mw_679 mw_130 25 50 (Nat.lt_of_lt_of_le (by decide) hNN) (Nat.lt_of_lt_of_le (by decide) hNN) (xG_10 rfl) (fun _ => xG_10 rfl) (by decide) (by decide) (by decide) (by decide) (by decide) (by decide) (by decide) dX7_copyFrom_75 (fun ar14 H locs ha14 hP hS => ?_)
  refine lv_aload_n hE.1 hE.2.1 dX7_copyFrom_78 rfl (lv_at hl 1 rfl) ?_
  refine x_get (x := .ref (ad 26)) hE hK hP 23 (Nat.lt_of_lt_of_le (by decide) hNN) (xG_7 rfl) rfl hin7 7 (by decide) mw_316 rfl dX7_copyFrom_79 ?_
  refine lv_iconst (v := iI (0)) hE.1 hE.2.1 dX7_copyFrom_82 (by decide) ?_
  refine lv_aload_n hE.1 hE.2.1 dX7_copyFrom_83 rfl (lv_at hl 0 rfl) ?_
  refine x_get (x := .ref (ad 51)) hE hK hP 48 (Nat.lt_of_lt_of_le (by decide) hNN) (xG_7 rfl) rfl hin7 7 (by decide) mw_316 rfl dX7_copyFrom_84 ?_
  refine lv_iconst (v := iI (0)) hE.1 hE.2.1 dX7_copyFrom_87 (by decide) ?_
  refine lv_iconst (v := iI (3)) hE.1 hE.2.1 dX7_copyFrom_88 (by decide) ?_
  refine x_copyi (rest := []) (sp := iI (0)) (dp := iI (0)) (n := iI (3)) (n0 := 3) (n1 := 3) hE hl.1 hK hN hP hS mw_912 mw_680 mw_679 mw_130 26 51 (Nat.lt_of_lt_of_le (by decide) hNN) (Nat.lt_of_lt_of_le (by decide) hNN) (xG_10 rfl) (fun _ => xG_10 rfl) (by decide) (by decide) (by decide) (by decide) (by decide) (by decide) (by decide) dX7_copyFrom_89 (fun ar15 H locs ha15 hP hS => ?_)
  refine lv_aload_n hE.1 hE.2.1 dX7_copyFrom_92 rfl (lv_at hl 1 rfl) ?_
  refine x_get (x := .ref (ad 27)) hE hK hP 23 (Nat.lt_of_lt_of_le (by decide) hNN) (xG_7 rfl) rfl hin7 10 (by decide) mw_319 rfl dX7_copyFrom_93 ?_
  refine lv_iconst (v := iI (0)) hE.1 hE.2.1 dX7_copyFrom_96 (by decide) ?_
  refine lv_aload_n hE.1 hE.2.1 dX7_copyFrom_97 rfl (lv_at hl 0 rfl) ?_
  refine x_get (x := .ref (ad 52)) hE hK hP 48 (Nat.lt_of_lt_of_le (by decide) hNN) (xG_7 rfl) rfl hin7 10 (by decide) mw_319 rfl dX7_copyFrom_98 ?_
  refine lv_iconst (v := iI (0)) hE.1 hE.2.1 dX7_copyFrom_101 (by decide) ?_
  refine lv_bipush (v := iI (18)) hE.1 hE.2.1 dX7_copyFrom_102 (by decide) ?_
  refine x_copyi (rest := []) (sp := iI (0)) (dp := iI (0)) (n := iI (18)) (n0 := 18) (n1 := 18) hE hl.1 hK hN hP hS mw_912 mw_680 mw_679 mw_130 27 52 (Nat.lt_of_lt_of_le (by decide) hNN) (Nat.lt_of_lt_of_le (by decide) hNN) (xG_10 rfl) (fun _ => xG_10 rfl) (by decide) (by decide) (by decide) (by decide) (by decide) (by decide) (by decide) dX7_copyFrom_104 (fun ar16 H locs ha16 hP hS => ?_)
  refine lv_aload_n hE.1 hE.2.1 dX7_copyFrom_107 rfl (lv_at hl 1 rfl) ?_
  refine x_get (x := .ref (ad 28)) hE hK hP 23 (Nat.lt_of_lt_of_le (by decide) hNN) (xG_7 rfl) rfl hin7 11 (by decide) mw_320 rfl dX7_copyFrom_108 ?_
  refine lv_iconst (v := iI (0)) hE.1 hE.2.1 dX7_copyFrom_111 (by decide) ?_
  refine lv_aload_n hE.1 hE.2.1 dX7_copyFrom_112 rfl (lv_at hl 0 rfl) ?_
  refine x_get (x := .ref (ad 53)) hE hK hP 48 (Nat.lt_of_lt_of_le (by decide) hNN) (xG_7 rfl) rfl hin7 11 (by decide) mw_320 rfl dX7_copyFrom_113 ?_
  refine lv_iconst (v := iI (0)) hE.1 hE.2.1 dX7_copyFrom_116 (by decide) ?_
  refine lv_bipush (v := iI (18)) hE.1 hE.2.1 dX7_copyFrom_117 (by decide) ?_
  refine x_copyi (rest := []) (sp := iI (0)) (dp := iI (0)) (n := iI (18)) (n0 := 18) (n1 := 18) hE hl.1 hK hN hP hS mw_912 mw_680 mw_679 mw_130 28 53 (Nat.lt_of_lt_of_le (by decide) hNN) (Nat.lt_of_lt_of_le (by decide) hNN) (xG_10 rfl) (fun _ => xG_10 rfl) (by decide) (by decide) (by decide) (by decide) (by decide) (by decide) (by decide) dX7_copyFrom_119 (fun ar17 H locs ha17 hP hS => ?_)
  refine lv_aload_n hE.1 hE.2.1 dX7_copyFrom_122 rfl (lv_at hl 1 rfl) ?_
  refine x_get (x := .ref (ad 29)) hE hK hP 23 (Nat.lt_of_lt_of_le (by decide) hNN) (xG_7 rfl) rfl hin7 12 (by decide) mw_321 rfl dX7_copyFrom_123 ?_
  refine lv_iconst (v := iI (0)) hE.1 hE.2.1 dX7_copyFrom_126 (by decide) ?_
  refine lv_aload_n hE.1 hE.2.1 dX7_copyFrom_127 rfl (lv_at hl 0 rfl) ?_
  refine x_get (x := .ref (ad 54)) hE hK hP 48 (Nat.lt_of_lt_of_le (by decide) hNN) (xG_7 rfl) rfl hin7 12 (by decide) mw_321 rfl dX7_copyFrom_128 ?_
  refine lv_iconst (v := iI (0)) hE.1 hE.2.1 dX7_copyFrom_131 (by decide) ?_
  refine lv_bipush (v := iI (18)) hE.1 hE.2.1 dX7_copyFrom_132 (by decide) ?_
  refine x_copyi (rest := []) (sp := iI (0)) (dp := iI (0)) (n := iI (18)) (n0 := 18) (n1 := 18) hE hl.1 hK hN hP hS mw_912 mw_680 mw_679 mw_130 29 54 (Nat.lt_of_lt_of_le (by decide) hNN) (Nat.lt_of_lt_of_le (by decide) hNN) (xG_10 rfl) (fun _ => xG_10 rfl) (by decide) (by decide) (by decide) (by decide) (by decide) (by decide) (by decide) dX7_copyFrom_134 (fun ar18 H locs ha18 hP hS => ?_)
  refine lv_aload_n hE.1 hE.2.1 dX7_copyFrom_137 rfl (lv_at hl 1 rfl) ?_
  refine x_get (x := .ref (ad 30)) hE hK hP 23 (Nat.lt_of_lt_of_le (by decide) hNN) (xG_7 rfl) rfl hin7 13 (by decide) mw_322 rfl dX7_copyFrom_138 ?_
  refine lv_iconst (v := iI (0)) hE.1 hE.2.1 dX7_copyFrom_141 (by decide) ?_
  refine lv_aload_n hE.1 hE.2.1 dX7_copyFrom_142 rfl (lv_at hl 0 rfl) ?_
  refine x_get (x := .ref (ad 55)) hE hK hP 48 (Nat.lt_of_lt_of_le (by decide) hNN) (xG_7 rfl) rfl hin7 13 (by decide) mw_322 rfl dX7_copyFrom_143 ?_
  refine lv_iconst (v := iI (0)) hE.1 hE.2.1 dX7_copyFrom_146 (by decide) ?_
  refine lv_bipush (v := iI (18)) hE.1 hE.2.1 dX7_copyFrom_147 (by decide) ?_
  refine x_copyi (rest := []) (sp := iI (0)) (dp := iI (0)) (n := iI (18)) (n0 := 18) (n1 := 18) hE hl.1 hK hN hP hS mw_912 mw_680 mw_679 mw_130 30 55 (Nat.lt_of_lt_of_le (by decide) hNN) (Nat.lt_of_lt_of_le (by decide) hNN) (xG_10 rfl) (fun _ => xG_10 rfl) (by decide) (by decide) (by decide) (by decide) (by decide) (by decide) (by decide) dX7_copyFrom_149 (fun ar19 H locs ha19 hP hS => ?_)
  exact kr _ _ _ _ _ _ _ ⟨hI, fun i j h => ((up_oth hv12 (fun q => h (by rcases q with ⟨rfl, rfl⟩; decide))).trans ((up_oth hv10 (fun q => h (by rcases q with ⟨rfl, rfl⟩; decide))).trans ((up_oth hv8 (fun q => h (by rcases q with ⟨rfl, rfl⟩; decide))).trans ((up_oth hv6 (fun q => h (by rcases q with ⟨rfl, rfl⟩; decide))).trans ((up_oth hv4 (fun q => h (by rcases q with ⟨rfl, rfl⟩; decide))).trans (up_oth hv2 (fun q => h (by rcases q with ⟨rfl, rfl⟩; decide))))))))⟩ hP hS dX7_copyFrom_152

set_option maxHeartbeats 4000000 in
set_option maxRecDepth 100000 in
theorem s_X7_unpaid_48 (l : Launch) (D : va_G) (K : Nat → ClassId) (ad : Nat → Nat) (mm : Option Nat) (N : Nat) (hNN : 132 ≤ N) (v ar : sI) (al : sL) (hI : XI v) : Met l yX7_unpaid (wM yX7_unpaid cX7_unpaid 1 (some .int)) (rmD 0) (va_Pc [.ref (ad 48)] (wPre D K ad (xG ad K mm) N v ar al)) (vp_Si (fun r => ∃ z : Int, (-2147483648 ≤ z ∧ z ≤ 2147483647) ∧ r = iI z)) 0 0 (fun _ => False) := by
  refine s_metP (by decide) (Nat.le_of_ble_eq_true rfl) ?_
  intro p e s m below meth c ls args Q hE hB hl kr
  have hE : CallFix p m c cX7_unpaid 1 s args tbG "TaleCourt$Telling" := hE
  obtain ⟨hP, hK, hN⟩ := hB
  have hl : lv_has ls 1 [(0, .ref (ad 48))] := hl
  refine lv_aload_n hE.1 hE.2.1 dX7_unpaid_0 rfl (lv_at hl 0 rfl) ?_
  obtain ⟨z1, hz1, ez1⟩ := iI_of (v 48 9)
  refine x_get (x := .int (v 48 9)) hE hK hP 48 (Nat.lt_of_lt_of_le (by decide) hNN) (xG_7 rfl) rfl hin7 9 (by decide) mw_318 rfl dX7_unpaid_1 ?_
  refine x_top (y := iI (z1)) ez1 ?_
  refine lv_aload_n hE.1 hE.2.1 dX7_unpaid_4 rfl (lv_at hl 0 rfl) ?_
  obtain ⟨z2, hz2, ez2⟩ := iI_of (v 48 3)
  refine x_get (x := .int (v 48 3)) hE hK hP 48 (Nat.lt_of_lt_of_le (by decide) hNN) (xG_7 rfl) rfl hin7 3 (by decide) mw_305 rfl dX7_unpaid_5 ?_
  refine x_top (y := iI (z2)) ez2 ?_
  refine lv_iconst (v := iI (-1)) hE.1 hE.2.1 dX7_unpaid_8 (by decide) ?_
  refine lv_ixor hE.1 hE.2.1 dX7_unpaid_9 ?_
  obtain ⟨z3, hz3, ez3⟩ := iI_of (iI (z2) ^^^ iI (-1))
  refine x_top ez3 ?_
  refine lv_iand hE.1 hE.2.1 dX7_unpaid_10 ?_
  obtain ⟨z4, hz4, ez4⟩ := iI_of (iI (z1) &&& iI (z3))
  refine x_top ez4 ?_
  exact kr _ _ _ rfl ⟨z4, by omega, rfl⟩ dX7_unpaid_11

theorem dX7_debts_0 : decode cX7_debts 0 = .ok (.aload_n 0, 1) := by decide +kernel
theorem dX7_debts_1 : decode cX7_debts 1 = .ok (.invokevirtual 86, 3) := by decide +kernel
theorem dX7_debts_4 : decode cX7_debts 4 = .ok (.istore_n 1, 1) := by decide +kernel
theorem dX7_debts_5 : decode cX7_debts 5 = .ok (.bipush 9, 2) := by decide +kernel
theorem dX7_debts_7 : decode cX7_debts 7 = .ok (.aload_n 0, 1) := by decide +kernel
theorem dX7_debts_8 : decode cX7_debts 8 = .ok (.getfield 44, 3) := by decide +kernel
theorem dX7_debts_11 : decode cX7_debts 11 = .ok (.invokestatic 93, 3) := by decide +kernel
theorem dX7_debts_14 : decode cX7_debts 14 = .ok (.isub, 1) := by decide +kernel
theorem dX7_debts_15 : decode cX7_debts 15 = .ok (.istore_n 2, 1) := by decide +kernel
theorem dX7_debts_16 : decode cX7_debts 16 = .ok (.lconst 0, 1) := by decide +kernel
theorem dX7_debts_17 : decode cX7_debts 17 = .ok (.lstore_n 3, 1) := by decide +kernel
theorem dX7_debts_18 : decode cX7_debts 18 = .ok (.iconst 0, 1) := by decide +kernel
theorem dX7_debts_19 : decode cX7_debts 19 = .ok (.istore 5, 2) := by decide +kernel
theorem dX7_debts_21 : decode cX7_debts 21 = .ok (.iload 5, 2) := by decide +kernel
theorem dX7_debts_23 : decode cX7_debts 23 = .ok (.bipush 9, 2) := by decide +kernel
theorem dX7_debts_25 : decode cX7_debts 25 = .ok (.if_icmp .ge 60, 3) := by decide +kernel
theorem dX7_debts_28 : decode cX7_debts 28 = .ok (.iload_n 1, 1) := by decide +kernel
theorem dX7_debts_29 : decode cX7_debts 29 = .ok (.iload 5, 2) := by decide +kernel
theorem dX7_debts_31 : decode cX7_debts 31 = .ok (.ishr, 1) := by decide +kernel
theorem dX7_debts_32 : decode cX7_debts 32 = .ok (.ifCond .eq 53, 3) := by decide +kernel
theorem dX7_debts_35 : decode cX7_debts 35 = .ok (.iload_n 1, 1) := by decide +kernel
theorem dX7_debts_36 : decode cX7_debts 36 = .ok (.iload 5, 2) := by decide +kernel
theorem dX7_debts_38 : decode cX7_debts 38 = .ok (.ishr, 1) := by decide +kernel
theorem dX7_debts_39 : decode cX7_debts 39 = .ok (.iconst 1, 1) := by decide +kernel
theorem dX7_debts_40 : decode cX7_debts 40 = .ok (.iand, 1) := by decide +kernel
theorem dX7_debts_41 : decode cX7_debts 41 = .ok (.ifCond .eq 38, 3) := by decide +kernel
theorem dX7_debts_44 : decode cX7_debts 44 = .ok (.iconst 0, 1) := by decide +kernel
theorem dX7_debts_45 : decode cX7_debts 45 = .ok (.iload_n 2, 1) := by decide +kernel
theorem dX7_debts_46 : decode cX7_debts 46 = .ok (.aload_n 0, 1) := by decide +kernel
theorem dX7_debts_47 : decode cX7_debts 47 = .ok (.getfield 15, 3) := by decide +kernel
theorem dX7_debts_50 : decode cX7_debts 50 = .ok (.iload 5, 2) := by decide +kernel
theorem dX7_debts_52 : decode cX7_debts 52 = .ok (.iaload, 1) := by decide +kernel
theorem dX7_debts_53 : decode cX7_debts 53 = .ok (.aload_n 0, 1) := by decide +kernel
theorem dX7_debts_54 : decode cX7_debts 54 = .ok (.getfield 41, 3) := by decide +kernel
theorem dX7_debts_57 : decode cX7_debts 57 = .ok (.isub, 1) := by decide +kernel
theorem dX7_debts_58 : decode cX7_debts 58 = .ok (.invokestatic 98, 3) := by decide +kernel
theorem dX7_debts_61 : decode cX7_debts 61 = .ok (.invokestatic 76, 3) := by decide +kernel
theorem dX7_debts_64 : decode cX7_debts 64 = .ok (.iconst 1, 1) := by decide +kernel
theorem dX7_debts_65 : decode cX7_debts 65 = .ok (.iadd, 1) := by decide +kernel
theorem dX7_debts_66 : decode cX7_debts 66 = .ok (.i2l, 1) := by decide +kernel
theorem dX7_debts_67 : decode cX7_debts 67 = .ok (.lstore 6, 2) := by decide +kernel
theorem dX7_debts_69 : decode cX7_debts 69 = .ok (.lload_n 3, 1) := by decide +kernel
theorem dX7_debts_70 : decode cX7_debts 70 = .ok (.lload 6, 2) := by decide +kernel
theorem dX7_debts_72 : decode cX7_debts 72 = .ok (.iconst 4, 1) := by decide +kernel
theorem dX7_debts_73 : decode cX7_debts 73 = .ok (.iload 5, 2) := by decide +kernel
theorem dX7_debts_75 : decode cX7_debts 75 = .ok (.imul, 1) := by decide +kernel
theorem dX7_debts_76 : decode cX7_debts 76 = .ok (.lshl, 1) := by decide +kernel
theorem dX7_debts_77 : decode cX7_debts 77 = .ok (.lor, 1) := by decide +kernel
theorem dX7_debts_78 : decode cX7_debts 78 = .ok (.lstore_n 3, 1) := by decide +kernel
theorem dX7_debts_79 : decode cX7_debts 79 = .ok (.iinc 5 1, 3) := by decide +kernel
theorem dX7_debts_82 : decode cX7_debts 82 = .ok (.goto (-61), 3) := by decide +kernel
theorem dX7_debts_85 : decode cX7_debts 85 = .ok (.lload_n 3, 1) := by decide +kernel
theorem dX7_debts_86 : decode cX7_debts 86 = .ok (.lreturn, 1) := by decide +kernel
set_option maxHeartbeats 4000000 in
set_option maxRecDepth 100000 in
theorem s_X7_debts_48 (l : Launch) (D : va_G) (K : Nat → ClassId) (ad : Nat → Nat) (mm : Option Nat) (N : Nat) (hNN : 132 ≤ N) (v ar : sI) (al : sL) (hI : XI v) : Met l yX7_debts (wM yX7_debts cX7_debts 8 (some .long)) (rmD 1) (va_Pc [.ref (ad 48)] (wPre D K ad (xG ad K mm) N v ar al)) (vp_Sl (fun r => ∃ z : Int, (-9223372036854775808 ≤ z ∧ z ≤ 9223372036854775807) ∧ r = lI z)) 0 0 (fun _ => False) := by
  refine s_metL (by decide) (Nat.le_of_ble_eq_true rfl) ?_
  intro p e s m below meth c ls args Q hE hB hl kr
  have hE : CallFix p m c cX7_debts 8 s args tbG "TaleCourt$Telling" := hE
  obtain ⟨hP, hK, hN⟩ := hB
  have hl : lv_has ls 8 [(0, .ref (ad 48))] := hl
  refine lv_aload_n hE.1 hE.2.1 dX7_debts_0 rfl (lv_at hl 0 rfl) ?_
  refine x_vp (nn := 0) (As := []) (rest := []) hE (s_X7_unpaid_48 l D K ad mm N hNN v ar al hI  ) wPre_blind (wPre_now hK hN hP) (x_recv hK hP 48 (Nat.lt_of_lt_of_le (by decide) hNN) (xG_7 rfl) rfl) rfl mw_754 mw_755 mw_756 mw_117 mw_757 (by decide +kernel) ⟨by decide, by decide⟩ hl.1 rfl (Nat.le_of_ble_eq_true rfl) ⟨Nat.zero_le _, Nat.zero_le _⟩ dX7_debts_1 (fun r1 hr1 => ?_)
  obtain ⟨z1, hz1, rfl⟩ := hr1
  refine lv_istore_n (lv' := [(1, .int (iI (z1))), (0, .ref (ad 48))]) hE.1 hE.2.1 dX7_debts_4 rfl hl (by decide) rfl (fun ls hl => ?_)
  refine lv_bipush (v := iI (9)) hE.1 hE.2.1 dX7_debts_5 (by decide) ?_
  refine lv_aload_n hE.1 hE.2.1 dX7_debts_7 rfl (lv_at hl 1 rfl) ?_
  obtain ⟨z2, hz2, ez2⟩ := iI_of (v 48 3)
  refine x_get (x := .int (v 48 3)) hE hK hP 48 (Nat.lt_of_lt_of_le (by decide) hNN) (xG_7 rfl) rfl hin7 3 (by decide) mw_305 rfl dX7_debts_8 ?_
  refine x_top (y := iI (z2)) ez2 ?_
  refine x_sp (nn := 1) (As := [.int (iI (z2))]) (rest := [.int (iI (9))]) hE (s_J6_bitCount_0f7a4 l (z2) (by omega)) tt_blind (fun _ _ _ => trivial) rfl mw_849 mw_850 mw_131 mw_851 (by decide +kernel) ⟨by decide, by decide⟩ hl.1 rfl (Nat.le_of_ble_eq_true rfl) ⟨Nat.zero_le _, Nat.zero_le _⟩ dX7_debts_11 (fun r3 hr3 => ?_)
  obtain ⟨z3, hz3, rfl⟩ := hr3
  refine lv_isub hE.1 hE.2.1 dX7_debts_14 ?_
  obtain ⟨z4, hz4, ez4⟩ := iI_of (iI (9) - iI (z3))
  refine x_top ez4 ?_
  refine lv_istore_n (lv' := [(2, .int (iI (z4))), (1, .int (iI (z1))), (0, .ref (ad 48))]) hE.1 hE.2.1 dX7_debts_15 rfl hl (by decide) rfl (fun ls hl => ?_)
  refine lv_lconst (v := lI (0)) hE.1 hE.2.1 dX7_debts_16 (by decide) ?_
  refine lv_lstore_n (lv' := [(3, .long (lI (0))), (2, .int (iI (z4))), (1, .int (iI (z1))), (0, .ref (ad 48))]) hE.1 hE.2.1 dX7_debts_17 rfl hl (by decide) rfl (fun ls hl => ?_)
  refine lv_iconst (v := iI (0)) hE.1 hE.2.1 dX7_debts_18 (by decide) ?_
  refine lv_istore (lv' := [(5, .int (iI (0))), (3, .long (lI (0))), (2, .int (iI (z4))), (1, .int (iI (z1))), (0, .ref (ad 48))]) hE.1 hE.2.1 dX7_debts_19 hl (by decide) rfl (fun ls hl => ?_)
  have loop5 : ∀ (k5 : Nat) (y5_5 : Int) (y5_3 : Int) (ls : Array Slot), (9 - y5_5).toNat = k5 → (0 ≤ y5_5 ∧ y5_5 ≤ 9) → (-9223372036854775808 ≤ y5_3 ∧ y5_3 ≤ 9223372036854775807) → lv_has ls 8 [(5, .int (iI (y5_5))), (3, .long (lI (y5_3))), (2, .int (iI (z4))), (1, .int (iI (z1))), (0, .ref (ad 48))] → W p l e (rmD 1) s m args below meth c s.heap [] 0 0 Q (F0 m 21 ls []) := by
    intro k5
    induction k5 using Nat.strongRecOn with
    | _ k5 ih5 =>
      intro y5_5 y5_3 ls hk5 hb_y5_5 hb_y5_3 hl
      refine lv_iload hE.1 hE.2.1 dX7_debts_21 (lv_at hl 0 rfl) ?_
      refine lv_bipush (v := iI (9)) hE.1 hE.2.1 dX7_debts_23 (by decide) ?_
      refine s_icmp_ge (a := y5_5) (b := 9) (tgt := 85) hE.1 hE.2.1 (by omega) (by omega) dX7_debts_25 (by decide) (fun c6 => ?_) (fun c6 => ?_)
      · skip
        refine lv_lload_n hE.1 hE.2.1 dX7_debts_85 rfl (lv_at hl 1 rfl) ?_
        exact kr _ _ _ ⟨y5_3, by omega, rfl⟩ dX7_debts_86
      · skip
        refine lv_iload_n hE.1 hE.2.1 dX7_debts_28 rfl (lv_at hl 3 rfl) ?_
        refine lv_iload hE.1 hE.2.1 dX7_debts_29 (lv_at hl 0 rfl) ?_
        refine lv_ishr hE.1 hE.2.1 dX7_debts_31 ?_
        obtain ⟨z7, hz7, ez7⟩ := iI_of (iI (z1) >>> (iI (y5_5) &&& 31))
        refine x_top ez7 ?_
        refine s_if_eq (a := z7) (tgt := 85) hE.1 hE.2.1 (by omega) dX7_debts_32 (by decide) (fun c8 => ?_) (fun c8 => ?_)
        · skip
          refine lv_lload_n hE.1 hE.2.1 dX7_debts_85 rfl (lv_at hl 1 rfl) ?_
          exact kr _ _ _ ⟨y5_3, by omega, rfl⟩ dX7_debts_86
        · skip
          refine lv_iload_n hE.1 hE.2.1 dX7_debts_35 rfl (lv_at hl 3 rfl) ?_
          refine lv_iload hE.1 hE.2.1 dX7_debts_36 (lv_at hl 0 rfl) ?_
          refine lv_ishr hE.1 hE.2.1 dX7_debts_38 ?_
          obtain ⟨z9, hz9, ez9⟩ := iI_of (iI (z1) >>> (iI (y5_5) &&& 31))
          refine x_top ez9 ?_
          refine lv_iconst (v := iI (1)) hE.1 hE.2.1 dX7_debts_39 (by decide) ?_
          refine lv_iand hE.1 hE.2.1 dX7_debts_40 ?_
          obtain ⟨z10, hz10, ez10⟩ := iI_and (iI (z9)) (iI (1)) 1 (by decide)
          refine x_top ez10 ?_
          refine s_if_eq (a := z10) (tgt := 79) hE.1 hE.2.1 (by omega) dX7_debts_41 (by decide) (fun c11 => ?_) (fun c11 => ?_)
          · skip
            refine lv_iinc (v := iI (y5_5 + 1)) (lv' := [(5, .int (iI (y5_5 + 1))), (3, .long (lI (y5_3))), (2, .int (iI (z4))), (1, .int (iI (z1))), (0, .ref (ad 48))]) hE.1 hE.2.1 dX7_debts_79 hl (k := 0) rfl ((iI_add (y5_5) (1)).trans (congrArg iI (by omega))) (by decide) rfl (fun ls hl => ?_)
            refine lv_goto (tgt := 21) hE.1 hE.2.1 dX7_debts_82 (by decide) ?_
            exact ih5 _ (by omega) (y5_5 + 1) (y5_3) _ rfl (by omega) (by omega) (lv_sub hl [0, 1, 2, 3, 4] rfl)
          · skip
            refine lv_iconst (v := iI (0)) hE.1 hE.2.1 dX7_debts_44 (by decide) ?_
            refine lv_iload_n hE.1 hE.2.1 dX7_debts_45 rfl (lv_at hl 2 rfl) ?_
            refine lv_aload_n hE.1 hE.2.1 dX7_debts_46 rfl (lv_at hl 4 rfl) ?_
            refine x_get (x := .ref (ad 50)) hE hK hP 48 (Nat.lt_of_lt_of_le (by decide) hNN) (xG_7 rfl) rfl hin7 1 (by decide) mw_299 rfl dX7_debts_47 ?_
            refine lv_iload hE.1 hE.2.1 dX7_debts_50 (lv_at hl 0 rfl) ?_
            refine x_iald (j := iI (y5_5)) hE hK hP 50 (Nat.lt_of_lt_of_le (by decide) hNN) (xG_10 rfl) (iI_in (n := 9) (by omega)) dX7_debts_52 ?_
            obtain ⟨z13, hz13, ez13⟩ := iI_of (ar 50 (iI (y5_5)).toNatClampNeg)
            refine x_top ez13 ?_
            refine lv_aload_n hE.1 hE.2.1 dX7_debts_53 rfl (lv_at hl 4 rfl) ?_
            obtain ⟨z14, hz14, ez14⟩ := XI_get hI 48 2 0 18 (by decide)
            refine x_get (x := .int (v 48 2)) hE hK hP 48 (Nat.lt_of_lt_of_le (by decide) hNN) (xG_7 rfl) rfl hin7 2 (by decide) mw_301 rfl dX7_debts_54 ?_
            refine x_top (y := iI (z14)) ez14 ?_
            refine lv_isub hE.1 hE.2.1 dX7_debts_57 ?_
            obtain ⟨z15, hz15, ez15⟩ := iI_of (iI (z13) - iI (z14))
            refine x_top ez15 ?_
            refine va_mmin (rest := [.int (iI (0))]) hE.1 hE.2.1 (hE.2.2.1.trans hl.1.symm) hE.2.2.2.1 (hE.2.2.2.2 _ mw_925) (hE.2.2.2.2 _ mw_628) (hE.2.2.2.2 _ mw_129) (hE.2.2.2.2 _ mw_629) (Nat.le_of_ble_eq_true rfl) (Nat.le_of_ble_eq_true rfl) (Nat.zero_le _) (Nat.zero_le _) dX7_debts_58 ?_
            obtain ⟨z16, hz16, ez16⟩ := iI_min (a := z4) (b := z15) (by omega) (by omega)
            refine x_top ez16 ?_
            refine va_mmax (rest := []) hE.1 hE.2.1 (hE.2.2.1.trans hl.1.symm) hE.2.2.2.1 (hE.2.2.2.2 _ mw_892) (hE.2.2.2.2 _ mw_893) (hE.2.2.2.2 _ mw_129) (hE.2.2.2.2 _ mw_894) (Nat.le_of_ble_eq_true rfl) (Nat.le_of_ble_eq_true rfl) (Nat.zero_le _) (Nat.zero_le _) dX7_debts_61 ?_
            obtain ⟨z17, hz17, ez17⟩ := iI_max (a := 0) (b := z16) (by omega) (by omega)
            refine x_top ez17 ?_
            refine lv_iconst (v := iI (1)) hE.1 hE.2.1 dX7_debts_64 (by decide) ?_
            refine lv_iadd hE.1 hE.2.1 dX7_debts_65 ?_
            obtain ⟨z18, hz18, ez18⟩ := iI_of (iI (z17) + iI (1))
            refine x_top ez18 ?_
            refine lv_i2l (v := lI (z18)) hE.1 hE.2.1 dX7_debts_66 (iI_i2l (by omega)) ?_
            refine lv_lstore (lv' := [(6, .long (lI (z18))), (5, .int (iI (y5_5))), (3, .long (lI (y5_3))), (2, .int (iI (z4))), (1, .int (iI (z1))), (0, .ref (ad 48))]) hE.1 hE.2.1 dX7_debts_67 hl (by decide) rfl (fun ls hl => ?_)
            refine lv_lload_n hE.1 hE.2.1 dX7_debts_69 rfl (lv_at hl 2 rfl) ?_
            refine lv_lload hE.1 hE.2.1 dX7_debts_70 (lv_at hl 0 rfl) ?_
            refine lv_iconst (v := iI (4)) hE.1 hE.2.1 dX7_debts_72 (by decide) ?_
            refine lv_iload hE.1 hE.2.1 dX7_debts_73 (lv_at hl 1 rfl) ?_
            refine lv_imul hE.1 hE.2.1 dX7_debts_75 ?_
            refine x_top (y := iI (4 * y5_5)) ((iI_mul (4) (y5_5)).trans (congrArg iI (by omega))) ?_
            obtain ⟨z19, hz19, ez19⟩ := lI_of (lI (z18) <<< ((iI (4 * y5_5)).toInt64 &&& 63))
            refine lv_lshl (v := lI (z19)) hE.1 hE.2.1 dX7_debts_76 ez19 ?_
            refine lv_lor hE.1 hE.2.1 dX7_debts_77 ?_
            obtain ⟨z20, hz20, ez20⟩ := lI_of (lI (y5_3) ||| lI (z19))
            refine x_topl ez20 ?_
            refine lv_lstore_n (lv' := [(3, .long (lI (z20))), (6, .long (lI (z18))), (5, .int (iI (y5_5))), (2, .int (iI (z4))), (1, .int (iI (z1))), (0, .ref (ad 48))]) hE.1 hE.2.1 dX7_debts_78 rfl hl (by decide) rfl (fun ls hl => ?_)
            refine lv_iinc (v := iI (y5_5 + 1)) (lv' := [(5, .int (iI (y5_5 + 1))), (3, .long (lI (z20))), (6, .long (lI (z18))), (2, .int (iI (z4))), (1, .int (iI (z1))), (0, .ref (ad 48))]) hE.1 hE.2.1 dX7_debts_79 hl (k := 2) rfl ((iI_add (y5_5) (1)).trans (congrArg iI (by omega))) (by decide) rfl (fun ls hl => ?_)
            refine lv_goto (tgt := 21) hE.1 hE.2.1 dX7_debts_82 (by decide) ?_
            exact ih5 _ (by omega) (y5_5 + 1) (z20) _ rfl (by omega) (by omega) (lv_sub hl [0, 1, 3, 4, 5] rfl)
  exact loop5 _ (0) (0) _ rfl (by omega) (by omega) hl

theorem dX6_key_0 : decode cX6_key 0 = .ok (.aload_n 0, 1) := by decide +kernel
theorem dX6_key_1 : decode cX6_key 1 = .ok (.getfield 46, 3) := by decide +kernel
theorem dX6_key_4 : decode cX6_key 4 = .ok (.i2l, 1) := by decide +kernel
theorem dX6_key_5 : decode cX6_key 5 = .ok (.lstore_n 1, 1) := by decide +kernel
theorem dX6_key_6 : decode cX6_key 6 = .ok (.lload_n 1, 1) := by decide +kernel
theorem dX6_key_7 : decode cX6_key 7 = .ok (.bipush 9, 2) := by decide +kernel
theorem dX6_key_9 : decode cX6_key 9 = .ok (.lshl, 1) := by decide +kernel
theorem dX6_key_10 : decode cX6_key 10 = .ok (.aload_n 0, 1) := by decide +kernel
theorem dX6_key_11 : decode cX6_key 11 = .ok (.getfield 24, 3) := by decide +kernel
theorem dX6_key_14 : decode cX6_key 14 = .ok (.getfield 84, 3) := by decide +kernel
theorem dX6_key_17 : decode cX6_key 17 = .ok (.i2l, 1) := by decide +kernel
theorem dX6_key_18 : decode cX6_key 18 = .ok (.lor, 1) := by decide +kernel
theorem dX6_key_19 : decode cX6_key 19 = .ok (.lstore_n 1, 1) := by decide +kernel
theorem dX6_key_20 : decode cX6_key 20 = .ok (.lload_n 1, 1) := by decide +kernel
theorem dX6_key_21 : decode cX6_key 21 = .ok (.iconst 4, 1) := by decide +kernel
theorem dX6_key_22 : decode cX6_key 22 = .ok (.lshl, 1) := by decide +kernel
theorem dX6_key_23 : decode cX6_key 23 = .ok (.aload_n 0, 1) := by decide +kernel
theorem dX6_key_24 : decode cX6_key 24 = .ok (.getfield 24, 3) := by decide +kernel
theorem dX6_key_27 : decode cX6_key 27 = .ok (.getfield 87, 3) := by decide +kernel
theorem dX6_key_30 : decode cX6_key 30 = .ok (.iconst 1, 1) := by decide +kernel
theorem dX6_key_31 : decode cX6_key 31 = .ok (.iadd, 1) := by decide +kernel
theorem dX6_key_32 : decode cX6_key 32 = .ok (.i2l, 1) := by decide +kernel
theorem dX6_key_33 : decode cX6_key 33 = .ok (.lor, 1) := by decide +kernel
theorem dX6_key_34 : decode cX6_key 34 = .ok (.lstore_n 1, 1) := by decide +kernel
theorem dX6_key_35 : decode cX6_key 35 = .ok (.lload_n 1, 1) := by decide +kernel
theorem dX6_key_36 : decode cX6_key 36 = .ok (.bipush 36, 2) := by decide +kernel
theorem dX6_key_38 : decode cX6_key 38 = .ok (.lshl, 1) := by decide +kernel
theorem dX6_key_39 : decode cX6_key 39 = .ok (.aload_n 0, 1) := by decide +kernel
theorem dX6_key_40 : decode cX6_key 40 = .ok (.getfield 24, 3) := by decide +kernel
theorem dX6_key_43 : decode cX6_key 43 = .ok (.invokevirtual 90, 3) := by decide +kernel
theorem dX6_key_46 : decode cX6_key 46 = .ok (.lor, 1) := by decide +kernel
theorem dX6_key_47 : decode cX6_key 47 = .ok (.lreturn, 1) := by decide +kernel
set_option maxHeartbeats 4000000 in
set_option maxRecDepth 100000 in
theorem s_X6_key_45 (l : Launch) (D : va_G) (K : Nat → ClassId) (ad : Nat → Nat) (mm : Option Nat) (N : Nat) (hNN : 132 ≤ N) (v ar : sI) (al : sL) (hI : XI v) : Met l yX6_key (wM yX6_key cX6_key 3 (some .long)) (rmD 2) (va_Pc [.ref (ad 45)] (wPre D K ad (xG ad K mm) N v ar al)) (vp_Sl (fun r => ∃ z : Int, (-9223372036854775808 ≤ z ∧ z ≤ 9223372036854775807) ∧ r = lI z)) 0 0 (fun _ => False) := by
  refine s_metL (by decide) (Nat.le_of_ble_eq_true rfl) ?_
  intro p e s m below meth c ls args Q hE hB hl kr
  have hE : CallFix p m c cX6_key 3 s args tbG "TaleCourt$Survey" := hE
  obtain ⟨hP, hK, hN⟩ := hB
  have hl : lv_has ls 3 [(0, .ref (ad 45))] := hl
  refine lv_aload_n hE.1 hE.2.1 dX6_key_0 rfl (lv_at hl 0 rfl) ?_
  obtain ⟨z1, hz1, ez1⟩ := iI_of (v 45 4)
  refine x_get (x := .int (v 45 4)) hE hK hP 45 (Nat.lt_of_lt_of_le (by decide) hNN) (xG_6 rfl) rfl hin6 4 (by decide) mw_390 rfl dX6_key_1 ?_
  refine x_top (y := iI (z1)) ez1 ?_
  refine lv_i2l (v := lI (z1)) hE.1 hE.2.1 dX6_key_4 (iI_i2l (by omega)) ?_
  refine lv_lstore_n (lv' := [(1, .long (lI (z1))), (0, .ref (ad 45))]) hE.1 hE.2.1 dX6_key_5 rfl hl (by decide) rfl (fun ls hl => ?_)
  refine lv_lload_n hE.1 hE.2.1 dX6_key_6 rfl (lv_at hl 0 rfl) ?_
  refine lv_bipush (v := iI (9)) hE.1 hE.2.1 dX6_key_7 (by decide) ?_
  obtain ⟨z2, hz2, ez2⟩ := lI_of (lI (z1) <<< ((iI (9)).toInt64 &&& 63))
  refine lv_lshl (v := lI (z2)) hE.1 hE.2.1 dX6_key_9 ez2 ?_
  refine lv_aload_n hE.1 hE.2.1 dX6_key_10 rfl (lv_at hl 1 rfl) ?_
  refine x_get (x := .ref (ad 48)) hE hK hP 45 (Nat.lt_of_lt_of_le (by decide) hNN) (xG_6 rfl) rfl hin6 0 (by decide) mw_386 rfl dX6_key_11 ?_
  obtain ⟨z3, hz3, ez3⟩ := iI_of (v 48 3)
  refine x_get (x := .int (v 48 3)) hE hK hP 48 (Nat.lt_of_lt_of_le (by decide) hNN) (xG_7 rfl) rfl hin7 3 (by decide) mw_306 rfl dX6_key_14 ?_
  refine x_top (y := iI (z3)) ez3 ?_
  refine lv_i2l (v := lI (z3)) hE.1 hE.2.1 dX6_key_17 (iI_i2l (by omega)) ?_
  refine lv_lor hE.1 hE.2.1 dX6_key_18 ?_
  obtain ⟨z4, hz4, ez4⟩ := lI_of (lI (z2) ||| lI (z3))
  refine x_topl ez4 ?_
  refine lv_lstore_n (lv' := [(1, .long (lI (z4))), (0, .ref (ad 45))]) hE.1 hE.2.1 dX6_key_19 rfl hl (by decide) rfl (fun ls hl => ?_)
  refine lv_lload_n hE.1 hE.2.1 dX6_key_20 rfl (lv_at hl 0 rfl) ?_
  refine lv_iconst (v := iI (4)) hE.1 hE.2.1 dX6_key_21 (by decide) ?_
  obtain ⟨z5, hz5, ez5⟩ := lI_of (lI (z4) <<< ((iI (4)).toInt64 &&& 63))
  refine lv_lshl (v := lI (z5)) hE.1 hE.2.1 dX6_key_22 ez5 ?_
  refine lv_aload_n hE.1 hE.2.1 dX6_key_23 rfl (lv_at hl 1 rfl) ?_
  refine x_get (x := .ref (ad 48)) hE hK hP 45 (Nat.lt_of_lt_of_le (by decide) hNN) (xG_6 rfl) rfl hin6 0 (by decide) mw_386 rfl dX6_key_24 ?_
  obtain ⟨z6, hz6, ez6⟩ := iI_of (v 48 4)
  refine x_get (x := .int (v 48 4)) hE hK hP 48 (Nat.lt_of_lt_of_le (by decide) hNN) (xG_7 rfl) rfl hin7 4 (by decide) mw_310 rfl dX6_key_27 ?_
  refine x_top (y := iI (z6)) ez6 ?_
  refine lv_iconst (v := iI (1)) hE.1 hE.2.1 dX6_key_30 (by decide) ?_
  refine lv_iadd hE.1 hE.2.1 dX6_key_31 ?_
  obtain ⟨z7, hz7, ez7⟩ := iI_of (iI (z6) + iI (1))
  refine x_top ez7 ?_
  refine lv_i2l (v := lI (z7)) hE.1 hE.2.1 dX6_key_32 (iI_i2l (by omega)) ?_
  refine lv_lor hE.1 hE.2.1 dX6_key_33 ?_
  obtain ⟨z8, hz8, ez8⟩ := lI_of (lI (z5) ||| lI (z7))
  refine x_topl ez8 ?_
  refine lv_lstore_n (lv' := [(1, .long (lI (z8))), (0, .ref (ad 45))]) hE.1 hE.2.1 dX6_key_34 rfl hl (by decide) rfl (fun ls hl => ?_)
  refine lv_lload_n hE.1 hE.2.1 dX6_key_35 rfl (lv_at hl 0 rfl) ?_
  refine lv_bipush (v := iI (36)) hE.1 hE.2.1 dX6_key_36 (by decide) ?_
  obtain ⟨z9, hz9, ez9⟩ := lI_of (lI (z8) <<< ((iI (36)).toInt64 &&& 63))
  refine lv_lshl (v := lI (z9)) hE.1 hE.2.1 dX6_key_38 ez9 ?_
  refine lv_aload_n hE.1 hE.2.1 dX6_key_39 rfl (lv_at hl 1 rfl) ?_
  refine x_get (x := .ref (ad 48)) hE hK hP 45 (Nat.lt_of_lt_of_le (by decide) hNN) (xG_6 rfl) rfl hin6 0 (by decide) mw_386 rfl dX6_key_40 ?_
  refine x_vpl (nn := 0) (As := []) (rest := [.long (lI (z9))]) hE (s_X7_debts_48 l D K ad mm N hNN v ar al hI  ) wPre_blind (wPre_now hK hN hP) (x_recv hK hP 48 (Nat.lt_of_lt_of_le (by decide) hNN) (xG_7 rfl) rfl) rfl mw_921 mw_922 mw_923 mw_117 mw_924 (by decide +kernel) ⟨by decide, by decide⟩ hl.1 rfl (Nat.le_of_ble_eq_true rfl) ⟨Nat.zero_le _, Nat.zero_le _⟩ dX6_key_43 (fun r10 hr10 => ?_)
  obtain ⟨z10, hz10, rfl⟩ := hr10
  refine lv_lor hE.1 hE.2.1 dX6_key_46 ?_
  obtain ⟨z11, hz11, ez11⟩ := lI_of (lI (z9) ||| lI (z10))
  refine x_topl ez11 ?_
  exact kr _ _ _ ⟨z11, by omega, rfl⟩ dX6_key_47

set_option maxHeartbeats 4000000 in
set_option maxRecDepth 100000 in
theorem s_X7_isWhole_48 (l : Launch) (D : va_G) (K : Nat → ClassId) (ad : Nat → Nat) (mm : Option Nat) (N : Nat) (hNN : 132 ≤ N) (v ar : sI) (al : sL) (hI : XI v) : Met l yX7_isWhole (wM yX7_isWhole cX7_isWhole 1 (some .boolean)) (rmD 1) (va_Pc [.ref (ad 48)] (wPre D K ad (xG ad K mm) N v ar al)) (vp_Si (fun r => ∃ z : Int, (0 ≤ z ∧ z ≤ 1) ∧ r = iI z)) 0 0 (fun _ => False) := by
  refine s_metP (by decide) (Nat.le_of_ble_eq_true rfl) ?_
  intro p e s m below meth c ls args Q hE hB hl kr
  have hE : CallFix p m c cX7_isWhole 1 s args tbG "TaleCourt$Telling" := hE
  obtain ⟨hP, hK, hN⟩ := hB
  have hl : lv_has ls 1 [(0, .ref (ad 48))] := hl
  refine lv_aload_n hE.1 hE.2.1 dX7_isWhole_0 rfl (lv_at hl 0 rfl) ?_
  obtain ⟨z1, hz1, ez1⟩ := iI_of (v 48 4)
  refine x_get (x := .int (v 48 4)) hE hK hP 48 (Nat.lt_of_lt_of_le (by decide) hNN) (xG_7 rfl) rfl hin7 4 (by decide) mw_309 rfl dX7_isWhole_1 ?_
  refine x_top (y := iI (z1)) ez1 ?_
  refine s_if_lt (a := z1) (tgt := 35) hE.1 hE.2.1 (by omega) dX7_isWhole_4 (by decide) (fun c2 => ?_) (fun c2 => ?_)
  · skip
    refine lv_iconst (v := iI (0)) hE.1 hE.2.1 dX7_isWhole_35 (by decide) ?_
    exact kr _ _ _ (nar01 (by omega)) ⟨0, by omega, rfl⟩ dX7_isWhole_36
  · skip
    refine lv_aload_n hE.1 hE.2.1 dX7_isWhole_7 rfl (lv_at hl 0 rfl) ?_
    refine x_vp (nn := 0) (As := []) (rest := []) hE (s_X7_unpaid_48 l D K ad mm N hNN v ar al hI  ) wPre_blind (wPre_now hK hN hP) (x_recv hK hP 48 (Nat.lt_of_lt_of_le (by decide) hNN) (xG_7 rfl) rfl) rfl mw_754 mw_755 mw_756 mw_117 mw_757 (by decide +kernel) ⟨by decide, by decide⟩ hl.1 rfl (Nat.le_of_ble_eq_true rfl) ⟨Nat.zero_le _, Nat.zero_le _⟩ dX7_isWhole_8 (fun r3 hr3 => ?_)
    obtain ⟨z3, hz3, rfl⟩ := hr3
    refine s_if_ne (a := z3) (tgt := 35) hE.1 hE.2.1 (by omega) dX7_isWhole_11 (by decide) (fun c4 => ?_) (fun c4 => ?_)
    · skip
      refine lv_iconst (v := iI (0)) hE.1 hE.2.1 dX7_isWhole_35 (by decide) ?_
      exact kr _ _ _ (nar01 (by omega)) ⟨0, by omega, rfl⟩ dX7_isWhole_36
    · skip
      refine lv_aload_n hE.1 hE.2.1 dX7_isWhole_14 rfl (lv_at hl 0 rfl) ?_
      refine x_get (x := .ref (ad 3)) hE hK hP 48 (Nat.lt_of_lt_of_le (by decide) hNN) (xG_7 rfl) rfl hin7 6 (by decide) mw_315 rfl dX7_isWhole_15 ?_
      obtain ⟨z5, hz5, ez5⟩ := iI_of (v 3 10)
      refine x_get (x := .int (v 3 10)) hE hK hP 3 (Nat.lt_of_lt_of_le (by decide) hNN) (xG_1 rfl) rfl hin1 10 (by decide) mw_217 rfl dX7_isWhole_18 ?_
      refine x_top (y := iI (z5)) ez5 ?_
      refine lv_aload_n hE.1 hE.2.1 dX7_isWhole_21 rfl (lv_at hl 0 rfl) ?_
      refine x_get (x := .int (v 48 4)) hE hK hP 48 (Nat.lt_of_lt_of_le (by decide) hNN) (xG_7 rfl) rfl hin7 4 (by decide) mw_309 rfl dX7_isWhole_22 ?_
      refine x_top (y := iI (z1)) ez1 ?_
      refine lv_ishr hE.1 hE.2.1 dX7_isWhole_25 ?_
      obtain ⟨z6, hz6, ez6⟩ := iI_of (iI (z5) >>> (iI (z1) &&& 31))
      refine x_top ez6 ?_
      refine lv_iconst (v := iI (1)) hE.1 hE.2.1 dX7_isWhole_26 (by decide) ?_
      refine lv_iand hE.1 hE.2.1 dX7_isWhole_27 ?_
      obtain ⟨z7, hz7, ez7⟩ := iI_and (iI (z6)) (iI (1)) 1 (by decide)
      refine x_top ez7 ?_
      refine s_if_ne (a := z7) (tgt := 35) hE.1 hE.2.1 (by omega) dX7_isWhole_28 (by decide) (fun c8 => ?_) (fun c8 => ?_)
      · skip
        refine lv_iconst (v := iI (0)) hE.1 hE.2.1 dX7_isWhole_35 (by decide) ?_
        exact kr _ _ _ (nar01 (by omega)) ⟨0, by omega, rfl⟩ dX7_isWhole_36
      · skip
        refine lv_iconst (v := iI (1)) hE.1 hE.2.1 dX7_isWhole_31 (by decide) ?_
        refine lv_goto (tgt := 36) hE.1 hE.2.1 dX7_isWhole_32 (by decide) ?_
        exact kr _ _ _ (nar01 (by omega)) ⟨1, by omega, rfl⟩ dX7_isWhole_36

theorem dX6_own_0 : decode cX6_own 0 = .ok (.aload_n 0, 1) := by decide +kernel
theorem dX6_own_1 : decode cX6_own 1 = .ok (.getfield 36, 3) := by decide +kernel
theorem dX6_own_4 : decode cX6_own 4 = .ok (.ifCond .ne 5, 3) := by decide +kernel
theorem dX6_own_7 : decode cX6_own 7 = .ok (.iload_n 1, 1) := by decide +kernel
theorem dX6_own_8 : decode cX6_own 8 = .ok (.ireturn, 1) := by decide +kernel
theorem dX6_own_9 : decode cX6_own 9 = .ok (.aload_n 0, 1) := by decide +kernel
theorem dX6_own_10 : decode cX6_own 10 = .ok (.getfield 36, 3) := by decide +kernel
theorem dX6_own_13 : decode cX6_own 13 = .ok (.iconst 4, 1) := by decide +kernel
theorem dX6_own_14 : decode cX6_own 14 = .ok (.if_icmp .ne 17, 3) := by decide +kernel
theorem dX6_own_17 : decode cX6_own 17 = .ok (.iload_n 1, 1) := by decide +kernel
theorem dX6_own_18 : decode cX6_own 18 = .ok (.aload_n 0, 1) := by decide +kernel
theorem dX6_own_19 : decode cX6_own 19 = .ok (.getfield 40, 3) := by decide +kernel
theorem dX6_own_22 : decode cX6_own 22 = .ok (.if_icmp .ne 7, 3) := by decide +kernel
theorem dX6_own_25 : decode cX6_own 25 = .ok (.iconst 1, 1) := by decide +kernel
theorem dX6_own_26 : decode cX6_own 26 = .ok (.goto 4, 3) := by decide +kernel
theorem dX6_own_29 : decode cX6_own 29 = .ok (.iconst 0, 1) := by decide +kernel
theorem dX6_own_30 : decode cX6_own 30 = .ok (.ireturn, 1) := by decide +kernel
theorem dX6_own_31 : decode cX6_own 31 = .ok (.aload_n 0, 1) := by decide +kernel
theorem dX6_own_32 : decode cX6_own 32 = .ok (.getfield 24, 3) := by decide +kernel
theorem dX6_own_35 : decode cX6_own 35 = .ok (.invokevirtual 101, 3) := by decide +kernel
theorem dX6_own_38 : decode cX6_own 38 = .ok (.istore_n 2, 1) := by decide +kernel
theorem dX6_own_39 : decode cX6_own 39 = .ok (.aload_n 0, 1) := by decide +kernel
theorem dX6_own_40 : decode cX6_own 40 = .ok (.getfield 36, 3) := by decide +kernel
theorem dX6_own_43 : decode cX6_own 43 = .ok (.tableswitch 145 1 7 #[41, 51, 67, 145, 145, 91, 115], 41) := by decide +kernel
theorem dX6_own_84 : decode cX6_own 84 = .ok (.iload_n 2, 1) := by decide +kernel
theorem dX6_own_85 : decode cX6_own 85 = .ok (.ifCond .eq 7, 3) := by decide +kernel
theorem dX6_own_88 : decode cX6_own 88 = .ok (.iload_n 1, 1) := by decide +kernel
theorem dX6_own_89 : decode cX6_own 89 = .ok (.goto 4, 3) := by decide +kernel
theorem dX6_own_92 : decode cX6_own 92 = .ok (.iconst (-1), 1) := by decide +kernel
theorem dX6_own_93 : decode cX6_own 93 = .ok (.ireturn, 1) := by decide +kernel
theorem dX6_own_94 : decode cX6_own 94 = .ok (.iload_n 2, 1) := by decide +kernel
theorem dX6_own_95 : decode cX6_own 95 = .ok (.ifCond .eq 13, 3) := by decide +kernel
theorem dX6_own_98 : decode cX6_own 98 = .ok (.aload_n 0, 1) := by decide +kernel
theorem dX6_own_99 : decode cX6_own 99 = .ok (.getfield 24, 3) := by decide +kernel
theorem dX6_own_102 : decode cX6_own 102 = .ok (.getfield 105, 3) := by decide +kernel
theorem dX6_own_105 : decode cX6_own 105 = .ok (.goto 4, 3) := by decide +kernel
theorem dX6_own_108 : decode cX6_own 108 = .ok (.iconst (-1), 1) := by decide +kernel
theorem dX6_own_109 : decode cX6_own 109 = .ok (.ireturn, 1) := by decide +kernel
theorem dX6_own_110 : decode cX6_own 110 = .ok (.iload_n 2, 1) := by decide +kernel
theorem dX6_own_111 : decode cX6_own 111 = .ok (.ifCond .eq 21, 3) := by decide +kernel
theorem dX6_own_114 : decode cX6_own 114 = .ok (.aload_n 0, 1) := by decide +kernel
theorem dX6_own_115 : decode cX6_own 115 = .ok (.getfield 24, 3) := by decide +kernel
theorem dX6_own_118 : decode cX6_own 118 = .ok (.getfield 105, 3) := by decide +kernel
theorem dX6_own_121 : decode cX6_own 121 = .ok (.aload_n 0, 1) := by decide +kernel
theorem dX6_own_122 : decode cX6_own 122 = .ok (.getfield 40, 3) := by decide +kernel
theorem dX6_own_125 : decode cX6_own 125 = .ok (.if_icmp .lt 7, 3) := by decide +kernel
theorem dX6_own_128 : decode cX6_own 128 = .ok (.iload_n 1, 1) := by decide +kernel
theorem dX6_own_129 : decode cX6_own 129 = .ok (.goto 4, 3) := by decide +kernel
theorem dX6_own_132 : decode cX6_own 132 = .ok (.iconst (-1), 1) := by decide +kernel
theorem dX6_own_133 : decode cX6_own 133 = .ok (.ireturn, 1) := by decide +kernel
theorem dX6_own_134 : decode cX6_own 134 = .ok (.iload_n 2, 1) := by decide +kernel
theorem dX6_own_135 : decode cX6_own 135 = .ok (.ifCond .eq 21, 3) := by decide +kernel
theorem dX6_own_138 : decode cX6_own 138 = .ok (.aload_n 0, 1) := by decide +kernel
theorem dX6_own_139 : decode cX6_own 139 = .ok (.getfield 24, 3) := by decide +kernel
theorem dX6_own_142 : decode cX6_own 142 = .ok (.getfield 87, 3) := by decide +kernel
theorem dX6_own_145 : decode cX6_own 145 = .ok (.aload_n 0, 1) := by decide +kernel
theorem dX6_own_146 : decode cX6_own 146 = .ok (.getfield 40, 3) := by decide +kernel
theorem dX6_own_149 : decode cX6_own 149 = .ok (.if_icmp .ne 7, 3) := by decide +kernel
theorem dX6_own_152 : decode cX6_own 152 = .ok (.iconst 1, 1) := by decide +kernel
theorem dX6_own_153 : decode cX6_own 153 = .ok (.goto 4, 3) := by decide +kernel
theorem dX6_own_156 : decode cX6_own 156 = .ok (.iconst 0, 1) := by decide +kernel
theorem dX6_own_157 : decode cX6_own 157 = .ok (.ireturn, 1) := by decide +kernel
theorem dX6_own_158 : decode cX6_own 158 = .ok (.iload_n 2, 1) := by decide +kernel
theorem dX6_own_159 : decode cX6_own 159 = .ok (.ifCond .eq 27, 3) := by decide +kernel
theorem dX6_own_162 : decode cX6_own 162 = .ok (.aload_n 0, 1) := by decide +kernel
theorem dX6_own_163 : decode cX6_own 163 = .ok (.getfield 28, 3) := by decide +kernel
theorem dX6_own_166 : decode cX6_own 166 = .ok (.getfield 108, 3) := by decide +kernel
theorem dX6_own_169 : decode cX6_own 169 = .ok (.aload_n 0, 1) := by decide +kernel
theorem dX6_own_170 : decode cX6_own 170 = .ok (.getfield 24, 3) := by decide +kernel
theorem dX6_own_173 : decode cX6_own 173 = .ok (.getfield 84, 3) := by decide +kernel
theorem dX6_own_176 : decode cX6_own 176 = .ok (.iconst (-1), 1) := by decide +kernel
theorem dX6_own_177 : decode cX6_own 177 = .ok (.ixor, 1) := by decide +kernel
theorem dX6_own_178 : decode cX6_own 178 = .ok (.iand, 1) := by decide +kernel
theorem dX6_own_179 : decode cX6_own 179 = .ok (.ifCond .ne 7, 3) := by decide +kernel
theorem dX6_own_182 : decode cX6_own 182 = .ok (.iconst 1, 1) := by decide +kernel
theorem dX6_own_183 : decode cX6_own 183 = .ok (.goto 4, 3) := by decide +kernel
theorem dX6_own_186 : decode cX6_own 186 = .ok (.iconst 0, 1) := by decide +kernel
theorem dX6_own_187 : decode cX6_own 187 = .ok (.ireturn, 1) := by decide +kernel
theorem dX6_own_188 : decode cX6_own 188 = .ok (.iload_n 2, 1) := by decide +kernel
theorem dX6_own_189 : decode cX6_own 189 = .ok (.ifCond .eq 7, 3) := by decide +kernel
theorem dX6_own_192 : decode cX6_own 192 = .ok (.iconst 1, 1) := by decide +kernel
theorem dX6_own_193 : decode cX6_own 193 = .ok (.goto 4, 3) := by decide +kernel
theorem dX6_own_196 : decode cX6_own 196 = .ok (.iconst 0, 1) := by decide +kernel
theorem dX6_own_197 : decode cX6_own 197 = .ok (.ireturn, 1) := by decide +kernel
set_option maxHeartbeats 4000000 in
set_option maxRecDepth 100000 in
theorem s_X6_own_45 (l : Launch) (D : va_G) (K : Nat → ClassId) (ad : Nat → Nat) (mm : Option Nat) (N : Nat) (hNN : 132 ≤ N) (v ar : sI) (al : sL) (hI : XI v) (z_1 : Int) (hz_1 : -2147483648 ≤ z_1 ∧ z_1 ≤ 2147483647) : Met l yX6_own (wM yX6_own cX6_own 3 (some .int)) (rmD 2) (va_Pc [.ref (ad 45), .int (iI (z_1))] (wPre D K ad (xG ad K mm) N v ar al)) (vp_Si (fun r => ∃ z : Int, (-2147483648 ≤ z ∧ z ≤ 2147483647) ∧ r = iI z)) 0 0 (fun _ => False) := by
  refine s_metP (by decide) (Nat.le_of_ble_eq_true rfl) ?_
  intro p e s m below meth c ls args Q hE hB hl kr
  have hE : CallFix p m c cX6_own 3 s args tbG "TaleCourt$Survey" := hE
  obtain ⟨hP, hK, hN⟩ := hB
  have hl : lv_has ls 3 [(0, .ref (ad 45)), (1, .int (iI (z_1)))] := hl
  refine lv_aload_n hE.1 hE.2.1 dX6_own_0 rfl (lv_at hl 0 rfl) ?_
  obtain ⟨z1, hz1, ez1⟩ := iI_of (v 45 5)
  refine x_get (x := .int (v 45 5)) hE hK hP 45 (Nat.lt_of_lt_of_le (by decide) hNN) (xG_6 rfl) rfl hin6 5 (by decide) mw_391 rfl dX6_own_1 ?_
  refine x_top (y := iI (z1)) ez1 ?_
  refine s_if_ne (a := z1) (tgt := 9) hE.1 hE.2.1 (by omega) dX6_own_4 (by decide) (fun c2 => ?_) (fun c2 => ?_)
  · skip
    refine lv_aload_n hE.1 hE.2.1 dX6_own_9 rfl (lv_at hl 0 rfl) ?_
    refine x_get (x := .int (v 45 5)) hE hK hP 45 (Nat.lt_of_lt_of_le (by decide) hNN) (xG_6 rfl) rfl hin6 5 (by decide) mw_391 rfl dX6_own_10 ?_
    refine x_top (y := iI (z1)) ez1 ?_
    refine lv_iconst (v := iI (4)) hE.1 hE.2.1 dX6_own_13 (by decide) ?_
    refine s_icmp_ne (a := z1) (b := 4) (tgt := 31) hE.1 hE.2.1 (by omega) (by omega) dX6_own_14 (by decide) (fun c3 => ?_) (fun c3 => ?_)
    · skip
      refine lv_aload_n hE.1 hE.2.1 dX6_own_31 rfl (lv_at hl 0 rfl) ?_
      refine x_get (x := .ref (ad 48)) hE hK hP 45 (Nat.lt_of_lt_of_le (by decide) hNN) (xG_6 rfl) rfl hin6 0 (by decide) mw_386 rfl dX6_own_32 ?_
      refine x_vp (nn := 0) (As := []) (rest := []) hE (s_X7_isWhole_48 l D K ad mm N hNN v ar al hI  ) wPre_blind (wPre_now hK hN hP) (x_recv hK hP 48 (Nat.lt_of_lt_of_le (by decide) hNN) (xG_7 rfl) rfl) rfl mw_931 mw_873 mw_874 mw_117 mw_875 (by decide +kernel) ⟨by decide, by decide⟩ hl.1 rfl (Nat.le_of_ble_eq_true rfl) ⟨Nat.zero_le _, Nat.zero_le _⟩ dX6_own_35 (fun r4 hr4 => ?_)
      obtain ⟨z4, hz4, rfl⟩ := hr4
      refine lv_istore_n (lv' := [(2, .int (iI (z4))), (0, .ref (ad 45)), (1, .int (iI (z_1)))]) hE.1 hE.2.1 dX6_own_38 rfl hl (by decide) rfl (fun ls hl => ?_)
      refine lv_aload_n hE.1 hE.2.1 dX6_own_39 rfl (lv_at hl 1 rfl) ?_
      refine x_get (x := .int (v 45 5)) hE hK hP 45 (Nat.lt_of_lt_of_le (by decide) hNN) (xG_6 rfl) rfl hin6 5 (by decide) mw_391 rfl dX6_own_40 ?_
      refine x_top (y := iI (z1)) ez1 ?_
      by_cases ho5 : z1 < 1 ∨ 7 < z1
      · skip
        refine s_tabOut (a := z1) (tgt := 188) hE.1 hE.2.1 (by omega) dX6_own_43 ho5 (by decide) ?_
        refine lv_iload_n hE.1 hE.2.1 dX6_own_188 rfl (lv_at hl 0 rfl) ?_
        refine s_if_eq (a := z4) (tgt := 196) hE.1 hE.2.1 (by omega) dX6_own_189 (by decide) (fun c6 => ?_) (fun c6 => ?_)
        · skip
          refine lv_iconst (v := iI (0)) hE.1 hE.2.1 dX6_own_196 (by decide) ?_
          exact kr _ _ _ rfl ⟨0, by omega, rfl⟩ dX6_own_197
        · skip
          refine lv_iconst (v := iI (1)) hE.1 hE.2.1 dX6_own_192 (by decide) ?_
          refine lv_goto (tgt := 197) hE.1 hE.2.1 dX6_own_193 (by decide) ?_
          exact kr _ _ _ rfl ⟨1, by omega, rfl⟩ dX6_own_197
      · skip
        rcases (show z1 = 1 ∨ z1 = 2 ∨ z1 = 3 ∨ z1 = 4 ∨ z1 = 5 ∨ z1 = 6 ∨ z1 = 7 by omega) with rfl | rfl | rfl | rfl | rfl | rfl | rfl
        · skip
          refine lv_tableIn (off := 41) (tgt := 84) hE.1 hE.2.1 dX6_own_43 (by decide) (by decide) (by decide) (by decide) ?_
          refine lv_iload_n hE.1 hE.2.1 dX6_own_84 rfl (lv_at hl 0 rfl) ?_
          refine s_if_eq (a := z4) (tgt := 92) hE.1 hE.2.1 (by omega) dX6_own_85 (by decide) (fun c7 => ?_) (fun c7 => ?_)
          · skip
            refine lv_iconst (v := iI (-1)) hE.1 hE.2.1 dX6_own_92 (by decide) ?_
            exact kr _ _ _ rfl ⟨-1, by omega, rfl⟩ dX6_own_93
          · skip
            refine lv_iload_n hE.1 hE.2.1 dX6_own_88 rfl (lv_at hl 2 rfl) ?_
            refine lv_goto (tgt := 93) hE.1 hE.2.1 dX6_own_89 (by decide) ?_
            exact kr _ _ _ rfl ⟨z_1, by omega, rfl⟩ dX6_own_93
        · skip
          refine lv_tableIn (off := 51) (tgt := 94) hE.1 hE.2.1 dX6_own_43 (by decide) (by decide) (by decide) (by decide) ?_
          refine lv_iload_n hE.1 hE.2.1 dX6_own_94 rfl (lv_at hl 0 rfl) ?_
          refine s_if_eq (a := z4) (tgt := 108) hE.1 hE.2.1 (by omega) dX6_own_95 (by decide) (fun c8 => ?_) (fun c8 => ?_)
          · skip
            refine lv_iconst (v := iI (-1)) hE.1 hE.2.1 dX6_own_108 (by decide) ?_
            exact kr _ _ _ rfl ⟨-1, by omega, rfl⟩ dX6_own_109
          · skip
            refine lv_aload_n hE.1 hE.2.1 dX6_own_98 rfl (lv_at hl 1 rfl) ?_
            refine x_get (x := .ref (ad 48)) hE hK hP 45 (Nat.lt_of_lt_of_le (by decide) hNN) (xG_6 rfl) rfl hin6 0 (by decide) mw_386 rfl dX6_own_99 ?_
            obtain ⟨z9, hz9, ez9⟩ := iI_of (v 48 5)
            refine x_get (x := .int (v 48 5)) hE hK hP 48 (Nat.lt_of_lt_of_le (by decide) hNN) (xG_7 rfl) rfl hin7 5 (by decide) mw_313 rfl dX6_own_102 ?_
            refine x_top (y := iI (z9)) ez9 ?_
            refine lv_goto (tgt := 109) hE.1 hE.2.1 dX6_own_105 (by decide) ?_
            exact kr _ _ _ rfl ⟨z9, by omega, rfl⟩ dX6_own_109
        · skip
          refine lv_tableIn (off := 67) (tgt := 110) hE.1 hE.2.1 dX6_own_43 (by decide) (by decide) (by decide) (by decide) ?_
          refine lv_iload_n hE.1 hE.2.1 dX6_own_110 rfl (lv_at hl 0 rfl) ?_
          refine s_if_eq (a := z4) (tgt := 132) hE.1 hE.2.1 (by omega) dX6_own_111 (by decide) (fun c10 => ?_) (fun c10 => ?_)
          · skip
            refine lv_iconst (v := iI (-1)) hE.1 hE.2.1 dX6_own_132 (by decide) ?_
            exact kr _ _ _ rfl ⟨-1, by omega, rfl⟩ dX6_own_133
          · skip
            refine lv_aload_n hE.1 hE.2.1 dX6_own_114 rfl (lv_at hl 1 rfl) ?_
            refine x_get (x := .ref (ad 48)) hE hK hP 45 (Nat.lt_of_lt_of_le (by decide) hNN) (xG_6 rfl) rfl hin6 0 (by decide) mw_386 rfl dX6_own_115 ?_
            obtain ⟨z11, hz11, ez11⟩ := iI_of (v 48 5)
            refine x_get (x := .int (v 48 5)) hE hK hP 48 (Nat.lt_of_lt_of_le (by decide) hNN) (xG_7 rfl) rfl hin7 5 (by decide) mw_313 rfl dX6_own_118 ?_
            refine x_top (y := iI (z11)) ez11 ?_
            refine lv_aload_n hE.1 hE.2.1 dX6_own_121 rfl (lv_at hl 1 rfl) ?_
            obtain ⟨z12, hz12, ez12⟩ := iI_of (v 45 6)
            refine x_get (x := .int (v 45 6)) hE hK hP 45 (Nat.lt_of_lt_of_le (by decide) hNN) (xG_6 rfl) rfl hin6 6 (by decide) mw_392 rfl dX6_own_122 ?_
            refine x_top (y := iI (z12)) ez12 ?_
            refine s_icmp_lt (a := z11) (b := z12) (tgt := 132) hE.1 hE.2.1 (by omega) (by omega) dX6_own_125 (by decide) (fun c13 => ?_) (fun c13 => ?_)
            · skip
              refine lv_iconst (v := iI (-1)) hE.1 hE.2.1 dX6_own_132 (by decide) ?_
              exact kr _ _ _ rfl ⟨-1, by omega, rfl⟩ dX6_own_133
            · skip
              refine lv_iload_n hE.1 hE.2.1 dX6_own_128 rfl (lv_at hl 2 rfl) ?_
              refine lv_goto (tgt := 133) hE.1 hE.2.1 dX6_own_129 (by decide) ?_
              exact kr _ _ _ rfl ⟨z_1, by omega, rfl⟩ dX6_own_133
        · skip
          refine lv_tableIn (off := 145) (tgt := 188) hE.1 hE.2.1 dX6_own_43 (by decide) (by decide) (by decide) (by decide) ?_
          refine lv_iload_n hE.1 hE.2.1 dX6_own_188 rfl (lv_at hl 0 rfl) ?_
          refine s_if_eq (a := z4) (tgt := 196) hE.1 hE.2.1 (by omega) dX6_own_189 (by decide) (fun c14 => ?_) (fun c14 => ?_)
          · skip
            refine lv_iconst (v := iI (0)) hE.1 hE.2.1 dX6_own_196 (by decide) ?_
            exact kr _ _ _ rfl ⟨0, by omega, rfl⟩ dX6_own_197
          · skip
            refine lv_iconst (v := iI (1)) hE.1 hE.2.1 dX6_own_192 (by decide) ?_
            refine lv_goto (tgt := 197) hE.1 hE.2.1 dX6_own_193 (by decide) ?_
            exact kr _ _ _ rfl ⟨1, by omega, rfl⟩ dX6_own_197
        · skip
          refine lv_tableIn (off := 145) (tgt := 188) hE.1 hE.2.1 dX6_own_43 (by decide) (by decide) (by decide) (by decide) ?_
          refine lv_iload_n hE.1 hE.2.1 dX6_own_188 rfl (lv_at hl 0 rfl) ?_
          refine s_if_eq (a := z4) (tgt := 196) hE.1 hE.2.1 (by omega) dX6_own_189 (by decide) (fun c15 => ?_) (fun c15 => ?_)
          · skip
            refine lv_iconst (v := iI (0)) hE.1 hE.2.1 dX6_own_196 (by decide) ?_
            exact kr _ _ _ rfl ⟨0, by omega, rfl⟩ dX6_own_197
          · skip
            refine lv_iconst (v := iI (1)) hE.1 hE.2.1 dX6_own_192 (by decide) ?_
            refine lv_goto (tgt := 197) hE.1 hE.2.1 dX6_own_193 (by decide) ?_
            exact kr _ _ _ rfl ⟨1, by omega, rfl⟩ dX6_own_197
        · skip
          refine lv_tableIn (off := 91) (tgt := 134) hE.1 hE.2.1 dX6_own_43 (by decide) (by decide) (by decide) (by decide) ?_
          refine lv_iload_n hE.1 hE.2.1 dX6_own_134 rfl (lv_at hl 0 rfl) ?_
          refine s_if_eq (a := z4) (tgt := 156) hE.1 hE.2.1 (by omega) dX6_own_135 (by decide) (fun c16 => ?_) (fun c16 => ?_)
          · skip
            refine lv_iconst (v := iI (0)) hE.1 hE.2.1 dX6_own_156 (by decide) ?_
            exact kr _ _ _ rfl ⟨0, by omega, rfl⟩ dX6_own_157
          · skip
            refine lv_aload_n hE.1 hE.2.1 dX6_own_138 rfl (lv_at hl 1 rfl) ?_
            refine x_get (x := .ref (ad 48)) hE hK hP 45 (Nat.lt_of_lt_of_le (by decide) hNN) (xG_6 rfl) rfl hin6 0 (by decide) mw_386 rfl dX6_own_139 ?_
            obtain ⟨z17, hz17, ez17⟩ := iI_of (v 48 4)
            refine x_get (x := .int (v 48 4)) hE hK hP 48 (Nat.lt_of_lt_of_le (by decide) hNN) (xG_7 rfl) rfl hin7 4 (by decide) mw_310 rfl dX6_own_142 ?_
            refine x_top (y := iI (z17)) ez17 ?_
            refine lv_aload_n hE.1 hE.2.1 dX6_own_145 rfl (lv_at hl 1 rfl) ?_
            obtain ⟨z18, hz18, ez18⟩ := iI_of (v 45 6)
            refine x_get (x := .int (v 45 6)) hE hK hP 45 (Nat.lt_of_lt_of_le (by decide) hNN) (xG_6 rfl) rfl hin6 6 (by decide) mw_392 rfl dX6_own_146 ?_
            refine x_top (y := iI (z18)) ez18 ?_
            refine s_icmp_ne (a := z17) (b := z18) (tgt := 156) hE.1 hE.2.1 (by omega) (by omega) dX6_own_149 (by decide) (fun c19 => ?_) (fun c19 => ?_)
            · skip
              refine lv_iconst (v := iI (0)) hE.1 hE.2.1 dX6_own_156 (by decide) ?_
              exact kr _ _ _ rfl ⟨0, by omega, rfl⟩ dX6_own_157
            · skip
              refine lv_iconst (v := iI (1)) hE.1 hE.2.1 dX6_own_152 (by decide) ?_
              refine lv_goto (tgt := 157) hE.1 hE.2.1 dX6_own_153 (by decide) ?_
              exact kr _ _ _ rfl ⟨1, by omega, rfl⟩ dX6_own_157
        · skip
          refine lv_tableIn (off := 115) (tgt := 158) hE.1 hE.2.1 dX6_own_43 (by decide) (by decide) (by decide) (by decide) ?_
          refine lv_iload_n hE.1 hE.2.1 dX6_own_158 rfl (lv_at hl 0 rfl) ?_
          refine s_if_eq (a := z4) (tgt := 186) hE.1 hE.2.1 (by omega) dX6_own_159 (by decide) (fun c20 => ?_) (fun c20 => ?_)
          · skip
            refine lv_iconst (v := iI (0)) hE.1 hE.2.1 dX6_own_186 (by decide) ?_
            exact kr _ _ _ rfl ⟨0, by omega, rfl⟩ dX6_own_187
          · skip
            refine lv_aload_n hE.1 hE.2.1 dX6_own_162 rfl (lv_at hl 1 rfl) ?_
            refine x_get (x := .ref (ad 39)) hE hK hP 45 (Nat.lt_of_lt_of_le (by decide) hNN) (xG_6 rfl) rfl hin6 1 (by decide) mw_387 rfl dX6_own_163 ?_
            obtain ⟨z21, hz21, ez21⟩ := iI_of (v 39 0)
            refine x_get (x := .int (v 39 0)) hE hK hP 39 (Nat.lt_of_lt_of_le (by decide) hNN) (xG_0 rfl) rfl hin0 0 (by decide) mw_359 rfl dX6_own_166 ?_
            refine x_top (y := iI (z21)) ez21 ?_
            refine lv_aload_n hE.1 hE.2.1 dX6_own_169 rfl (lv_at hl 1 rfl) ?_
            refine x_get (x := .ref (ad 48)) hE hK hP 45 (Nat.lt_of_lt_of_le (by decide) hNN) (xG_6 rfl) rfl hin6 0 (by decide) mw_386 rfl dX6_own_170 ?_
            obtain ⟨z22, hz22, ez22⟩ := iI_of (v 48 3)
            refine x_get (x := .int (v 48 3)) hE hK hP 48 (Nat.lt_of_lt_of_le (by decide) hNN) (xG_7 rfl) rfl hin7 3 (by decide) mw_306 rfl dX6_own_173 ?_
            refine x_top (y := iI (z22)) ez22 ?_
            refine lv_iconst (v := iI (-1)) hE.1 hE.2.1 dX6_own_176 (by decide) ?_
            refine lv_ixor hE.1 hE.2.1 dX6_own_177 ?_
            obtain ⟨z23, hz23, ez23⟩ := iI_of (iI (z22) ^^^ iI (-1))
            refine x_top ez23 ?_
            refine lv_iand hE.1 hE.2.1 dX6_own_178 ?_
            obtain ⟨z24, hz24, ez24⟩ := iI_of (iI (z21) &&& iI (z23))
            refine x_top ez24 ?_
            refine s_if_ne (a := z24) (tgt := 186) hE.1 hE.2.1 (by omega) dX6_own_179 (by decide) (fun c25 => ?_) (fun c25 => ?_)
            · skip
              refine lv_iconst (v := iI (0)) hE.1 hE.2.1 dX6_own_186 (by decide) ?_
              exact kr _ _ _ rfl ⟨0, by omega, rfl⟩ dX6_own_187
            · skip
              refine lv_iconst (v := iI (1)) hE.1 hE.2.1 dX6_own_182 (by decide) ?_
              refine lv_goto (tgt := 187) hE.1 hE.2.1 dX6_own_183 (by decide) ?_
              exact kr _ _ _ rfl ⟨1, by omega, rfl⟩ dX6_own_187
    · skip
      refine lv_iload_n hE.1 hE.2.1 dX6_own_17 rfl (lv_at hl 1 rfl) ?_
      refine lv_aload_n hE.1 hE.2.1 dX6_own_18 rfl (lv_at hl 0 rfl) ?_
      obtain ⟨z26, hz26, ez26⟩ := iI_of (v 45 6)
      refine x_get (x := .int (v 45 6)) hE hK hP 45 (Nat.lt_of_lt_of_le (by decide) hNN) (xG_6 rfl) rfl hin6 6 (by decide) mw_392 rfl dX6_own_19 ?_
      refine x_top (y := iI (z26)) ez26 ?_
      refine s_icmp_ne (a := z_1) (b := z26) (tgt := 29) hE.1 hE.2.1 (by omega) (by omega) dX6_own_22 (by decide) (fun c27 => ?_) (fun c27 => ?_)
      · skip
        refine lv_iconst (v := iI (0)) hE.1 hE.2.1 dX6_own_29 (by decide) ?_
        exact kr _ _ _ rfl ⟨0, by omega, rfl⟩ dX6_own_30
      · skip
        refine lv_iconst (v := iI (1)) hE.1 hE.2.1 dX6_own_25 (by decide) ?_
        refine lv_goto (tgt := 30) hE.1 hE.2.1 dX6_own_26 (by decide) ?_
        exact kr _ _ _ rfl ⟨1, by omega, rfl⟩ dX6_own_30
  · skip
    refine lv_iload_n hE.1 hE.2.1 dX6_own_7 rfl (lv_at hl 1 rfl) ?_
    exact kr _ _ _ rfl ⟨z_1, by omega, rfl⟩ dX6_own_8

set_option maxHeartbeats 4000000 in
set_option maxRecDepth 100000 in
theorem s_X7_pressing_48 (l : Launch) (D : va_G) (K : Nat → ClassId) (ad : Nat → Nat) (mm : Option Nat) (N : Nat) (hNN : 132 ≤ N) (v ar : sI) (al : sL) (hI : XI v) : Met l yX7_pressing (wM yX7_pressing cX7_pressing 3 (some .int)) (rmD 1) (va_Pc [.ref (ad 48)] (wPre D K ad (xG ad K mm) N v ar al)) (vp_Si (fun r => ∃ z : Int, (-2147483648 ≤ z ∧ z ≤ 2147483647) ∧ r = iI z)) 0 0 (fun _ => False) := by
  refine s_metP (by decide) (Nat.le_of_ble_eq_true rfl) ?_
  intro p e s m below meth c ls args Q hE hB hl kr
  have hE : CallFix p m c cX7_pressing 3 s args tbG "TaleCourt$Telling" := hE
  obtain ⟨hP, hK, hN⟩ := hB
  have hl : lv_has ls 3 [(0, .ref (ad 48))] := hl
  refine lv_aload_n hE.1 hE.2.1 dX7_pressing_0 rfl (lv_at hl 0 rfl) ?_
  refine x_vp (nn := 0) (As := []) (rest := []) hE (s_X7_unpaid_48 l D K ad mm N hNN v ar al hI  ) wPre_blind (wPre_now hK hN hP) (x_recv hK hP 48 (Nat.lt_of_lt_of_le (by decide) hNN) (xG_7 rfl) rfl) rfl mw_754 mw_755 mw_756 mw_117 mw_757 (by decide +kernel) ⟨by decide, by decide⟩ hl.1 rfl (Nat.le_of_ble_eq_true rfl) ⟨Nat.zero_le _, Nat.zero_le _⟩ dX7_pressing_1 (fun r1 hr1 => ?_)
  obtain ⟨z1, hz1, rfl⟩ := hr1
  refine lv_istore_n (lv' := [(1, .int (iI (z1))), (0, .ref (ad 48))]) hE.1 hE.2.1 dX7_pressing_4 rfl hl (by decide) rfl (fun ls hl => ?_)
  refine lv_iconst (v := iI (0)) hE.1 hE.2.1 dX7_pressing_5 (by decide) ?_
  refine lv_istore_n (lv' := [(2, .int (iI (0))), (1, .int (iI (z1))), (0, .ref (ad 48))]) hE.1 hE.2.1 dX7_pressing_6 rfl hl (by decide) rfl (fun ls hl => ?_)
  have loop2 : ∀ (k2 : Nat) (y2_2 : Int) (y2_1 : Int) (ls : Array Slot), (9 - y2_2).toNat = k2 → (0 ≤ y2_2 ∧ y2_2 ≤ 9) → (-2147483648 ≤ y2_1 ∧ y2_1 ≤ 2147483647) → lv_has ls 3 [(2, .int (iI (y2_2))), (1, .int (iI (y2_1))), (0, .ref (ad 48))] → W p l e (rmD 1) s m args below meth c s.heap [] 0 0 Q (F0 m 7 ls []) := by
    intro k2
    induction k2 using Nat.strongRecOn with
    | _ k2 ih2 =>
      intro y2_2 y2_1 ls hk2 hb_y2_2 hb_y2_1 hl
      refine lv_iload_n hE.1 hE.2.1 dX7_pressing_7 rfl (lv_at hl 0 rfl) ?_
      refine lv_bipush (v := iI (9)) hE.1 hE.2.1 dX7_pressing_8 (by decide) ?_
      refine s_icmp_ge (a := y2_2) (b := 9) (tgt := 46) hE.1 hE.2.1 (by omega) (by omega) dX7_pressing_10 (by decide) (fun c3 => ?_) (fun c3 => ?_)
      · skip
        refine lv_iload_n hE.1 hE.2.1 dX7_pressing_46 rfl (lv_at hl 1 rfl) ?_
        exact kr _ _ _ rfl ⟨y2_1, by omega, rfl⟩ dX7_pressing_47
      · skip
        refine lv_iload_n hE.1 hE.2.1 dX7_pressing_13 rfl (lv_at hl 1 rfl) ?_
        refine lv_iload_n hE.1 hE.2.1 dX7_pressing_14 rfl (lv_at hl 0 rfl) ?_
        refine lv_ishr hE.1 hE.2.1 dX7_pressing_15 ?_
        obtain ⟨z4, hz4, ez4⟩ := iI_of (iI (y2_1) >>> (iI (y2_2) &&& 31))
        refine x_top ez4 ?_
        refine s_if_eq (a := z4) (tgt := 46) hE.1 hE.2.1 (by omega) dX7_pressing_16 (by decide) (fun c5 => ?_) (fun c5 => ?_)
        · skip
          refine lv_iload_n hE.1 hE.2.1 dX7_pressing_46 rfl (lv_at hl 1 rfl) ?_
          exact kr _ _ _ rfl ⟨y2_1, by omega, rfl⟩ dX7_pressing_47
        · skip
          refine lv_aload_n hE.1 hE.2.1 dX7_pressing_19 rfl (lv_at hl 2 rfl) ?_
          refine x_get (x := .ref (ad 50)) hE hK hP 48 (Nat.lt_of_lt_of_le (by decide) hNN) (xG_7 rfl) rfl hin7 1 (by decide) mw_299 rfl dX7_pressing_20 ?_
          refine lv_iload_n hE.1 hE.2.1 dX7_pressing_23 rfl (lv_at hl 0 rfl) ?_
          refine x_iald (j := iI (y2_2)) hE hK hP 50 (Nat.lt_of_lt_of_le (by decide) hNN) (xG_10 rfl) (iI_in (n := 9) (by omega)) dX7_pressing_24 ?_
          obtain ⟨z7, hz7, ez7⟩ := iI_of (ar 50 (iI (y2_2)).toNatClampNeg)
          refine x_top ez7 ?_
          refine lv_aload_n hE.1 hE.2.1 dX7_pressing_25 rfl (lv_at hl 2 rfl) ?_
          obtain ⟨z8, hz8, ez8⟩ := XI_get hI 48 2 0 18 (by decide)
          refine x_get (x := .int (v 48 2)) hE hK hP 48 (Nat.lt_of_lt_of_le (by decide) hNN) (xG_7 rfl) rfl hin7 2 (by decide) mw_301 rfl dX7_pressing_26 ?_
          refine x_top (y := iI (z8)) ez8 ?_
          refine s_icmp_le (a := z7) (b := z8) (tgt := 40) hE.1 hE.2.1 (by omega) (by omega) dX7_pressing_29 (by decide) (fun c9 => ?_) (fun c9 => ?_)
          · skip
            refine lv_iinc (v := iI (y2_2 + 1)) (lv' := [(2, .int (iI (y2_2 + 1))), (1, .int (iI (y2_1))), (0, .ref (ad 48))]) hE.1 hE.2.1 dX7_pressing_40 hl (k := 0) rfl ((iI_add (y2_2) (1)).trans (congrArg iI (by omega))) (by decide) rfl (fun ls hl => ?_)
            refine lv_goto (tgt := 7) hE.1 hE.2.1 dX7_pressing_43 (by decide) ?_
            exact ih2 _ (by omega) (y2_2 + 1) (y2_1) _ rfl (by omega) (by omega) (lv_sub hl [0, 1, 2] rfl)
          · skip
            refine lv_iload_n hE.1 hE.2.1 dX7_pressing_32 rfl (lv_at hl 1 rfl) ?_
            refine lv_iconst (v := iI (1)) hE.1 hE.2.1 dX7_pressing_33 (by decide) ?_
            refine lv_iload_n hE.1 hE.2.1 dX7_pressing_34 rfl (lv_at hl 0 rfl) ?_
            refine lv_ishl hE.1 hE.2.1 dX7_pressing_35 ?_
            obtain ⟨z10, hz10, ez10⟩ := iI_shl1 (a := y2_2) (by omega)
            refine x_top ez10 ?_
            refine lv_iconst (v := iI (-1)) hE.1 hE.2.1 dX7_pressing_36 (by decide) ?_
            refine lv_ixor hE.1 hE.2.1 dX7_pressing_37 ?_
            obtain ⟨z11, hz11, ez11⟩ := iI_of (iI (z10) ^^^ iI (-1))
            refine x_top ez11 ?_
            refine lv_iand hE.1 hE.2.1 dX7_pressing_38 ?_
            obtain ⟨z12, hz12, ez12⟩ := iI_of (iI (y2_1) &&& iI (z11))
            refine x_top ez12 ?_
            refine lv_istore_n (lv' := [(1, .int (iI (z12))), (2, .int (iI (y2_2))), (0, .ref (ad 48))]) hE.1 hE.2.1 dX7_pressing_39 rfl hl (by decide) rfl (fun ls hl => ?_)
            refine lv_iinc (v := iI (y2_2 + 1)) (lv' := [(2, .int (iI (y2_2 + 1))), (1, .int (iI (z12))), (0, .ref (ad 48))]) hE.1 hE.2.1 dX7_pressing_40 hl (k := 1) rfl ((iI_add (y2_2) (1)).trans (congrArg iI (by omega))) (by decide) rfl (fun ls hl => ?_)
            refine lv_goto (tgt := 7) hE.1 hE.2.1 dX7_pressing_43 (by decide) ?_
            exact ih2 _ (by omega) (y2_2 + 1) (z12) _ rfl (by omega) (by omega) (lv_sub hl [0, 1, 2] rfl)
  exact loop2 _ (0) (z1) _ rfl (by omega) (by omega) hl

set_option maxHeartbeats 4000000 in
set_option maxRecDepth 100000 in
theorem s_X7_teller_48 (l : Launch) (D : va_G) (K : Nat → ClassId) (ad : Nat → Nat) (mm : Option Nat) (N : Nat) (hNN : 132 ≤ N) (v ar : sI) (al : sL) (hI : XI v) : Met l yX7_teller (wM yX7_teller cX7_teller 2 (some .int)) (rmD 0) (va_Pc [.ref (ad 48)] (wPre D K ad (xG ad K mm) N v ar al)) (vp_Si (fun r => ∃ z : Int, (0 ≤ z ∧ z ≤ 2) ∧ r = iI z)) 0 0 (fun _ => False) := by
  refine s_metP (by decide) (Nat.le_of_ble_eq_true rfl) ?_
  intro p e s m below meth c ls args Q hE hB hl kr
  have hE : CallFix p m c cX7_teller 2 s args tbG "TaleCourt$Telling" := hE
  obtain ⟨hP, hK, hN⟩ := hB
  have hl : lv_has ls 2 [(0, .ref (ad 48))] := hl
  refine lv_aload_n hE.1 hE.2.1 dX7_teller_0 rfl (lv_at hl 0 rfl) ?_
  refine x_get (x := .ref (ad 3)) hE hK hP 48 (Nat.lt_of_lt_of_le (by decide) hNN) (xG_7 rfl) rfl hin7 6 (by decide) mw_315 rfl dX7_teller_1 ?_
  obtain ⟨z1, hz1, ez1⟩ := XI_get hI 3 0 0 3 (by decide)
  refine x_get (x := .int (v 3 0)) hE hK hP 3 (Nat.lt_of_lt_of_le (by decide) hNN) (xG_1 rfl) rfl hin1 0 (by decide) mw_179 rfl dX7_teller_4 ?_
  refine x_top (y := iI (z1)) ez1 ?_
  refine lv_istore_n (lv' := [(1, .int (iI (z1))), (0, .ref (ad 48))]) hE.1 hE.2.1 dX7_teller_7 rfl hl (by decide) rfl (fun ls hl => ?_)
  refine lv_iload_n hE.1 hE.2.1 dX7_teller_8 rfl (lv_at hl 0 rfl) ?_
  refine s_if_le (a := z1) (tgt := 33) hE.1 hE.2.1 (by omega) dX7_teller_9 (by decide) (fun c2 => ?_) (fun c2 => ?_)
  · skip
    refine lv_iconst (v := iI (0)) hE.1 hE.2.1 dX7_teller_33 (by decide) ?_
    exact kr _ _ _ rfl ⟨0, by omega, rfl⟩ dX7_teller_34
  · skip
    refine lv_iload_n hE.1 hE.2.1 dX7_teller_12 rfl (lv_at hl 0 rfl) ?_
    refine lv_iconst (v := iI (3)) hE.1 hE.2.1 dX7_teller_13 (by decide) ?_
    refine s_icmp_gt (a := z1) (b := 3) (tgt := 33) hE.1 hE.2.1 (by omega) (by omega) dX7_teller_14 (by decide) (fun c3 => False.elim (by omega)) (fun _ => ?_)
    refine lv_aload_n hE.1 hE.2.1 dX7_teller_17 rfl (lv_at hl 1 rfl) ?_
    obtain ⟨z4, hz4, ez4⟩ := XI_get hI 48 2 0 18 (by decide)
    refine x_get (x := .int (v 48 2)) hE hK hP 48 (Nat.lt_of_lt_of_le (by decide) hNN) (xG_7 rfl) rfl hin7 2 (by decide) mw_301 rfl dX7_teller_18 ?_
    refine x_top (y := iI (z4)) ez4 ?_
    refine s_if_lt (a := z4) (tgt := 33) hE.1 hE.2.1 (by omega) dX7_teller_21 (by decide) (fun c5 => False.elim (by omega)) (fun _ => ?_)
    refine lv_aload_n hE.1 hE.2.1 dX7_teller_24 rfl (lv_at hl 1 rfl) ?_
    refine x_get (x := .int (v 48 2)) hE hK hP 48 (Nat.lt_of_lt_of_le (by decide) hNN) (xG_7 rfl) rfl hin7 2 (by decide) mw_301 rfl dX7_teller_25 ?_
    refine x_top (y := iI (z4)) ez4 ?_
    refine lv_iload_n hE.1 hE.2.1 dX7_teller_28 rfl (lv_at hl 0 rfl) ?_
    refine lv_irem hE.1 hE.2.1 dX7_teller_29 (iI_ne0 (by omega) (by omega)) ?_
    obtain ⟨z6, hz6⟩ : ∃ z : Int, z = (z4) % (z1) ∧ 0 ≤ z ∧ z < z1 := ⟨_, rfl, Int.emod_nonneg _ (by omega), Int.emod_lt_of_pos _ (by omega)⟩
    refine x_top (y := iI (z6)) ((iI_rem (by omega) (by omega)).trans (congrArg iI hz6.1.symm)) ?_
    replace hz6 := hz6.2
    refine lv_goto (tgt := 34) hE.1 hE.2.1 dX7_teller_30 (by decide) ?_
    exact kr _ _ _ rfl ⟨z6, by omega, rfl⟩ dX7_teller_34

set_option maxHeartbeats 4000000 in
set_option maxRecDepth 100000 in
theorem s_X7_joined_48 (l : Launch) (D : va_G) (K : Nat → ClassId) (ad : Nat → Nat) (mm : Option Nat) (N : Nat) (hNN : 132 ≤ N) (v ar : sI) (al : sL) (hI : XI v) : Met l yX7_joined (wM yX7_joined cX7_joined 1 (some .int)) (rmD 0) (va_Pc [.ref (ad 48)] (wPre D K ad (xG ad K mm) N v ar al)) (vp_Si (fun r => ∃ z : Int, (-2147483648 ≤ z ∧ z ≤ 2147483647) ∧ r = iI z)) 0 0 (fun _ => False) := by
  refine s_metP (by decide) (Nat.le_of_ble_eq_true rfl) ?_
  intro p e s m below meth c ls args Q hE hB hl kr
  have hE : CallFix p m c cX7_joined 1 s args tbG "TaleCourt$Telling" := hE
  obtain ⟨hP, hK, hN⟩ := hB
  have hl : lv_has ls 1 [(0, .ref (ad 48))] := hl
  refine lv_aload_n hE.1 hE.2.1 dX7_joined_0 rfl (lv_at hl 0 rfl) ?_
  obtain ⟨z1, hz1, ez1⟩ := iI_of (v 48 4)
  refine x_get (x := .int (v 48 4)) hE hK hP 48 (Nat.lt_of_lt_of_le (by decide) hNN) (xG_7 rfl) rfl hin7 4 (by decide) mw_309 rfl dX7_joined_1 ?_
  refine x_top (y := iI (z1)) ez1 ?_
  refine s_if_lt (a := z1) (tgt := 31) hE.1 hE.2.1 (by omega) dX7_joined_4 (by decide) (fun c2 => ?_) (fun c2 => ?_)
  · skip
    refine lv_aload_n hE.1 hE.2.1 dX7_joined_31 rfl (lv_at hl 0 rfl) ?_
    refine x_get (x := .ref (ad 3)) hE hK hP 48 (Nat.lt_of_lt_of_le (by decide) hNN) (xG_7 rfl) rfl hin7 6 (by decide) mw_315 rfl dX7_joined_32 ?_
    obtain ⟨z3, hz3, ez3⟩ := iI_of (v 3 7)
    refine x_get (x := .int (v 3 7)) hE hK hP 3 (Nat.lt_of_lt_of_le (by decide) hNN) (xG_1 rfl) rfl hin1 7 (by decide) mw_206 rfl dX7_joined_35 ?_
    refine x_top (y := iI (z3)) ez3 ?_
    exact kr _ _ _ rfl ⟨z3, by omega, rfl⟩ dX7_joined_38
  · skip
    refine lv_aload_n hE.1 hE.2.1 dX7_joined_7 rfl (lv_at hl 0 rfl) ?_
    refine x_get (x := .int (v 48 4)) hE hK hP 48 (Nat.lt_of_lt_of_le (by decide) hNN) (xG_7 rfl) rfl hin7 4 (by decide) mw_309 rfl dX7_joined_8 ?_
    refine x_top (y := iI (z1)) ez1 ?_
    refine lv_bipush (v := iI (9)) hE.1 hE.2.1 dX7_joined_11 (by decide) ?_
    refine s_icmp_ge (a := z1) (b := 9) (tgt := 31) hE.1 hE.2.1 (by omega) (by omega) dX7_joined_13 (by decide) (fun c4 => ?_) (fun c4 => ?_)
    · skip
      refine lv_aload_n hE.1 hE.2.1 dX7_joined_31 rfl (lv_at hl 0 rfl) ?_
      refine x_get (x := .ref (ad 3)) hE hK hP 48 (Nat.lt_of_lt_of_le (by decide) hNN) (xG_7 rfl) rfl hin7 6 (by decide) mw_315 rfl dX7_joined_32 ?_
      obtain ⟨z5, hz5, ez5⟩ := iI_of (v 3 7)
      refine x_get (x := .int (v 3 7)) hE hK hP 3 (Nat.lt_of_lt_of_le (by decide) hNN) (xG_1 rfl) rfl hin1 7 (by decide) mw_206 rfl dX7_joined_35 ?_
      refine x_top (y := iI (z5)) ez5 ?_
      exact kr _ _ _ rfl ⟨z5, by omega, rfl⟩ dX7_joined_38
    · skip
      refine lv_aload_n hE.1 hE.2.1 dX7_joined_16 rfl (lv_at hl 0 rfl) ?_
      refine x_get (x := .ref (ad 3)) hE hK hP 48 (Nat.lt_of_lt_of_le (by decide) hNN) (xG_7 rfl) rfl hin7 6 (by decide) mw_315 rfl dX7_joined_17 ?_
      refine x_get (x := .ref (ad 8)) hE hK hP 3 (Nat.lt_of_lt_of_le (by decide) hNN) (xG_1 rfl) rfl hin1 15 (by decide) mw_234 rfl dX7_joined_20 ?_
      refine lv_aload_n hE.1 hE.2.1 dX7_joined_23 rfl (lv_at hl 0 rfl) ?_
      refine x_get (x := .int (v 48 4)) hE hK hP 48 (Nat.lt_of_lt_of_le (by decide) hNN) (xG_7 rfl) rfl hin7 4 (by decide) mw_309 rfl dX7_joined_24 ?_
      refine x_top (y := iI (z1)) ez1 ?_
      refine x_iald (j := iI (z1)) hE hK hP 8 (Nat.lt_of_lt_of_le (by decide) hNN) (xG_10 rfl) (iI_in (n := 9) (by omega)) dX7_joined_27 ?_
      obtain ⟨z7, hz7, ez7⟩ := iI_of (ar 8 (iI (z1)).toNatClampNeg)
      refine x_top ez7 ?_
      refine lv_goto (tgt := 38) hE.1 hE.2.1 dX7_joined_28 (by decide) ?_
      exact kr _ _ _ rfl ⟨z7, by omega, rfl⟩ dX7_joined_38

set_option maxHeartbeats 4000000 in
set_option maxRecDepth 100000 in
theorem s_X7_playable_48 (l : Launch) (D : va_G) (K : Nat → ClassId) (ad : Nat → Nat) (mm : Option Nat) (N : Nat) (hNN : 132 ≤ N) (v ar : sI) (al : sL) (hI : XI v) : Met l yX7_playable (wM yX7_playable cX7_playable 2 (some .int)) (rmD 1) (va_Pc [.ref (ad 48)] (wPre D K ad (xG ad K mm) N v ar al)) (vp_Si (fun r => ∃ z : Int, (-2147483648 ≤ z ∧ z ≤ 2147483647) ∧ r = iI z)) 0 0 (fun _ => False) := by
  refine s_metP (by decide) (Nat.le_of_ble_eq_true rfl) ?_
  intro p e s m below meth c ls args Q hE hB hl kr
  have hE : CallFix p m c cX7_playable 2 s args tbG "TaleCourt$Telling" := hE
  obtain ⟨hP, hK, hN⟩ := hB
  have hl : lv_has ls 2 [(0, .ref (ad 48))] := hl
  refine lv_aload_n hE.1 hE.2.1 dX7_playable_0 rfl (lv_at hl 0 rfl) ?_
  obtain ⟨z1, hz1, ez1⟩ := iI_of (v 48 3)
  refine x_get (x := .int (v 48 3)) hE hK hP 48 (Nat.lt_of_lt_of_le (by decide) hNN) (xG_7 rfl) rfl hin7 3 (by decide) mw_305 rfl dX7_playable_1 ?_
  refine x_top (y := iI (z1)) ez1 ?_
  refine lv_aload_n hE.1 hE.2.1 dX7_playable_4 rfl (lv_at hl 0 rfl) ?_
  obtain ⟨z2, hz2, ez2⟩ := iI_of (v 48 8)
  refine x_get (x := .int (v 48 8)) hE hK hP 48 (Nat.lt_of_lt_of_le (by decide) hNN) (xG_7 rfl) rfl hin7 8 (by decide) mw_317 rfl dX7_playable_5 ?_
  refine x_top (y := iI (z2)) ez2 ?_
  refine lv_ior hE.1 hE.2.1 dX7_playable_8 ?_
  obtain ⟨z3, hz3, ez3⟩ := iI_of (iI (z1) ||| iI (z2))
  refine x_top ez3 ?_
  refine lv_aload_n hE.1 hE.2.1 dX7_playable_9 rfl (lv_at hl 0 rfl) ?_
  refine x_get (x := .ref (ad 3)) hE hK hP 48 (Nat.lt_of_lt_of_le (by decide) hNN) (xG_7 rfl) rfl hin7 6 (by decide) mw_315 rfl dX7_playable_10 ?_
  refine x_get (x := .ref (ad 10)) hE hK hP 3 (Nat.lt_of_lt_of_le (by decide) hNN) (xG_1 rfl) rfl hin1 17 (by decide) mw_240 rfl dX7_playable_13 ?_
  refine lv_aload_n hE.1 hE.2.1 dX7_playable_16 rfl (lv_at hl 0 rfl) ?_
  refine x_vp (nn := 0) (As := []) (rest := [.ref (ad 10), .int (iI (z3))]) hE (s_X7_teller_48 l D K ad mm N hNN v ar al hI  ) wPre_blind (wPre_now hK hN hP) (x_recv hK hP 48 (Nat.lt_of_lt_of_le (by decide) hNN) (xG_7 rfl) rfl) rfl mw_758 mw_759 mw_760 mw_117 mw_761 (by decide +kernel) ⟨by decide, by decide⟩ hl.1 rfl (Nat.le_of_ble_eq_true rfl) ⟨Nat.zero_le _, Nat.zero_le _⟩ dX7_playable_17 (fun r4 hr4 => ?_)
  obtain ⟨z4, hz4, rfl⟩ := hr4
  refine x_iald (j := iI (z4)) hE hK hP 10 (Nat.lt_of_lt_of_le (by decide) hNN) (xG_10 rfl) (iI_in (n := 3) (by omega)) dX7_playable_20 ?_
  obtain ⟨z6, hz6, ez6⟩ := iI_of (ar 10 (iI (z4)).toNatClampNeg)
  refine x_top ez6 ?_
  refine lv_ior hE.1 hE.2.1 dX7_playable_21 ?_
  obtain ⟨z7, hz7, ez7⟩ := iI_of (iI (z3) ||| iI (z6))
  refine x_top ez7 ?_
  refine lv_istore_n (lv' := [(1, .int (iI (z7))), (0, .ref (ad 48))]) hE.1 hE.2.1 dX7_playable_22 rfl hl (by decide) rfl (fun ls hl => ?_)
  refine lv_aload_n hE.1 hE.2.1 dX7_playable_23 rfl (lv_at hl 1 rfl) ?_
  obtain ⟨z8, hz8, ez8⟩ := XI_get hI 48 2 0 18 (by decide)
  refine x_get (x := .int (v 48 2)) hE hK hP 48 (Nat.lt_of_lt_of_le (by decide) hNN) (xG_7 rfl) rfl hin7 2 (by decide) mw_301 rfl dX7_playable_24 ?_
  refine x_top (y := iI (z8)) ez8 ?_
  refine lv_iconst (v := iI (1)) hE.1 hE.2.1 dX7_playable_27 (by decide) ?_
  refine lv_iand hE.1 hE.2.1 dX7_playable_28 ?_
  obtain ⟨z9, hz9, ez9⟩ := iI_and (iI (z8)) (iI (1)) 1 (by decide)
  refine x_top ez9 ?_
  refine s_if_ne (a := z9) (tgt := 42) hE.1 hE.2.1 (by omega) dX7_playable_29 (by decide) (fun c10 => ?_) (fun c10 => ?_)
  · skip
    refine lv_aload_n hE.1 hE.2.1 dX7_playable_42 rfl (lv_at hl 1 rfl) ?_
    refine x_vp (nn := 0) (As := []) (rest := []) hE (s_X7_joined_48 l D K ad mm N hNN v ar al hI  ) wPre_blind (wPre_now hK hN hP) (x_recv hK hP 48 (Nat.lt_of_lt_of_le (by decide) hNN) (xG_7 rfl) rfl) rfl mw_746 mw_748 mw_16 mw_117 mw_749 (by decide +kernel) ⟨by decide, by decide⟩ hl.1 rfl (Nat.le_of_ble_eq_true rfl) ⟨Nat.zero_le _, Nat.zero_le _⟩ dX7_playable_43 (fun r11 hr11 => ?_)
    obtain ⟨z11, hz11, rfl⟩ := hr11
    refine lv_iload_n hE.1 hE.2.1 dX7_playable_46 rfl (lv_at hl 0 rfl) ?_
    refine lv_iconst (v := iI (-1)) hE.1 hE.2.1 dX7_playable_47 (by decide) ?_
    refine lv_ixor hE.1 hE.2.1 dX7_playable_48 ?_
    obtain ⟨z12, hz12, ez12⟩ := iI_of (iI (z7) ^^^ iI (-1))
    refine x_top ez12 ?_
    refine lv_iand hE.1 hE.2.1 dX7_playable_49 ?_
    obtain ⟨z13, hz13, ez13⟩ := iI_of (iI (z11) &&& iI (z12))
    refine x_top ez13 ?_
    exact kr _ _ _ rfl ⟨z13, by omega, rfl⟩ dX7_playable_50
  · skip
    refine lv_iload_n hE.1 hE.2.1 dX7_playable_32 rfl (lv_at hl 0 rfl) ?_
    refine lv_aload_n hE.1 hE.2.1 dX7_playable_33 rfl (lv_at hl 1 rfl) ?_
    refine x_get (x := .ref (ad 3)) hE hK hP 48 (Nat.lt_of_lt_of_le (by decide) hNN) (xG_7 rfl) rfl hin7 6 (by decide) mw_315 rfl dX7_playable_34 ?_
    obtain ⟨z14, hz14, ez14⟩ := iI_of (v 3 8)
    refine x_get (x := .int (v 3 8)) hE hK hP 3 (Nat.lt_of_lt_of_le (by decide) hNN) (xG_1 rfl) rfl hin1 8 (by decide) mw_210 rfl dX7_playable_37 ?_
    refine x_top (y := iI (z14)) ez14 ?_
    refine lv_ior hE.1 hE.2.1 dX7_playable_40 ?_
    obtain ⟨z15, hz15, ez15⟩ := iI_of (iI (z7) ||| iI (z14))
    refine x_top ez15 ?_
    refine lv_istore_n (lv' := [(1, .int (iI (z15))), (0, .ref (ad 48))]) hE.1 hE.2.1 dX7_playable_41 rfl hl (by decide) rfl (fun ls hl => ?_)
    refine lv_aload_n hE.1 hE.2.1 dX7_playable_42 rfl (lv_at hl 1 rfl) ?_
    refine x_vp (nn := 0) (As := []) (rest := []) hE (s_X7_joined_48 l D K ad mm N hNN v ar al hI  ) wPre_blind (wPre_now hK hN hP) (x_recv hK hP 48 (Nat.lt_of_lt_of_le (by decide) hNN) (xG_7 rfl) rfl) rfl mw_746 mw_748 mw_16 mw_117 mw_749 (by decide +kernel) ⟨by decide, by decide⟩ hl.1 rfl (Nat.le_of_ble_eq_true rfl) ⟨Nat.zero_le _, Nat.zero_le _⟩ dX7_playable_43 (fun r16 hr16 => ?_)
    obtain ⟨z16, hz16, rfl⟩ := hr16
    refine lv_iload_n hE.1 hE.2.1 dX7_playable_46 rfl (lv_at hl 0 rfl) ?_
    refine lv_iconst (v := iI (-1)) hE.1 hE.2.1 dX7_playable_47 (by decide) ?_
    refine lv_ixor hE.1 hE.2.1 dX7_playable_48 ?_
    obtain ⟨z17, hz17, ez17⟩ := iI_of (iI (z15) ^^^ iI (-1))
    refine x_top ez17 ?_
    refine lv_iand hE.1 hE.2.1 dX7_playable_49 ?_
    obtain ⟨z18, hz18, ez18⟩ := iI_of (iI (z16) &&& iI (z17))
    refine x_top ez18 ?_
    exact kr _ _ _ rfl ⟨z18, by omega, rfl⟩ dX7_playable_50

set_option maxHeartbeats 4000000 in
set_option maxRecDepth 100000 in
theorem s_X7_tellable_48 (l : Launch) (D : va_G) (K : Nat → ClassId) (ad : Nat → Nat) (mm : Option Nat) (N : Nat) (hNN : 132 ≤ N) (v ar : sI) (al : sL) (hI : XI v) : Met l yX7_tellable (wM yX7_tellable cX7_tellable 2 (some .int)) (rmD 2) (va_Pc [.ref (ad 48)] (wPre D K ad (xG ad K mm) N v ar al)) (vp_Si (fun r => ∃ z : Int, (-2147483648 ≤ z ∧ z ≤ 2147483647) ∧ r = iI z)) 0 0 (fun _ => False) := by
  refine s_metP (by decide) (Nat.le_of_ble_eq_true rfl) ?_
  intro p e s m below meth c ls args Q hE hB hl kr
  have hE : CallFix p m c cX7_tellable 2 s args tbG "TaleCourt$Telling" := hE
  obtain ⟨hP, hK, hN⟩ := hB
  have hl : lv_has ls 2 [(0, .ref (ad 48))] := hl
  refine lv_aload_n hE.1 hE.2.1 dX7_tellable_0 rfl (lv_at hl 0 rfl) ?_
  refine x_vp (nn := 0) (As := []) (rest := []) hE (s_X7_pressing_48 l D K ad mm N hNN v ar al hI  ) wPre_blind (wPre_now hK hN hP) (x_recv hK hP 48 (Nat.lt_of_lt_of_le (by decide) hNN) (xG_7 rfl) rfl) rfl mw_750 mw_752 mw_17 mw_117 mw_753 (by decide +kernel) ⟨by decide, by decide⟩ hl.1 rfl (Nat.le_of_ble_eq_true rfl) ⟨Nat.zero_le _, Nat.zero_le _⟩ dX7_tellable_1 (fun r1 hr1 => ?_)
  obtain ⟨z1, hz1, rfl⟩ := hr1
  refine lv_istore_n (lv' := [(1, .int (iI (z1))), (0, .ref (ad 48))]) hE.1 hE.2.1 dX7_tellable_4 rfl hl (by decide) rfl (fun ls hl => ?_)
  refine lv_iload_n hE.1 hE.2.1 dX7_tellable_5 rfl (lv_at hl 0 rfl) ?_
  refine s_if_ne (a := z1) (tgt := 14) hE.1 hE.2.1 (by omega) dX7_tellable_6 (by decide) (fun c2 => ?_) (fun c2 => ?_)
  · skip
    refine lv_iload_n hE.1 hE.2.1 dX7_tellable_14 rfl (lv_at hl 0 rfl) ?_
    refine x_sp (nn := 1) (As := [.int (iI (z1))]) (rest := []) hE (s_J6_bitCount_0f7a4 l (z1) (by omega)) tt_blind (fun _ _ _ => trivial) rfl mw_849 mw_850 mw_131 mw_851 (by decide +kernel) ⟨by decide, by decide⟩ hl.1 rfl (Nat.le_of_ble_eq_true rfl) ⟨Nat.zero_le _, Nat.zero_le _⟩ dX7_tellable_15 (fun r3 hr3 => ?_)
    obtain ⟨z3, hz3, rfl⟩ := hr3
    refine lv_iconst (v := iI (1)) hE.1 hE.2.1 dX7_tellable_18 (by decide) ?_
    refine s_icmp_ne (a := z3) (b := 1) (tgt := 31) hE.1 hE.2.1 (by omega) (by omega) dX7_tellable_19 (by decide) (fun c4 => ?_) (fun c4 => ?_)
    · skip
      refine lv_iconst (v := iI (0)) hE.1 hE.2.1 dX7_tellable_31 (by decide) ?_
      exact kr _ _ _ rfl ⟨0, by omega, rfl⟩ dX7_tellable_32
    · skip
      refine lv_aload_n hE.1 hE.2.1 dX7_tellable_22 rfl (lv_at hl 1 rfl) ?_
      refine x_vp (nn := 0) (As := []) (rest := []) hE (s_X7_playable_48 l D K ad mm N hNN v ar al hI  ) wPre_blind (wPre_now hK hN hP) (x_recv hK hP 48 (Nat.lt_of_lt_of_le (by decide) hNN) (xG_7 rfl) rfl) rfl mw_845 mw_846 mw_847 mw_117 mw_848 (by decide +kernel) ⟨by decide, by decide⟩ hl.1 rfl (Nat.le_of_ble_eq_true rfl) ⟨Nat.zero_le _, Nat.zero_le _⟩ dX7_tellable_23 (fun r5 hr5 => ?_)
      obtain ⟨z5, hz5, rfl⟩ := hr5
      refine lv_iload_n hE.1 hE.2.1 dX7_tellable_26 rfl (lv_at hl 0 rfl) ?_
      refine lv_iand hE.1 hE.2.1 dX7_tellable_27 ?_
      obtain ⟨z6, hz6, ez6⟩ := iI_of (iI (z5) &&& iI (z1))
      refine x_top ez6 ?_
      refine lv_goto (tgt := 32) hE.1 hE.2.1 dX7_tellable_28 (by decide) ?_
      exact kr _ _ _ rfl ⟨z6, by omega, rfl⟩ dX7_tellable_32
  · skip
    refine lv_aload_n hE.1 hE.2.1 dX7_tellable_9 rfl (lv_at hl 1 rfl) ?_
    refine x_vp (nn := 0) (As := []) (rest := []) hE (s_X7_playable_48 l D K ad mm N hNN v ar al hI  ) wPre_blind (wPre_now hK hN hP) (x_recv hK hP 48 (Nat.lt_of_lt_of_le (by decide) hNN) (xG_7 rfl) rfl) rfl mw_845 mw_846 mw_847 mw_117 mw_848 (by decide +kernel) ⟨by decide, by decide⟩ hl.1 rfl (Nat.le_of_ble_eq_true rfl) ⟨Nat.zero_le _, Nat.zero_le _⟩ dX7_tellable_10 (fun r7 hr7 => ?_)
    obtain ⟨z7, hz7, rfl⟩ := hr7
    exact kr _ _ _ rfl ⟨z7, by omega, rfl⟩ dX7_tellable_13

theorem dX0_allowedOf_0 : decode cX0_allowedOf 0 = .ok (.iload_n 1, 1) := by decide +kernel
theorem dX0_allowedOf_1 : decode cX0_allowedOf 1 = .ok (.istore_n 3, 1) := by decide +kernel
theorem dX0_allowedOf_2 : decode cX0_allowedOf 2 = .ok (.iconst 0, 1) := by decide +kernel
theorem dX0_allowedOf_3 : decode cX0_allowedOf 3 = .ok (.istore 4, 2) := by decide +kernel
theorem dX0_allowedOf_5 : decode cX0_allowedOf 5 = .ok (.iload 4, 2) := by decide +kernel
theorem dX0_allowedOf_7 : decode cX0_allowedOf 7 = .ok (.bipush 9, 2) := by decide +kernel
theorem dX0_allowedOf_9 : decode cX0_allowedOf 9 = .ok (.if_icmp .ge 28, 3) := by decide +kernel
theorem dX0_allowedOf_12 : decode cX0_allowedOf 12 = .ok (.aload_n 0, 1) := by decide +kernel
theorem dX0_allowedOf_13 : decode cX0_allowedOf 13 = .ok (.iload 4, 2) := by decide +kernel
theorem dX0_allowedOf_15 : decode cX0_allowedOf 15 = .ok (.iload_n 2, 1) := by decide +kernel
theorem dX0_allowedOf_16 : decode cX0_allowedOf 16 = .ok (.invokevirtual 59, 3) := by decide +kernel
theorem dX0_allowedOf_19 : decode cX0_allowedOf 19 = .ok (.ifCond .ne 12, 3) := by decide +kernel
theorem dX0_allowedOf_22 : decode cX0_allowedOf 22 = .ok (.iload_n 3, 1) := by decide +kernel
theorem dX0_allowedOf_23 : decode cX0_allowedOf 23 = .ok (.iconst 1, 1) := by decide +kernel
theorem dX0_allowedOf_24 : decode cX0_allowedOf 24 = .ok (.iload 4, 2) := by decide +kernel
theorem dX0_allowedOf_26 : decode cX0_allowedOf 26 = .ok (.ishl, 1) := by decide +kernel
theorem dX0_allowedOf_27 : decode cX0_allowedOf 27 = .ok (.iconst (-1), 1) := by decide +kernel
theorem dX0_allowedOf_28 : decode cX0_allowedOf 28 = .ok (.ixor, 1) := by decide +kernel
theorem dX0_allowedOf_29 : decode cX0_allowedOf 29 = .ok (.iand, 1) := by decide +kernel
theorem dX0_allowedOf_30 : decode cX0_allowedOf 30 = .ok (.istore_n 3, 1) := by decide +kernel
theorem dX0_allowedOf_31 : decode cX0_allowedOf 31 = .ok (.iinc 4 1, 3) := by decide +kernel
theorem dX0_allowedOf_34 : decode cX0_allowedOf 34 = .ok (.goto (-29), 3) := by decide +kernel
theorem dX0_allowedOf_37 : decode cX0_allowedOf 37 = .ok (.iload_n 3, 1) := by decide +kernel
theorem dX0_allowedOf_38 : decode cX0_allowedOf 38 = .ok (.ireturn, 1) := by decide +kernel
set_option maxHeartbeats 4000000 in
set_option maxRecDepth 100000 in
theorem s_X0_allowedOf_39 (l : Launch) (D : va_G) (K : Nat → ClassId) (ad : Nat → Nat) (mm : Option Nat) (N : Nat) (hNN : 132 ≤ N) (v ar : sI) (al : sL) (hI : XI v) (z_1 : Int) (hz_1 : -2147483648 ≤ z_1 ∧ z_1 ≤ 2147483647) (z_2 : Int) (hz_2 : -2147483648 ≤ z_2 ∧ z_2 ≤ 2147483647) : Met l yX0_allowedOf (wM yX0_allowedOf cX0_allowedOf 5 (some .int)) (rmD 1) (va_Pc [.ref (ad 39), .int (iI (z_1)), .int (iI (z_2))] (wPre D K ad (xG ad K mm) N v ar al)) (vp_Si (fun r => ∃ z : Int, (-2147483648 ≤ z ∧ z ≤ 2147483647) ∧ r = iI z)) 0 0 (fun _ => False) := by
  refine s_metP (by decide) (Nat.le_of_ble_eq_true rfl) ?_
  intro p e s m below meth c ls args Q hE hB hl kr
  have hE : CallFix p m c cX0_allowedOf 5 s args tbG "TaleCourt$Claims" := hE
  obtain ⟨hP, hK, hN⟩ := hB
  have hl : lv_has ls 5 [(0, .ref (ad 39)), (1, .int (iI (z_1))), (2, .int (iI (z_2)))] := hl
  refine lv_iload_n hE.1 hE.2.1 dX0_allowedOf_0 rfl (lv_at hl 1 rfl) ?_
  refine lv_istore_n (lv' := [(3, .int (iI (z_1))), (0, .ref (ad 39)), (1, .int (iI (z_1))), (2, .int (iI (z_2)))]) hE.1 hE.2.1 dX0_allowedOf_1 rfl hl (by decide) rfl (fun ls hl => ?_)
  refine lv_iconst (v := iI (0)) hE.1 hE.2.1 dX0_allowedOf_2 (by decide) ?_
  refine lv_istore (lv' := [(4, .int (iI (0))), (3, .int (iI (z_1))), (0, .ref (ad 39)), (1, .int (iI (z_1))), (2, .int (iI (z_2)))]) hE.1 hE.2.1 dX0_allowedOf_3 hl (by decide) rfl (fun ls hl => ?_)
  have loop1 : ∀ (k1 : Nat) (y1_4 : Int) (y1_3 : Int) (ls : Array Slot), (9 - y1_4).toNat = k1 → (0 ≤ y1_4 ∧ y1_4 ≤ 9) → (-2147483648 ≤ y1_3 ∧ y1_3 ≤ 2147483647) → lv_has ls 5 [(4, .int (iI (y1_4))), (3, .int (iI (y1_3))), (0, .ref (ad 39)), (1, .int (iI (z_1))), (2, .int (iI (z_2)))] → W p l e (rmD 1) s m args below meth c s.heap [] 0 0 Q (F0 m 5 ls []) := by
    intro k1
    induction k1 using Nat.strongRecOn with
    | _ k1 ih1 =>
      intro y1_4 y1_3 ls hk1 hb_y1_4 hb_y1_3 hl
      refine lv_iload hE.1 hE.2.1 dX0_allowedOf_5 (lv_at hl 0 rfl) ?_
      refine lv_bipush (v := iI (9)) hE.1 hE.2.1 dX0_allowedOf_7 (by decide) ?_
      refine s_icmp_ge (a := y1_4) (b := 9) (tgt := 37) hE.1 hE.2.1 (by omega) (by omega) dX0_allowedOf_9 (by decide) (fun c2 => ?_) (fun c2 => ?_)
      · skip
        refine lv_iload_n hE.1 hE.2.1 dX0_allowedOf_37 rfl (lv_at hl 1 rfl) ?_
        exact kr _ _ _ rfl ⟨y1_3, by omega, rfl⟩ dX0_allowedOf_38
      · skip
        refine lv_aload_n hE.1 hE.2.1 dX0_allowedOf_12 rfl (lv_at hl 2 rfl) ?_
        refine lv_iload hE.1 hE.2.1 dX0_allowedOf_13 (lv_at hl 0 rfl) ?_
        refine lv_iload_n hE.1 hE.2.1 dX0_allowedOf_15 rfl (lv_at hl 4 rfl) ?_
        refine x_vp (nn := 2) (As := [.int (iI (y1_4)), .int (iI (z_2))]) (rest := []) hE (s_X0_allows_39 l D K ad mm N hNN v ar al hI  (y1_4) (by omega) (z_2) (by omega)) wPre_blind (wPre_now hK hN hP) (x_recv hK hP 39 (Nat.lt_of_lt_of_le (by decide) hNN) (xG_0 rfl) rfl) rfl mw_941 mw_943 mw_26 mw_118 mw_944 (by decide +kernel) ⟨by decide, by decide⟩ hl.1 rfl (Nat.le_of_ble_eq_true rfl) ⟨Nat.zero_le _, Nat.zero_le _⟩ dX0_allowedOf_16 (fun r3 hr3 => ?_)
        obtain ⟨z3, hz3, rfl⟩ := hr3
        refine s_if_ne (a := z3) (tgt := 31) hE.1 hE.2.1 (by omega) dX0_allowedOf_19 (by decide) (fun c4 => ?_) (fun c4 => ?_)
        · skip
          refine lv_iinc (v := iI (y1_4 + 1)) (lv' := [(4, .int (iI (y1_4 + 1))), (3, .int (iI (y1_3))), (0, .ref (ad 39)), (1, .int (iI (z_1))), (2, .int (iI (z_2)))]) hE.1 hE.2.1 dX0_allowedOf_31 hl (k := 0) rfl ((iI_add (y1_4) (1)).trans (congrArg iI (by omega))) (by decide) rfl (fun ls hl => ?_)
          refine lv_goto (tgt := 5) hE.1 hE.2.1 dX0_allowedOf_34 (by decide) ?_
          exact ih1 _ (by omega) (y1_4 + 1) (y1_3) _ rfl (by omega) (by omega) (lv_sub hl [0, 1, 2, 3, 4] rfl)
        · skip
          refine lv_iload_n hE.1 hE.2.1 dX0_allowedOf_22 rfl (lv_at hl 1 rfl) ?_
          refine lv_iconst (v := iI (1)) hE.1 hE.2.1 dX0_allowedOf_23 (by decide) ?_
          refine lv_iload hE.1 hE.2.1 dX0_allowedOf_24 (lv_at hl 0 rfl) ?_
          refine lv_ishl hE.1 hE.2.1 dX0_allowedOf_26 ?_
          obtain ⟨z5, hz5, ez5⟩ := iI_shl1 (a := y1_4) (by omega)
          refine x_top ez5 ?_
          refine lv_iconst (v := iI (-1)) hE.1 hE.2.1 dX0_allowedOf_27 (by decide) ?_
          refine lv_ixor hE.1 hE.2.1 dX0_allowedOf_28 ?_
          obtain ⟨z6, hz6, ez6⟩ := iI_of (iI (z5) ^^^ iI (-1))
          refine x_top ez6 ?_
          refine lv_iand hE.1 hE.2.1 dX0_allowedOf_29 ?_
          obtain ⟨z7, hz7, ez7⟩ := iI_of (iI (y1_3) &&& iI (z6))
          refine x_top ez7 ?_
          refine lv_istore_n (lv' := [(3, .int (iI (z7))), (4, .int (iI (y1_4))), (0, .ref (ad 39)), (1, .int (iI (z_1))), (2, .int (iI (z_2)))]) hE.1 hE.2.1 dX0_allowedOf_30 rfl hl (by decide) rfl (fun ls hl => ?_)
          refine lv_iinc (v := iI (y1_4 + 1)) (lv' := [(4, .int (iI (y1_4 + 1))), (3, .int (iI (z7))), (0, .ref (ad 39)), (1, .int (iI (z_1))), (2, .int (iI (z_2)))]) hE.1 hE.2.1 dX0_allowedOf_31 hl (k := 1) rfl ((iI_add (y1_4) (1)).trans (congrArg iI (by omega))) (by decide) rfl (fun ls hl => ?_)
          refine lv_goto (tgt := 5) hE.1 hE.2.1 dX0_allowedOf_34 (by decide) ?_
          exact ih1 _ (by omega) (y1_4 + 1) (z7) _ rfl (by omega) (by omega) (lv_sub hl [0, 1, 2, 3, 4] rfl)
  exact loop1 _ (0) (z_1) _ rfl (by omega) (by omega) hl

theorem dX6_openNow_0 : decode cX6_openNow 0 = .ok (.aload_n 0, 1) := by decide +kernel
theorem dX6_openNow_1 : decode cX6_openNow 1 = .ok (.getfield 24, 3) := by decide +kernel
theorem dX6_openNow_4 : decode cX6_openNow 4 = .ok (.invokevirtual 93, 3) := by decide +kernel
theorem dX6_openNow_7 : decode cX6_openNow 7 = .ok (.aload_n 0, 1) := by decide +kernel
theorem dX6_openNow_8 : decode cX6_openNow 8 = .ok (.getfield 43, 3) := by decide +kernel
theorem dX6_openNow_11 : decode cX6_openNow 11 = .ok (.iconst (-1), 1) := by decide +kernel
theorem dX6_openNow_12 : decode cX6_openNow 12 = .ok (.ixor, 1) := by decide +kernel
theorem dX6_openNow_13 : decode cX6_openNow 13 = .ok (.iand, 1) := by decide +kernel
theorem dX6_openNow_14 : decode cX6_openNow 14 = .ok (.istore_n 1, 1) := by decide +kernel
theorem dX6_openNow_15 : decode cX6_openNow 15 = .ok (.aload_n 0, 1) := by decide +kernel
theorem dX6_openNow_16 : decode cX6_openNow 16 = .ok (.getfield 36, 3) := by decide +kernel
theorem dX6_openNow_19 : decode cX6_openNow 19 = .ok (.bipush 7, 2) := by decide +kernel
theorem dX6_openNow_21 : decode cX6_openNow 21 = .ok (.if_icmp .ne 21, 3) := by decide +kernel
theorem dX6_openNow_24 : decode cX6_openNow 24 = .ok (.aload_n 0, 1) := by decide +kernel
theorem dX6_openNow_25 : decode cX6_openNow 25 = .ok (.getfield 28, 3) := by decide +kernel
theorem dX6_openNow_28 : decode cX6_openNow 28 = .ok (.iload_n 1, 1) := by decide +kernel
theorem dX6_openNow_29 : decode cX6_openNow 29 = .ok (.aload_n 0, 1) := by decide +kernel
theorem dX6_openNow_30 : decode cX6_openNow 30 = .ok (.getfield 24, 3) := by decide +kernel
theorem dX6_openNow_33 : decode cX6_openNow 33 = .ok (.getfield 84, 3) := by decide +kernel
theorem dX6_openNow_36 : decode cX6_openNow 36 = .ok (.invokevirtual 96, 3) := by decide +kernel
theorem dX6_openNow_39 : decode cX6_openNow 39 = .ok (.goto 4, 3) := by decide +kernel
theorem dX6_openNow_42 : decode cX6_openNow 42 = .ok (.iload_n 1, 1) := by decide +kernel
theorem dX6_openNow_43 : decode cX6_openNow 43 = .ok (.ireturn, 1) := by decide +kernel
set_option maxHeartbeats 4000000 in
set_option maxRecDepth 100000 in
theorem s_X6_openNow_45 (l : Launch) (D : va_G) (K : Nat → ClassId) (ad : Nat → Nat) (mm : Option Nat) (N : Nat) (hNN : 132 ≤ N) (v ar : sI) (al : sL) (hI : XI v) : Met l yX6_openNow (wM yX6_openNow cX6_openNow 2 (some .int)) (rmD 3) (va_Pc [.ref (ad 45)] (wPre D K ad (xG ad K mm) N v ar al)) (vp_Si (fun r => ∃ z : Int, (-2147483648 ≤ z ∧ z ≤ 2147483647) ∧ r = iI z)) 0 0 (fun _ => False) := by
  refine s_metP (by decide) (Nat.le_of_ble_eq_true rfl) ?_
  intro p e s m below meth c ls args Q hE hB hl kr
  have hE : CallFix p m c cX6_openNow 2 s args tbG "TaleCourt$Survey" := hE
  obtain ⟨hP, hK, hN⟩ := hB
  have hl : lv_has ls 2 [(0, .ref (ad 45))] := hl
  refine lv_aload_n hE.1 hE.2.1 dX6_openNow_0 rfl (lv_at hl 0 rfl) ?_
  refine x_get (x := .ref (ad 48)) hE hK hP 45 (Nat.lt_of_lt_of_le (by decide) hNN) (xG_6 rfl) rfl hin6 0 (by decide) mw_386 rfl dX6_openNow_1 ?_
  refine x_vp (nn := 0) (As := []) (rest := []) hE (s_X7_tellable_48 l D K ad mm N hNN v ar al hI  ) wPre_blind (wPre_now hK hN hP) (x_recv hK hP 48 (Nat.lt_of_lt_of_le (by decide) hNN) (xG_7 rfl) rfl) rfl mw_936 mw_842 mw_843 mw_117 mw_844 (by decide +kernel) ⟨by decide, by decide⟩ hl.1 rfl (Nat.le_of_ble_eq_true rfl) ⟨Nat.zero_le _, Nat.zero_le _⟩ dX6_openNow_4 (fun r1 hr1 => ?_)
  obtain ⟨z1, hz1, rfl⟩ := hr1
  refine lv_aload_n hE.1 hE.2.1 dX6_openNow_7 rfl (lv_at hl 0 rfl) ?_
  obtain ⟨z2, hz2, ez2⟩ := iI_of (v 45 7)
  refine x_get (x := .int (v 45 7)) hE hK hP 45 (Nat.lt_of_lt_of_le (by decide) hNN) (xG_6 rfl) rfl hin6 7 (by decide) mw_393 rfl dX6_openNow_8 ?_
  refine x_top (y := iI (z2)) ez2 ?_
  refine lv_iconst (v := iI (-1)) hE.1 hE.2.1 dX6_openNow_11 (by decide) ?_
  refine lv_ixor hE.1 hE.2.1 dX6_openNow_12 ?_
  obtain ⟨z3, hz3, ez3⟩ := iI_of (iI (z2) ^^^ iI (-1))
  refine x_top ez3 ?_
  refine lv_iand hE.1 hE.2.1 dX6_openNow_13 ?_
  obtain ⟨z4, hz4, ez4⟩ := iI_of (iI (z1) &&& iI (z3))
  refine x_top ez4 ?_
  refine lv_istore_n (lv' := [(1, .int (iI (z4))), (0, .ref (ad 45))]) hE.1 hE.2.1 dX6_openNow_14 rfl hl (by decide) rfl (fun ls hl => ?_)
  refine lv_aload_n hE.1 hE.2.1 dX6_openNow_15 rfl (lv_at hl 1 rfl) ?_
  obtain ⟨z5, hz5, ez5⟩ := iI_of (v 45 5)
  refine x_get (x := .int (v 45 5)) hE hK hP 45 (Nat.lt_of_lt_of_le (by decide) hNN) (xG_6 rfl) rfl hin6 5 (by decide) mw_391 rfl dX6_openNow_16 ?_
  refine x_top (y := iI (z5)) ez5 ?_
  refine lv_bipush (v := iI (7)) hE.1 hE.2.1 dX6_openNow_19 (by decide) ?_
  refine s_icmp_ne (a := z5) (b := 7) (tgt := 42) hE.1 hE.2.1 (by omega) (by omega) dX6_openNow_21 (by decide) (fun c6 => ?_) (fun c6 => ?_)
  · skip
    refine lv_iload_n hE.1 hE.2.1 dX6_openNow_42 rfl (lv_at hl 0 rfl) ?_
    exact kr _ _ _ rfl ⟨z4, by omega, rfl⟩ dX6_openNow_43
  · skip
    refine lv_aload_n hE.1 hE.2.1 dX6_openNow_24 rfl (lv_at hl 1 rfl) ?_
    refine x_get (x := .ref (ad 39)) hE hK hP 45 (Nat.lt_of_lt_of_le (by decide) hNN) (xG_6 rfl) rfl hin6 1 (by decide) mw_387 rfl dX6_openNow_25 ?_
    refine lv_iload_n hE.1 hE.2.1 dX6_openNow_28 rfl (lv_at hl 0 rfl) ?_
    refine lv_aload_n hE.1 hE.2.1 dX6_openNow_29 rfl (lv_at hl 1 rfl) ?_
    refine x_get (x := .ref (ad 48)) hE hK hP 45 (Nat.lt_of_lt_of_le (by decide) hNN) (xG_6 rfl) rfl hin6 0 (by decide) mw_386 rfl dX6_openNow_30 ?_
    obtain ⟨z7, hz7, ez7⟩ := iI_of (v 48 3)
    refine x_get (x := .int (v 48 3)) hE hK hP 48 (Nat.lt_of_lt_of_le (by decide) hNN) (xG_7 rfl) rfl hin7 3 (by decide) mw_306 rfl dX6_openNow_33 ?_
    refine x_top (y := iI (z7)) ez7 ?_
    refine x_vp (nn := 2) (As := [.int (iI (z4)), .int (iI (z7))]) (rest := []) hE (s_X0_allowedOf_39 l D K ad mm N hNN v ar al hI  (z4) (by omega) (z7) (by omega)) wPre_blind (wPre_now hK hN hP) (x_recv hK hP 39 (Nat.lt_of_lt_of_le (by decide) hNN) (xG_0 rfl) rfl) rfl mw_937 mw_938 mw_939 mw_118 mw_940 (by decide +kernel) ⟨by decide, by decide⟩ hl.1 rfl (Nat.le_of_ble_eq_true rfl) ⟨Nat.zero_le _, Nat.zero_le _⟩ dX6_openNow_36 (fun r8 hr8 => ?_)
    obtain ⟨z8, hz8, rfl⟩ := hr8
    refine lv_goto (tgt := 43) hE.1 hE.2.1 dX6_openNow_39 (by decide) ?_
    exact kr _ _ _ rfl ⟨z8, by omega, rfl⟩ dX6_openNow_43

set_option maxHeartbeats 4000000 in
set_option maxRecDepth 100000 in
theorem s_X7_hasRoom_48 (l : Launch) (D : va_G) (K : Nat → ClassId) (ad : Nat → Nat) (mm : Option Nat) (N : Nat) (hNN : 132 ≤ N) (v ar : sI) (al : sL) (hI : XI v) (w_1 : Int) (hw_1 : 0 ≤ w_1 ∧ w_1 ≤ 18) (ew_1 : v 48 2 = iI w_1) : Met l yX7_hasRoom (wM yX7_hasRoom cX7_hasRoom 1 (some .boolean)) (rmD 0) (va_Pc [.ref (ad 48)] (wPre D K ad (xG ad K mm) N v ar al)) (vp_Si (fun r => ∃ z : Int, (z = 0 ∨ (z = 1 ∧ 0 ≤ w_1 ∧ w_1 ≤ 17)) ∧ r = iI z)) 0 0 (fun _ => False) := by
  refine s_metP (by decide) (Nat.le_of_ble_eq_true rfl) ?_
  intro p e s m below meth c ls args Q hE hB hl kr
  have hE : CallFix p m c cX7_hasRoom 1 s args tbG "TaleCourt$Telling" := hE
  obtain ⟨hP, hK, hN⟩ := hB
  have hl : lv_has ls 1 [(0, .ref (ad 48))] := hl
  refine lv_aload_n hE.1 hE.2.1 dX7_hasRoom_0 rfl (lv_at hl 0 rfl) ?_
  refine x_get (x := .int (v 48 2)) hE hK hP 48 (Nat.lt_of_lt_of_le (by decide) hNN) (xG_7 rfl) rfl hin7 2 (by decide) mw_301 rfl dX7_hasRoom_1 ?_
  refine x_top (y := iI (w_1)) ew_1 ?_
  refine s_if_lt (a := w_1) (tgt := 20) hE.1 hE.2.1 (by omega) dX7_hasRoom_4 (by decide) (fun c1 => False.elim (by omega)) (fun _ => ?_)
  refine lv_aload_n hE.1 hE.2.1 dX7_hasRoom_7 rfl (lv_at hl 0 rfl) ?_
  refine x_get (x := .int (v 48 2)) hE hK hP 48 (Nat.lt_of_lt_of_le (by decide) hNN) (xG_7 rfl) rfl hin7 2 (by decide) mw_301 rfl dX7_hasRoom_8 ?_
  refine x_top (y := iI (w_1)) ew_1 ?_
  refine lv_bipush (v := iI (18)) hE.1 hE.2.1 dX7_hasRoom_11 (by decide) ?_
  refine s_icmp_ge (a := w_1) (b := 18) (tgt := 20) hE.1 hE.2.1 (by omega) (by omega) dX7_hasRoom_13 (by decide) (fun c2 => ?_) (fun c2 => ?_)
  · skip
    refine lv_iconst (v := iI (0)) hE.1 hE.2.1 dX7_hasRoom_20 (by decide) ?_
    exact kr _ _ _ (nar01 (by omega)) ⟨0, by omega, rfl⟩ dX7_hasRoom_21
  · skip
    refine lv_iconst (v := iI (1)) hE.1 hE.2.1 dX7_hasRoom_16 (by decide) ?_
    refine lv_goto (tgt := 21) hE.1 hE.2.1 dX7_hasRoom_17 (by decide) ?_
    exact kr _ _ _ (nar01 (by omega)) ⟨1, by omega, rfl⟩ dX7_hasRoom_21

set_option maxHeartbeats 4000000 in
set_option maxRecDepth 100000 in
theorem s_X7_remember_48 (l : Launch) (D : va_G) (K : Nat → ClassId) (ad : Nat → Nat) (mm : Option Nat) (N : Nat) (hNN : 132 ≤ N) (v ar : sI) (al : sL) (hI : XI v) (w_1 : Int) (hw_1 : 0 ≤ w_1 ∧ w_1 ≤ 17) (ew_1 : v 48 2 = iI w_1) (z_1 : Int) (hz_1 : -2147483648 ≤ z_1 ∧ z_1 ≤ 2147483647) : Met l yX7_remember (wM yX7_remember cX7_remember 2 none) (rmD 0) (va_Pc [.ref (ad 48), .int (iI (z_1))] (wPre D K ad (xG ad K mm) N v ar al)) (va_Qv (fun u : sT => XI u.1 ∧ (∀ i j : Nat, (i, j) ∉ ([] : List (Nat × Nat)) → u.1 i j = v i j)) (wB D ad (xG ad K mm) N) (inW ad N)) 0 0 (inW ad N) := by
  refine s_metV (by decide) (Nat.le_of_ble_eq_true rfl) ?_
  intro p e s m below meth c ls args Q hE hB hl kr
  have hE : CallFix p m c cX7_remember 2 s args tbG "TaleCourt$Telling" := hE
  obtain ⟨hP, hK, hN⟩ := hB
  have hS : va_S (inW ad N) s.heap s.heap [] := va_S.rf
  have hl : lv_has ls 2 [(0, .ref (ad 48)), (1, .int (iI (z_1)))] := hl
  refine lv_aload_n hE.1 hE.2.1 dX7_remember_0 rfl (lv_at hl 0 rfl) ?_
  refine x_get (x := .ref (ad 49)) hE hK hP 48 (Nat.lt_of_lt_of_le (by decide) hNN) (xG_7 rfl) rfl hin7 0 (by decide) mw_295 rfl dX7_remember_1 ?_
  refine lv_aload_n hE.1 hE.2.1 dX7_remember_4 rfl (lv_at hl 0 rfl) ?_
  refine x_get (x := .int (v 48 2)) hE hK hP 48 (Nat.lt_of_lt_of_le (by decide) hNN) (xG_7 rfl) rfl hin7 2 (by decide) mw_301 rfl dX7_remember_5 ?_
  refine x_top (y := iI (w_1)) ew_1 ?_
  refine lv_iload_n hE.1 hE.2.1 dX7_remember_8 rfl (lv_at hl 1 rfl) ?_
  refine x_iast (j := iI (w_1)) hE hK hN hP hS 49 (Nat.lt_of_lt_of_le (by decide) hNN) (fun _ => xG_10 rfl) (iI_in (n := 18) (by omega)) dX7_remember_9 (fun ar1 H locs ha1 hP hS => ?_)
  refine lv_aload_n hE.1 hE.2.1 dX7_remember_10 rfl (lv_at hl 0 rfl) ?_
  refine x_get (x := .ref (ad 52)) hE hK hP 48 (Nat.lt_of_lt_of_le (by decide) hNN) (xG_7 rfl) rfl hin7 10 (by decide) mw_319 rfl dX7_remember_11 ?_
  refine lv_aload_n hE.1 hE.2.1 dX7_remember_14 rfl (lv_at hl 0 rfl) ?_
  refine x_get (x := .int (v 48 2)) hE hK hP 48 (Nat.lt_of_lt_of_le (by decide) hNN) (xG_7 rfl) rfl hin7 2 (by decide) mw_301 rfl dX7_remember_15 ?_
  refine x_top (y := iI (w_1)) ew_1 ?_
  refine lv_aload_n hE.1 hE.2.1 dX7_remember_18 rfl (lv_at hl 0 rfl) ?_
  obtain ⟨z2, hz2, ez2⟩ := iI_of (v 48 4)
  refine x_get (x := .int (v 48 4)) hE hK hP 48 (Nat.lt_of_lt_of_le (by decide) hNN) (xG_7 rfl) rfl hin7 4 (by decide) mw_309 rfl dX7_remember_19 ?_
  refine x_top (y := iI (z2)) ez2 ?_
  refine x_iast (j := iI (w_1)) hE hK hN hP hS 52 (Nat.lt_of_lt_of_le (by decide) hNN) (fun _ => xG_10 rfl) (iI_in (n := 18) (by omega)) dX7_remember_22 (fun ar3 H locs ha3 hP hS => ?_)
  refine lv_aload_n hE.1 hE.2.1 dX7_remember_23 rfl (lv_at hl 0 rfl) ?_
  refine x_get (x := .ref (ad 53)) hE hK hP 48 (Nat.lt_of_lt_of_le (by decide) hNN) (xG_7 rfl) rfl hin7 11 (by decide) mw_320 rfl dX7_remember_24 ?_
  refine lv_aload_n hE.1 hE.2.1 dX7_remember_27 rfl (lv_at hl 0 rfl) ?_
  refine x_get (x := .int (v 48 2)) hE hK hP 48 (Nat.lt_of_lt_of_le (by decide) hNN) (xG_7 rfl) rfl hin7 2 (by decide) mw_301 rfl dX7_remember_28 ?_
  refine x_top (y := iI (w_1)) ew_1 ?_
  refine lv_aload_n hE.1 hE.2.1 dX7_remember_31 rfl (lv_at hl 0 rfl) ?_
  obtain ⟨z4, hz4, ez4⟩ := iI_of (v 48 8)
  refine x_get (x := .int (v 48 8)) hE hK hP 48 (Nat.lt_of_lt_of_le (by decide) hNN) (xG_7 rfl) rfl hin7 8 (by decide) mw_317 rfl dX7_remember_32 ?_
  refine x_top (y := iI (z4)) ez4 ?_
  refine x_iast (j := iI (w_1)) hE hK hN hP hS 53 (Nat.lt_of_lt_of_le (by decide) hNN) (fun _ => xG_10 rfl) (iI_in (n := 18) (by omega)) dX7_remember_35 (fun ar5 H locs ha5 hP hS => ?_)
  refine lv_aload_n hE.1 hE.2.1 dX7_remember_36 rfl (lv_at hl 0 rfl) ?_
  refine x_get (x := .ref (ad 54)) hE hK hP 48 (Nat.lt_of_lt_of_le (by decide) hNN) (xG_7 rfl) rfl hin7 12 (by decide) mw_321 rfl dX7_remember_37 ?_
  refine lv_aload_n hE.1 hE.2.1 dX7_remember_40 rfl (lv_at hl 0 rfl) ?_
  refine x_get (x := .int (v 48 2)) hE hK hP 48 (Nat.lt_of_lt_of_le (by decide) hNN) (xG_7 rfl) rfl hin7 2 (by decide) mw_301 rfl dX7_remember_41 ?_
  refine x_top (y := iI (w_1)) ew_1 ?_
  refine lv_aload_n hE.1 hE.2.1 dX7_remember_44 rfl (lv_at hl 0 rfl) ?_
  obtain ⟨z6, hz6, ez6⟩ := iI_of (v 48 9)
  refine x_get (x := .int (v 48 9)) hE hK hP 48 (Nat.lt_of_lt_of_le (by decide) hNN) (xG_7 rfl) rfl hin7 9 (by decide) mw_318 rfl dX7_remember_45 ?_
  refine x_top (y := iI (z6)) ez6 ?_
  refine x_iast (j := iI (w_1)) hE hK hN hP hS 54 (Nat.lt_of_lt_of_le (by decide) hNN) (fun _ => xG_10 rfl) (iI_in (n := 18) (by omega)) dX7_remember_48 (fun ar7 H locs ha7 hP hS => ?_)
  exact kr _ _ _ _ _ _ _ ⟨hI, fun i j h => rfl⟩ hP hS dX7_remember_49

set_option maxHeartbeats 4000000 in
set_option maxRecDepth 100000 in
theorem s_X7_owe_48 (l : Launch) (D : va_G) (K : Nat → ClassId) (ad : Nat → Nat) (mm : Option Nat) (N : Nat) (hNN : 132 ≤ N) (v ar : sI) (al : sL) (hI : XI v) (w_1 : Int) (hw_1 : 0 ≤ w_1 ∧ w_1 ≤ 17) (ew_1 : v 48 2 = iI w_1) (z_1 : Int) (hz_1 : -2147483648 ≤ z_1 ∧ z_1 ≤ 2147483647) (z_2 : Int) (hz_2 : -2147483648 ≤ z_2 ∧ z_2 ≤ 2147483647) : Met l yX7_owe (wM yX7_owe cX7_owe 3 none) (rmD 0) (va_Pc [.ref (ad 48), .int (iI (z_1)), .int (iI (z_2))] (wPre D K ad (xG ad K mm) N v ar al)) (va_Qv (fun u : sT => XI u.1 ∧ (∀ i j : Nat, (i, j) ∉ ([(48, 9)] : List (Nat × Nat)) → u.1 i j = v i j)) (wB D ad (xG ad K mm) N) (inW ad N)) 0 0 (inW ad N) := by
  refine s_metV (by decide) (Nat.le_of_ble_eq_true rfl) ?_
  intro p e s m below meth c ls args Q hE hB hl kr
  have hE : CallFix p m c cX7_owe 3 s args tbG "TaleCourt$Telling" := hE
  obtain ⟨hP, hK, hN⟩ := hB
  have hS : va_S (inW ad N) s.heap s.heap [] := va_S.rf
  have hl : lv_has ls 3 [(0, .ref (ad 48)), (1, .int (iI (z_1))), (2, .int (iI (z_2)))] := hl
  refine lv_iload_n hE.1 hE.2.1 dX7_owe_0 rfl (lv_at hl 1 rfl) ?_
  refine s_if_lt (a := z_1) (tgt := 10) hE.1 hE.2.1 (by omega) dX7_owe_1 (by decide) (fun c1 => ?_) (fun c1 => ?_)
  · skip
    exact kr _ _ _ _ _ _ _ ⟨hI, fun i j h => rfl⟩ hP hS dX7_owe_10
  · skip
    refine lv_iload_n hE.1 hE.2.1 dX7_owe_4 rfl (lv_at hl 1 rfl) ?_
    refine lv_bipush (v := iI (9)) hE.1 hE.2.1 dX7_owe_5 (by decide) ?_
    refine s_icmp_lt (a := z_1) (b := 9) (tgt := 11) hE.1 hE.2.1 (by omega) (by omega) dX7_owe_7 (by decide) (fun c2 => ?_) (fun c2 => ?_)
    · skip
      refine lv_aload_n hE.1 hE.2.1 dX7_owe_11 rfl (lv_at hl 0 rfl) ?_
      refine x_get (x := .ref (ad 55)) hE hK hP 48 (Nat.lt_of_lt_of_le (by decide) hNN) (xG_7 rfl) rfl hin7 13 (by decide) mw_322 rfl dX7_owe_12 ?_
      refine lv_aload_n hE.1 hE.2.1 dX7_owe_15 rfl (lv_at hl 0 rfl) ?_
      refine x_get (x := .int (v 48 2)) hE hK hP 48 (Nat.lt_of_lt_of_le (by decide) hNN) (xG_7 rfl) rfl hin7 2 (by decide) mw_301 rfl dX7_owe_16 ?_
      refine x_top (y := iI (w_1)) ew_1 ?_
      refine lv_aload_n hE.1 hE.2.1 dX7_owe_19 rfl (lv_at hl 0 rfl) ?_
      refine x_get (x := .ref (ad 50)) hE hK hP 48 (Nat.lt_of_lt_of_le (by decide) hNN) (xG_7 rfl) rfl hin7 1 (by decide) mw_299 rfl dX7_owe_20 ?_
      refine lv_iload_n hE.1 hE.2.1 dX7_owe_23 rfl (lv_at hl 1 rfl) ?_
      refine x_iald (j := iI (z_1)) hE hK hP 50 (Nat.lt_of_lt_of_le (by decide) hNN) (xG_10 rfl) (iI_in (n := 9) (by omega)) dX7_owe_24 ?_
      obtain ⟨z4, hz4, ez4⟩ := iI_of (ar 50 (iI (z_1)).toNatClampNeg)
      refine x_top ez4 ?_
      refine x_iast (j := iI (w_1)) hE hK hN hP hS 55 (Nat.lt_of_lt_of_le (by decide) hNN) (fun _ => xG_10 rfl) (iI_in (n := 18) (by omega)) dX7_owe_25 (fun ar5 H locs ha5 hP hS => ?_)
      refine lv_aload_n hE.1 hE.2.1 dX7_owe_26 rfl (lv_at hl 0 rfl) ?_
      obtain ⟨z6, hz6, ez6⟩ := iI_of (v 48 9)
      refine x_get (x := .int (v 48 9)) hE hK hP 48 (Nat.lt_of_lt_of_le (by decide) hNN) (xG_7 rfl) rfl hin7 9 (by decide) mw_318 rfl dX7_owe_27 ?_
      refine x_top (y := iI (z6)) ez6 ?_
      refine lv_iload_n hE.1 hE.2.1 dX7_owe_30 rfl (lv_at hl 1 rfl) ?_
      refine lv_ishr hE.1 hE.2.1 dX7_owe_31 ?_
      obtain ⟨z7, hz7, ez7⟩ := iI_of (iI (z6) >>> (iI (z_1) &&& 31))
      refine x_top ez7 ?_
      refine lv_iconst (v := iI (1)) hE.1 hE.2.1 dX7_owe_32 (by decide) ?_
      refine lv_iand hE.1 hE.2.1 dX7_owe_33 ?_
      obtain ⟨z8, hz8, ez8⟩ := iI_and (iI (z7)) (iI (1)) 1 (by decide)
      refine x_top ez8 ?_
      refine s_if_eq (a := z8) (tgt := 47) hE.1 hE.2.1 (by omega) dX7_owe_34 (by decide) (fun c9 => ?_) (fun c9 => ?_)
      · skip
        refine lv_aload_n hE.1 hE.2.1 dX7_owe_47 rfl (lv_at hl 0 rfl) ?_
        refine x_get (x := .ref (ad 50)) hE hK hP 48 (Nat.lt_of_lt_of_le (by decide) hNN) (xG_7 rfl) rfl hin7 1 (by decide) mw_299 rfl dX7_owe_48 ?_
        refine lv_iload_n hE.1 hE.2.1 dX7_owe_51 rfl (lv_at hl 1 rfl) ?_
        refine lv_iload_n hE.1 hE.2.1 dX7_owe_52 rfl (lv_at hl 2 rfl) ?_
        refine x_iast (j := iI (z_1)) hE hK hN hP hS 50 (Nat.lt_of_lt_of_le (by decide) hNN) (fun _ => xG_10 rfl) (iI_in (n := 9) (by omega)) dX7_owe_53 (fun ar10 H locs ha10 hP hS => ?_)
        refine lv_aload_n hE.1 hE.2.1 dX7_owe_54 rfl (lv_at hl 0 rfl) ?_
        refine lv_dup hE.1 hE.2.1 dX7_owe_55 rfl ?_
        refine x_get (x := .int (v 48 9)) hE hK hP 48 (Nat.lt_of_lt_of_le (by decide) hNN) (xG_7 rfl) rfl hin7 9 (by decide) mw_318 rfl dX7_owe_56 ?_
        refine x_top (y := iI (z6)) ez6 ?_
        refine lv_iconst (v := iI (1)) hE.1 hE.2.1 dX7_owe_59 (by decide) ?_
        refine lv_iload_n hE.1 hE.2.1 dX7_owe_60 rfl (lv_at hl 1 rfl) ?_
        refine lv_ishl hE.1 hE.2.1 dX7_owe_61 ?_
        obtain ⟨z11, hz11, ez11⟩ := iI_shl1 (a := z_1) (by omega)
        refine x_top ez11 ?_
        refine lv_ior hE.1 hE.2.1 dX7_owe_62 ?_
        obtain ⟨z12, hz12, ez12⟩ := iI_of (iI (z6) ||| iI (z11))
        refine x_top ez12 ?_
        refine x_put (x := iI (z12)) hE hK hN hP hS 48 (Nat.lt_of_lt_of_le (by decide) hNN) (xG_7 rfl) rfl hin7 tyX7 tyX7_ok nmX7 9 (by decide) mw_318 rfl rfl rfl (Nat.le_of_ble_eq_true rfl) (xG_7 rfl) dX7_owe_63 (fun v13 H locs hv13 hP hS => ?_)
        have hI := XI_putN hI hv13 (by decide)
        exact kr _ _ _ _ _ _ _ ⟨hI, fun i j h => (up_oth hv13 (fun q => h (by rcases q with ⟨rfl, rfl⟩; decide)))⟩ hP hS dX7_owe_66
      · skip
        refine lv_iload_n hE.1 hE.2.1 dX7_owe_37 rfl (lv_at hl 2 rfl) ?_
        refine lv_aload_n hE.1 hE.2.1 dX7_owe_38 rfl (lv_at hl 0 rfl) ?_
        refine x_get (x := .ref (ad 50)) hE hK hP 48 (Nat.lt_of_lt_of_le (by decide) hNN) (xG_7 rfl) rfl hin7 1 (by decide) mw_299 rfl dX7_owe_39 ?_
        refine lv_iload_n hE.1 hE.2.1 dX7_owe_42 rfl (lv_at hl 1 rfl) ?_
        refine x_iald (j := iI (z_1)) hE hK hP 50 (Nat.lt_of_lt_of_le (by decide) hNN) (xG_10 rfl) (iI_in (n := 9) (by omega)) dX7_owe_43 ?_
        obtain ⟨z15, hz15, ez15⟩ := iI_of (ar5 50 (iI (z_1)).toNatClampNeg)
        refine x_top ez15 ?_
        refine s_icmp_ge (a := z_2) (b := z15) (tgt := 54) hE.1 hE.2.1 (by omega) (by omega) dX7_owe_44 (by decide) (fun c16 => ?_) (fun c16 => ?_)
        · skip
          refine lv_aload_n hE.1 hE.2.1 dX7_owe_54 rfl (lv_at hl 0 rfl) ?_
          refine lv_dup hE.1 hE.2.1 dX7_owe_55 rfl ?_
          refine x_get (x := .int (v 48 9)) hE hK hP 48 (Nat.lt_of_lt_of_le (by decide) hNN) (xG_7 rfl) rfl hin7 9 (by decide) mw_318 rfl dX7_owe_56 ?_
          refine x_top (y := iI (z6)) ez6 ?_
          refine lv_iconst (v := iI (1)) hE.1 hE.2.1 dX7_owe_59 (by decide) ?_
          refine lv_iload_n hE.1 hE.2.1 dX7_owe_60 rfl (lv_at hl 1 rfl) ?_
          refine lv_ishl hE.1 hE.2.1 dX7_owe_61 ?_
          obtain ⟨z17, hz17, ez17⟩ := iI_shl1 (a := z_1) (by omega)
          refine x_top ez17 ?_
          refine lv_ior hE.1 hE.2.1 dX7_owe_62 ?_
          obtain ⟨z18, hz18, ez18⟩ := iI_of (iI (z6) ||| iI (z17))
          refine x_top ez18 ?_
          refine x_put (x := iI (z18)) hE hK hN hP hS 48 (Nat.lt_of_lt_of_le (by decide) hNN) (xG_7 rfl) rfl hin7 tyX7 tyX7_ok nmX7 9 (by decide) mw_318 rfl rfl rfl (Nat.le_of_ble_eq_true rfl) (xG_7 rfl) dX7_owe_63 (fun v19 H locs hv19 hP hS => ?_)
          have hI := XI_putN hI hv19 (by decide)
          exact kr _ _ _ _ _ _ _ ⟨hI, fun i j h => (up_oth hv19 (fun q => h (by rcases q with ⟨rfl, rfl⟩; decide)))⟩ hP hS dX7_owe_66
        · skip
          refine lv_aload_n hE.1 hE.2.1 dX7_owe_47 rfl (lv_at hl 0 rfl) ?_
          refine x_get (x := .ref (ad 50)) hE hK hP 48 (Nat.lt_of_lt_of_le (by decide) hNN) (xG_7 rfl) rfl hin7 1 (by decide) mw_299 rfl dX7_owe_48 ?_
          refine lv_iload_n hE.1 hE.2.1 dX7_owe_51 rfl (lv_at hl 1 rfl) ?_
          refine lv_iload_n hE.1 hE.2.1 dX7_owe_52 rfl (lv_at hl 2 rfl) ?_
          refine x_iast (j := iI (z_1)) hE hK hN hP hS 50 (Nat.lt_of_lt_of_le (by decide) hNN) (fun _ => xG_10 rfl) (iI_in (n := 9) (by omega)) dX7_owe_53 (fun ar20 H locs ha20 hP hS => ?_)
          refine lv_aload_n hE.1 hE.2.1 dX7_owe_54 rfl (lv_at hl 0 rfl) ?_
          refine lv_dup hE.1 hE.2.1 dX7_owe_55 rfl ?_
          refine x_get (x := .int (v 48 9)) hE hK hP 48 (Nat.lt_of_lt_of_le (by decide) hNN) (xG_7 rfl) rfl hin7 9 (by decide) mw_318 rfl dX7_owe_56 ?_
          refine x_top (y := iI (z6)) ez6 ?_
          refine lv_iconst (v := iI (1)) hE.1 hE.2.1 dX7_owe_59 (by decide) ?_
          refine lv_iload_n hE.1 hE.2.1 dX7_owe_60 rfl (lv_at hl 1 rfl) ?_
          refine lv_ishl hE.1 hE.2.1 dX7_owe_61 ?_
          obtain ⟨z21, hz21, ez21⟩ := iI_shl1 (a := z_1) (by omega)
          refine x_top ez21 ?_
          refine lv_ior hE.1 hE.2.1 dX7_owe_62 ?_
          obtain ⟨z22, hz22, ez22⟩ := iI_of (iI (z6) ||| iI (z21))
          refine x_top ez22 ?_
          refine x_put (x := iI (z22)) hE hK hN hP hS 48 (Nat.lt_of_lt_of_le (by decide) hNN) (xG_7 rfl) rfl hin7 tyX7 tyX7_ok nmX7 9 (by decide) mw_318 rfl rfl rfl (Nat.le_of_ble_eq_true rfl) (xG_7 rfl) dX7_owe_63 (fun v23 H locs hv23 hP hS => ?_)
          have hI := XI_putN hI hv23 (by decide)
          exact kr _ _ _ _ _ _ _ ⟨hI, fun i j h => (up_oth hv23 (fun q => h (by rcases q with ⟨rfl, rfl⟩; decide)))⟩ hP hS dX7_owe_66
    · skip
      exact kr _ _ _ _ _ _ _ ⟨hI, fun i j h => rfl⟩ hP hS dX7_owe_10

set_option maxHeartbeats 4000000 in
set_option maxRecDepth 100000 in
theorem s_X7_tell_48 (l : Launch) (D : va_G) (K : Nat → ClassId) (ad : Nat → Nat) (mm : Option Nat) (N : Nat) (hNN : 132 ≤ N) (v ar : sI) (al : sL) (hI : XI v) (z_1 : Int) (hz_1 : -2147483648 ≤ z_1 ∧ z_1 ≤ 2147483647) : Met l yX7_tell (wM yX7_tell cX7_tell 2 none) (rmD 1) (va_Pc [.ref (ad 48), .int (iI (z_1))] (wPre D K ad (xG ad K mm) N v ar al)) (va_Qv (fun u : sT => XI u.1 ∧ (∀ i j : Nat, (i, j) ∉ ([(48, 2), (48, 3), (48, 4), (48, 5), (48, 8), (48, 9)] : List (Nat × Nat)) → u.1 i j = v i j)) (wB D ad (xG ad K mm) N) (inW ad N)) 0 0 (inW ad N) := by
  refine s_metV (by decide) (Nat.le_of_ble_eq_true rfl) ?_
  intro p e s m below meth c ls args Q hE hB hl kr
  have hE : CallFix p m c cX7_tell 2 s args tbG "TaleCourt$Telling" := hE
  obtain ⟨hP, hK, hN⟩ := hB
  have hS : va_S (inW ad N) s.heap s.heap [] := va_S.rf
  have hl : lv_has ls 2 [(0, .ref (ad 48)), (1, .int (iI (z_1)))] := hl
  refine lv_aload_n hE.1 hE.2.1 dX7_tell_0 rfl (lv_at hl 0 rfl) ?_
  obtain ⟨z1, hz1, ez1⟩ := XI_get hI 48 2 0 18 (by decide)
  refine x_vp (nn := 0) (As := []) (rest := []) hE (s_X7_hasRoom_48 l D K ad mm N hNN v ar al hI (z1) (by omega) ez1 ) wPre_blind (wPre_now hK hN hP) (x_recv hK hP 48 (Nat.lt_of_lt_of_le (by decide) hNN) (xG_7 rfl) rfl) rfl mw_766 mw_768 mw_18 mw_117 mw_769 (by decide +kernel) ⟨by decide, by decide⟩ hl.1 rfl (Nat.le_of_ble_eq_true rfl) ⟨Nat.zero_le _, Nat.zero_le _⟩ dX7_tell_1 (fun r2 hr2 => ?_)
  obtain ⟨z2, hz2, rfl⟩ := hr2
  refine s_if_eq (a := z2) (tgt := 18) hE.1 hE.2.1 (by omega) dX7_tell_4 (by decide) (fun c3 => ?_) (fun c3 => ?_)
  · skip
    exact kr _ _ _ _ _ _ _ ⟨hI, fun i j h => rfl⟩ hP hS dX7_tell_18
  · skip
    refine lv_aload_n hE.1 hE.2.1 dX7_tell_7 rfl (lv_at hl 0 rfl) ?_
    refine x_get (x := .ref (ad 3)) hE hK hP 48 (Nat.lt_of_lt_of_le (by decide) hNN) (xG_7 rfl) rfl hin7 6 (by decide) mw_315 rfl dX7_tell_8 ?_
    refine lv_iload_n hE.1 hE.2.1 dX7_tell_11 rfl (lv_at hl 1 rfl) ?_
    refine x_vp (nn := 1) (As := [.int (iI (z_1))]) (rest := []) hE (s_X1_hasMotif_3 l D K ad mm N hNN v ar al hI  (z_1) (by omega)) wPre_blind (wPre_now hK hN hP) (x_recv hK hP 3 (Nat.lt_of_lt_of_le (by decide) hNN) (xG_1 rfl) rfl) rfl mw_770 mw_695 mw_696 mw_116 mw_697 (by decide +kernel) ⟨by decide, by decide⟩ hl.1 rfl (Nat.le_of_ble_eq_true rfl) ⟨Nat.zero_le _, Nat.zero_le _⟩ dX7_tell_12 (fun r4 hr4 => ?_)
    obtain ⟨z4, hz4, rfl⟩ := hr4
    refine s_if_ne (a := z4) (tgt := 19) hE.1 hE.2.1 (by omega) dX7_tell_15 (by decide) (fun c5 => ?_) (fun c5 => ?_)
    · skip
      refine lv_aload_n hE.1 hE.2.1 dX7_tell_19 rfl (lv_at hl 0 rfl) ?_
      refine lv_iload_n hE.1 hE.2.1 dX7_tell_20 rfl (lv_at hl 1 rfl) ?_
      refine x_vv (nn := 1) (As := [.int (iI (z_1))]) (rest := []) hE hK hN hP hS (s_X7_remember_48 l D K ad mm N hNN v ar al hI (z1) (by omega) ez1 (z_1) (by omega)) (x_recv hK hP 48 (Nat.lt_of_lt_of_le (by decide) hNN) (xG_7 rfl) rfl) rfl mw_771 mw_773 mw_19 mw_117 mw_774 (by decide +kernel) ⟨by decide, by decide⟩ hl.1 rfl (Nat.le_of_ble_eq_true rfl) ⟨Nat.zero_le _, Nat.zero_le _⟩ dX7_tell_21 (fun v6 ar6 al6 H locs hq6 hP hS => ?_)
      obtain ⟨hI, hq6⟩ := hq6
      have hI : XI v6 := hI
      refine lv_aload_n hE.1 hE.2.1 dX7_tell_24 rfl (lv_at hl 0 rfl) ?_
      refine lv_dup hE.1 hE.2.1 dX7_tell_25 rfl ?_
      obtain ⟨z7, hz7, ez7⟩ := iI_of (v6 48 3)
      refine x_get (x := .int (v6 48 3)) hE hK hP 48 (Nat.lt_of_lt_of_le (by decide) hNN) (xG_7 rfl) rfl hin7 3 (by decide) mw_305 rfl dX7_tell_26 ?_
      refine x_top (y := iI (z7)) ez7 ?_
      refine lv_iconst (v := iI (1)) hE.1 hE.2.1 dX7_tell_29 (by decide) ?_
      refine lv_iload_n hE.1 hE.2.1 dX7_tell_30 rfl (lv_at hl 1 rfl) ?_
      refine lv_ishl hE.1 hE.2.1 dX7_tell_31 ?_
      obtain ⟨z8, hz8, ez8⟩ := iI_shl1 (a := z_1) (by omega)
      refine x_top ez8 ?_
      refine lv_ior hE.1 hE.2.1 dX7_tell_32 ?_
      obtain ⟨z9, hz9, ez9⟩ := iI_of (iI (z7) ||| iI (z8))
      refine x_top ez9 ?_
      refine x_put (x := iI (z9)) hE hK hN hP hS 48 (Nat.lt_of_lt_of_le (by decide) hNN) (xG_7 rfl) rfl hin7 tyX7 tyX7_ok nmX7 3 (by decide) mw_305 rfl rfl rfl (Nat.le_of_ble_eq_true rfl) (xG_7 rfl) dX7_tell_33 (fun v10 H locs hv10 hP hS => ?_)
      have hI := XI_putN hI hv10 (by decide)
      refine lv_aload_n hE.1 hE.2.1 dX7_tell_36 rfl (lv_at hl 0 rfl) ?_
      refine lv_iload_n hE.1 hE.2.1 dX7_tell_37 rfl (lv_at hl 1 rfl) ?_
      refine x_put (x := iI (z_1)) hE hK hN hP hS 48 (Nat.lt_of_lt_of_le (by decide) hNN) (xG_7 rfl) rfl hin7 tyX7 tyX7_ok nmX7 4 (by decide) mw_309 rfl rfl rfl (Nat.le_of_ble_eq_true rfl) (xG_7 rfl) dX7_tell_38 (fun v11 H locs hv11 hP hS => ?_)
      have hI := XI_putN hI hv11 (by decide)
      refine lv_aload_n hE.1 hE.2.1 dX7_tell_41 rfl (lv_at hl 0 rfl) ?_
      refine lv_dup hE.1 hE.2.1 dX7_tell_42 rfl ?_
      obtain ⟨z12, hz12, ez12⟩ := iI_of (v11 48 5)
      refine x_get (x := .int (v11 48 5)) hE hK hP 48 (Nat.lt_of_lt_of_le (by decide) hNN) (xG_7 rfl) rfl hin7 5 (by decide) mw_312 rfl dX7_tell_43 ?_
      refine x_top (y := iI (z12)) ez12 ?_
      refine lv_aload_n hE.1 hE.2.1 dX7_tell_46 rfl (lv_at hl 0 rfl) ?_
      refine x_get (x := .ref (ad 3)) hE hK hP 48 (Nat.lt_of_lt_of_le (by decide) hNN) (xG_7 rfl) rfl hin7 6 (by decide) mw_315 rfl dX7_tell_47 ?_
      refine lv_iload_n hE.1 hE.2.1 dX7_tell_50 rfl (lv_at hl 1 rfl) ?_
      refine x_vp (nn := 1) (As := [.int (iI (z_1))]) (rest := [.int (iI (z12)), .ref (ad 48)]) hE (s_X1_value_3 l D K ad mm N hNN v11 ar6 al6 hI  (z_1) (by omega)) wPre_blind (wPre_now hK hN hP) (x_recv hK hP 3 (Nat.lt_of_lt_of_le (by decide) hNN) (xG_1 rfl) rfl) rfl mw_775 mw_776 mw_777 mw_116 mw_778 (by decide +kernel) ⟨by decide, by decide⟩ hl.1 rfl (Nat.le_of_ble_eq_true rfl) ⟨Nat.zero_le _, Nat.zero_le _⟩ dX7_tell_51 (fun r13 hr13 => ?_)
      obtain ⟨z13, hz13, rfl⟩ := hr13
      refine lv_iadd hE.1 hE.2.1 dX7_tell_54 ?_
      obtain ⟨z14, hz14, ez14⟩ := iI_of (iI (z12) + iI (z13))
      refine x_top ez14 ?_
      refine x_put (x := iI (z14)) hE hK hN hP hS 48 (Nat.lt_of_lt_of_le (by decide) hNN) (xG_7 rfl) rfl hin7 tyX7 tyX7_ok nmX7 5 (by decide) mw_312 rfl rfl rfl (Nat.le_of_ble_eq_true rfl) (xG_7 rfl) dX7_tell_55 (fun v15 H locs hv15 hP hS => ?_)
      have hI := XI_putN hI hv15 (by decide)
      refine lv_aload_n hE.1 hE.2.1 dX7_tell_58 rfl (lv_at hl 0 rfl) ?_
      refine lv_dup hE.1 hE.2.1 dX7_tell_59 rfl ?_
      obtain ⟨z16, hz16, ez16⟩ := iI_of (v15 48 8)
      refine x_get (x := .int (v15 48 8)) hE hK hP 48 (Nat.lt_of_lt_of_le (by decide) hNN) (xG_7 rfl) rfl hin7 8 (by decide) mw_317 rfl dX7_tell_60 ?_
      refine x_top (y := iI (z16)) ez16 ?_
      refine lv_aload_n hE.1 hE.2.1 dX7_tell_63 rfl (lv_at hl 0 rfl) ?_
      refine x_get (x := .ref (ad 3)) hE hK hP 48 (Nat.lt_of_lt_of_le (by decide) hNN) (xG_7 rfl) rfl hin7 6 (by decide) mw_315 rfl dX7_tell_64 ?_
      refine x_get (x := .ref (ad 9)) hE hK hP 3 (Nat.lt_of_lt_of_le (by decide) hNN) (xG_1 rfl) rfl hin1 16 (by decide) mw_238 rfl dX7_tell_67 ?_
      refine lv_iload_n hE.1 hE.2.1 dX7_tell_70 rfl (lv_at hl 1 rfl) ?_
      refine x_iald (j := iI (z_1)) hE hK hP 9 (Nat.lt_of_lt_of_le (by decide) hNN) (xG_10 rfl) (iI_in (n := 9) (by omega)) dX7_tell_71 ?_
      obtain ⟨z18, hz18, ez18⟩ := iI_of (ar6 9 (iI (z_1)).toNatClampNeg)
      refine x_top ez18 ?_
      refine lv_ior hE.1 hE.2.1 dX7_tell_72 ?_
      obtain ⟨z19, hz19, ez19⟩ := iI_of (iI (z16) ||| iI (z18))
      refine x_top ez19 ?_
      refine x_put (x := iI (z19)) hE hK hN hP hS 48 (Nat.lt_of_lt_of_le (by decide) hNN) (xG_7 rfl) rfl hin7 tyX7 tyX7_ok nmX7 8 (by decide) mw_317 rfl rfl rfl (Nat.le_of_ble_eq_true rfl) (xG_7 rfl) dX7_tell_73 (fun v20 H locs hv20 hP hS => ?_)
      have hI := XI_putN hI hv20 (by decide)
      refine lv_aload_n hE.1 hE.2.1 dX7_tell_76 rfl (lv_at hl 0 rfl) ?_
      refine lv_aload_n hE.1 hE.2.1 dX7_tell_77 rfl (lv_at hl 0 rfl) ?_
      refine x_get (x := .ref (ad 3)) hE hK hP 48 (Nat.lt_of_lt_of_le (by decide) hNN) (xG_7 rfl) rfl hin7 6 (by decide) mw_315 rfl dX7_tell_78 ?_
      refine x_get (x := .ref (ad 5)) hE hK hP 3 (Nat.lt_of_lt_of_le (by decide) hNN) (xG_1 rfl) rfl hin1 12 (by decide) mw_224 rfl dX7_tell_81 ?_
      refine lv_iload_n hE.1 hE.2.1 dX7_tell_84 rfl (lv_at hl 1 rfl) ?_
      refine x_iald (j := iI (z_1)) hE hK hP 5 (Nat.lt_of_lt_of_le (by decide) hNN) (xG_10 rfl) (iI_in (n := 9) (by omega)) dX7_tell_85 ?_
      obtain ⟨z22, hz22, ez22⟩ := iI_of (ar6 5 (iI (z_1)).toNatClampNeg)
      refine x_top ez22 ?_
      refine lv_aload_n hE.1 hE.2.1 dX7_tell_86 rfl (lv_at hl 0 rfl) ?_
      refine x_get (x := .int (v20 48 2)) hE hK hP 48 (Nat.lt_of_lt_of_le (by decide) hNN) (xG_7 rfl) rfl hin7 2 (by decide) mw_301 rfl dX7_tell_87 ?_
      refine x_top (y := iI (z1)) ((up_oth hv20 (by decide)).trans ((up_oth hv15 (by decide)).trans ((up_oth hv11 (by decide)).trans ((up_oth hv10 (by decide)).trans ((hq6 48 2 (by decide)).trans ez1))))) ?_
      refine lv_aload_n hE.1 hE.2.1 dX7_tell_90 rfl (lv_at hl 0 rfl) ?_
      refine x_get (x := .ref (ad 3)) hE hK hP 48 (Nat.lt_of_lt_of_le (by decide) hNN) (xG_7 rfl) rfl hin7 6 (by decide) mw_315 rfl dX7_tell_91 ?_
      refine x_get (x := .ref (ad 6)) hE hK hP 3 (Nat.lt_of_lt_of_le (by decide) hNN) (xG_1 rfl) rfl hin1 13 (by decide) mw_228 rfl dX7_tell_94 ?_
      refine lv_iload_n hE.1 hE.2.1 dX7_tell_97 rfl (lv_at hl 1 rfl) ?_
      refine x_iald (j := iI (z_1)) hE hK hP 6 (Nat.lt_of_lt_of_le (by decide) hNN) (xG_10 rfl) (iI_in (n := 9) (by omega)) dX7_tell_98 ?_
      obtain ⟨z24, hz24, ez24⟩ := iI_of (ar6 6 (iI (z_1)).toNatClampNeg)
      refine x_top ez24 ?_
      refine lv_iadd hE.1 hE.2.1 dX7_tell_99 ?_
      obtain ⟨z25, hz25, ez25⟩ := iI_of (iI (z1) + iI (z24))
      refine x_top ez25 ?_
      refine x_vv (nn := 2) (As := [.int (iI (z22)), .int (iI (z25))]) (rest := []) hE hK hN hP hS (s_X7_owe_48 l D K ad mm N hNN v20 ar6 al6 hI (z1) (by omega) ((up_oth hv20 (by decide)).trans ((up_oth hv15 (by decide)).trans ((up_oth hv11 (by decide)).trans ((up_oth hv10 (by decide)).trans ((hq6 48 2 (by decide)).trans ez1))))) (z22) (by omega) (z25) (by omega)) (x_recv hK hP 48 (Nat.lt_of_lt_of_le (by decide) hNN) (xG_7 rfl) rfl) rfl mw_779 mw_781 mw_20 mw_117 mw_782 (by decide +kernel) ⟨by decide, by decide⟩ hl.1 rfl (Nat.le_of_ble_eq_true rfl) ⟨Nat.zero_le _, Nat.zero_le _⟩ dX7_tell_100 (fun v26 ar26 al26 H locs hq26 hP hS => ?_)
      obtain ⟨hI, hq26⟩ := hq26
      have hI : XI v26 := hI
      refine lv_aload_n hE.1 hE.2.1 dX7_tell_103 rfl (lv_at hl 0 rfl) ?_
      refine lv_dup hE.1 hE.2.1 dX7_tell_104 rfl ?_
      refine x_get (x := .int (v26 48 2)) hE hK hP 48 (Nat.lt_of_lt_of_le (by decide) hNN) (xG_7 rfl) rfl hin7 2 (by decide) mw_301 rfl dX7_tell_105 ?_
      refine x_top (y := iI (z1)) ((hq26 48 2 (by decide)).trans ((up_oth hv20 (by decide)).trans ((up_oth hv15 (by decide)).trans ((up_oth hv11 (by decide)).trans ((up_oth hv10 (by decide)).trans ((hq6 48 2 (by decide)).trans ez1)))))) ?_
      refine lv_iconst (v := iI (1)) hE.1 hE.2.1 dX7_tell_108 (by decide) ?_
      refine lv_iadd hE.1 hE.2.1 dX7_tell_109 ?_
      refine x_top (y := iI (z1 + 1)) ((iI_add (z1) (1)).trans (congrArg iI (by omega))) ?_
      refine x_put (x := iI (z1 + 1)) hE hK hN hP hS 48 (Nat.lt_of_lt_of_le (by decide) hNN) (xG_7 rfl) rfl hin7 tyX7 tyX7_ok nmX7 2 (by decide) mw_301 rfl rfl rfl (Nat.le_of_ble_eq_true rfl) (xG_7 rfl) dX7_tell_110 (fun v27 H locs hv27 hP hS => ?_)
      have hI := XI_putB (z := z1 + 1) hI hv27 0 18 (by omega) (by decide) (by omega)
      exact kr _ _ _ _ _ _ _ ⟨hI, fun i j h => ((up_oth hv27 (fun q => h (by rcases q with ⟨rfl, rfl⟩; decide))).trans ((hq26 i j (fun q => h (mem_sub (by decide) q))).trans ((up_oth hv20 (fun q => h (by rcases q with ⟨rfl, rfl⟩; decide))).trans ((up_oth hv15 (fun q => h (by rcases q with ⟨rfl, rfl⟩; decide))).trans ((up_oth hv11 (fun q => h (by rcases q with ⟨rfl, rfl⟩; decide))).trans ((up_oth hv10 (fun q => h (by rcases q with ⟨rfl, rfl⟩; decide))).trans (hq6 i j (fun q => h (mem_sub (by decide) q)))))))))⟩ hP hS dX7_tell_113
    · skip
      exact kr _ _ _ _ _ _ _ ⟨hI, fun i j h => rfl⟩ hP hS dX7_tell_18

theorem dX6_merge_0 : decode cX6_merge 0 = .ok (.aload_n 0, 1) := by decide +kernel
theorem dX6_merge_1 : decode cX6_merge 1 = .ok (.getfield 36, 3) := by decide +kernel
theorem dX6_merge_4 : decode cX6_merge 4 = .ok (.iconst 4, 1) := by decide +kernel
theorem dX6_merge_5 : decode cX6_merge 5 = .ok (.if_icmp .lt 7, 3) := by decide +kernel
theorem dX6_merge_8 : decode cX6_merge 8 = .ok (.iload_n 1, 1) := by decide +kernel
theorem dX6_merge_9 : decode cX6_merge 9 = .ok (.iload_n 2, 1) := by decide +kernel
theorem dX6_merge_10 : decode cX6_merge 10 = .ok (.iadd, 1) := by decide +kernel
theorem dX6_merge_11 : decode cX6_merge 11 = .ok (.ireturn, 1) := by decide +kernel
theorem dX6_merge_12 : decode cX6_merge 12 = .ok (.aload_n 0, 1) := by decide +kernel
theorem dX6_merge_13 : decode cX6_merge 13 = .ok (.getfield 36, 3) := by decide +kernel
theorem dX6_merge_16 : decode cX6_merge 16 = .ok (.iconst 3, 1) := by decide +kernel
theorem dX6_merge_17 : decode cX6_merge 17 = .ok (.if_icmp .ne 17, 3) := by decide +kernel
theorem dX6_merge_20 : decode cX6_merge 20 = .ok (.iload_n 1, 1) := by decide +kernel
theorem dX6_merge_21 : decode cX6_merge 21 = .ok (.ifCond .lt 13, 3) := by decide +kernel
theorem dX6_merge_24 : decode cX6_merge 24 = .ok (.iload_n 2, 1) := by decide +kernel
theorem dX6_merge_25 : decode cX6_merge 25 = .ok (.ifCond .lt 9, 3) := by decide +kernel
theorem dX6_merge_28 : decode cX6_merge 28 = .ok (.iload_n 1, 1) := by decide +kernel
theorem dX6_merge_29 : decode cX6_merge 29 = .ok (.iload_n 2, 1) := by decide +kernel
theorem dX6_merge_30 : decode cX6_merge 30 = .ok (.invokestatic 111, 3) := by decide +kernel
theorem dX6_merge_33 : decode cX6_merge 33 = .ok (.ireturn, 1) := by decide +kernel
theorem dX6_merge_34 : decode cX6_merge 34 = .ok (.iload_n 1, 1) := by decide +kernel
theorem dX6_merge_35 : decode cX6_merge 35 = .ok (.iload_n 2, 1) := by decide +kernel
theorem dX6_merge_36 : decode cX6_merge 36 = .ok (.invokestatic 116, 3) := by decide +kernel
theorem dX6_merge_39 : decode cX6_merge 39 = .ok (.ireturn, 1) := by decide +kernel
set_option maxHeartbeats 4000000 in
set_option maxRecDepth 100000 in
theorem s_X6_merge_45 (l : Launch) (D : va_G) (K : Nat → ClassId) (ad : Nat → Nat) (mm : Option Nat) (N : Nat) (hNN : 132 ≤ N) (v ar : sI) (al : sL) (hI : XI v) (z_1 : Int) (hz_1 : -2147483648 ≤ z_1 ∧ z_1 ≤ 2147483647) (z_2 : Int) (hz_2 : -2147483648 ≤ z_2 ∧ z_2 ≤ 2147483647) : Met l yX6_merge (wM yX6_merge cX6_merge 3 (some .int)) (rmD 1) (va_Pc [.ref (ad 45), .int (iI (z_1)), .int (iI (z_2))] (wPre D K ad (xG ad K mm) N v ar al)) (vp_Si (fun r => ∃ z : Int, (-2147483648 ≤ z ∧ z ≤ 2147483647) ∧ r = iI z)) 0 0 (fun _ => False) := by
  refine s_metP (by decide) (Nat.le_of_ble_eq_true rfl) ?_
  intro p e s m below meth c ls args Q hE hB hl kr
  have hE : CallFix p m c cX6_merge 3 s args tbG "TaleCourt$Survey" := hE
  obtain ⟨hP, hK, hN⟩ := hB
  have hl : lv_has ls 3 [(0, .ref (ad 45)), (1, .int (iI (z_1))), (2, .int (iI (z_2)))] := hl
  refine lv_aload_n hE.1 hE.2.1 dX6_merge_0 rfl (lv_at hl 0 rfl) ?_
  obtain ⟨z1, hz1, ez1⟩ := iI_of (v 45 5)
  refine x_get (x := .int (v 45 5)) hE hK hP 45 (Nat.lt_of_lt_of_le (by decide) hNN) (xG_6 rfl) rfl hin6 5 (by decide) mw_391 rfl dX6_merge_1 ?_
  refine x_top (y := iI (z1)) ez1 ?_
  refine lv_iconst (v := iI (4)) hE.1 hE.2.1 dX6_merge_4 (by decide) ?_
  refine s_icmp_lt (a := z1) (b := 4) (tgt := 12) hE.1 hE.2.1 (by omega) (by omega) dX6_merge_5 (by decide) (fun c2 => ?_) (fun c2 => ?_)
  · skip
    refine lv_aload_n hE.1 hE.2.1 dX6_merge_12 rfl (lv_at hl 0 rfl) ?_
    refine x_get (x := .int (v 45 5)) hE hK hP 45 (Nat.lt_of_lt_of_le (by decide) hNN) (xG_6 rfl) rfl hin6 5 (by decide) mw_391 rfl dX6_merge_13 ?_
    refine x_top (y := iI (z1)) ez1 ?_
    refine lv_iconst (v := iI (3)) hE.1 hE.2.1 dX6_merge_16 (by decide) ?_
    refine s_icmp_ne (a := z1) (b := 3) (tgt := 34) hE.1 hE.2.1 (by omega) (by omega) dX6_merge_17 (by decide) (fun c3 => ?_) (fun c3 => ?_)
    · skip
      refine lv_iload_n hE.1 hE.2.1 dX6_merge_34 rfl (lv_at hl 1 rfl) ?_
      refine lv_iload_n hE.1 hE.2.1 dX6_merge_35 rfl (lv_at hl 2 rfl) ?_
      refine va_mmax (rest := []) hE.1 hE.2.1 (hE.2.2.1.trans hl.1.symm) hE.2.2.2.1 (hE.2.2.2.2 _ mw_951) (hE.2.2.2.2 _ mw_893) (hE.2.2.2.2 _ mw_129) (hE.2.2.2.2 _ mw_894) (Nat.le_of_ble_eq_true rfl) (Nat.le_of_ble_eq_true rfl) (Nat.zero_le _) (Nat.zero_le _) dX6_merge_36 ?_
      obtain ⟨z4, hz4, ez4⟩ := iI_max (a := z_1) (b := z_2) (by omega) (by omega)
      refine x_top ez4 ?_
      exact kr _ _ _ rfl ⟨z4, by omega, rfl⟩ dX6_merge_39
    · skip
      refine lv_iload_n hE.1 hE.2.1 dX6_merge_20 rfl (lv_at hl 1 rfl) ?_
      refine s_if_lt (a := z_1) (tgt := 34) hE.1 hE.2.1 (by omega) dX6_merge_21 (by decide) (fun c5 => ?_) (fun c5 => ?_)
      · skip
        refine lv_iload_n hE.1 hE.2.1 dX6_merge_34 rfl (lv_at hl 1 rfl) ?_
        refine lv_iload_n hE.1 hE.2.1 dX6_merge_35 rfl (lv_at hl 2 rfl) ?_
        refine va_mmax (rest := []) hE.1 hE.2.1 (hE.2.2.1.trans hl.1.symm) hE.2.2.2.1 (hE.2.2.2.2 _ mw_951) (hE.2.2.2.2 _ mw_893) (hE.2.2.2.2 _ mw_129) (hE.2.2.2.2 _ mw_894) (Nat.le_of_ble_eq_true rfl) (Nat.le_of_ble_eq_true rfl) (Nat.zero_le _) (Nat.zero_le _) dX6_merge_36 ?_
        obtain ⟨z6, hz6, ez6⟩ := iI_max (a := z_1) (b := z_2) (by omega) (by omega)
        refine x_top ez6 ?_
        exact kr _ _ _ rfl ⟨z6, by omega, rfl⟩ dX6_merge_39
      · skip
        refine lv_iload_n hE.1 hE.2.1 dX6_merge_24 rfl (lv_at hl 2 rfl) ?_
        refine s_if_lt (a := z_2) (tgt := 34) hE.1 hE.2.1 (by omega) dX6_merge_25 (by decide) (fun c7 => ?_) (fun c7 => ?_)
        · skip
          refine lv_iload_n hE.1 hE.2.1 dX6_merge_34 rfl (lv_at hl 1 rfl) ?_
          refine lv_iload_n hE.1 hE.2.1 dX6_merge_35 rfl (lv_at hl 2 rfl) ?_
          refine va_mmax (rest := []) hE.1 hE.2.1 (hE.2.2.1.trans hl.1.symm) hE.2.2.2.1 (hE.2.2.2.2 _ mw_951) (hE.2.2.2.2 _ mw_893) (hE.2.2.2.2 _ mw_129) (hE.2.2.2.2 _ mw_894) (Nat.le_of_ble_eq_true rfl) (Nat.le_of_ble_eq_true rfl) (Nat.zero_le _) (Nat.zero_le _) dX6_merge_36 ?_
          obtain ⟨z8, hz8, ez8⟩ := iI_max (a := z_1) (b := z_2) (by omega) (by omega)
          refine x_top ez8 ?_
          exact kr _ _ _ rfl ⟨z8, by omega, rfl⟩ dX6_merge_39
        · skip
          refine lv_iload_n hE.1 hE.2.1 dX6_merge_28 rfl (lv_at hl 1 rfl) ?_
          refine lv_iload_n hE.1 hE.2.1 dX6_merge_29 rfl (lv_at hl 2 rfl) ?_
          refine va_mmin (rest := []) hE.1 hE.2.1 (hE.2.2.1.trans hl.1.symm) hE.2.2.2.1 (hE.2.2.2.2 _ mw_950) (hE.2.2.2.2 _ mw_628) (hE.2.2.2.2 _ mw_129) (hE.2.2.2.2 _ mw_629) (Nat.le_of_ble_eq_true rfl) (Nat.le_of_ble_eq_true rfl) (Nat.zero_le _) (Nat.zero_le _) dX6_merge_30 ?_
          obtain ⟨z9, hz9, ez9⟩ := iI_min (a := z_1) (b := z_2) (by omega) (by omega)
          refine x_top ez9 ?_
          exact kr _ _ _ rfl ⟨z9, by omega, rfl⟩ dX6_merge_33
  · skip
    refine lv_iload_n hE.1 hE.2.1 dX6_merge_8 rfl (lv_at hl 1 rfl) ?_
    refine lv_iload_n hE.1 hE.2.1 dX6_merge_9 rfl (lv_at hl 2 rfl) ?_
    refine lv_iadd hE.1 hE.2.1 dX6_merge_10 ?_
    obtain ⟨z10, hz10, ez10⟩ := iI_of (iI (z_1) + iI (z_2))
    refine x_top ez10 ?_
    exact kr _ _ _ rfl ⟨z10, by omega, rfl⟩ dX6_merge_11

set_option maxHeartbeats 4000000 in
set_option maxRecDepth 100000 in
theorem s_X7_untell_48 (l : Launch) (D : va_G) (K : Nat → ClassId) (ad : Nat → Nat) (mm : Option Nat) (N : Nat) (hNN : 132 ≤ N) (v ar : sI) (al : sL) (hI : XI v) (w_1 : Int) (hw_1 : 0 ≤ w_1 ∧ w_1 ≤ 17) (ew_1 : v 48 2 = iI w_1) (z_1 : Int) (hz_1 : 0 ≤ z_1 ∧ z_1 ≤ 8) : Met l yX7_untell (wM yX7_untell cX7_untell 3 none) (rmD 1) (va_Pc [.ref (ad 48), .int (iI (z_1))] (wPre D K ad (xG ad K mm) N v ar al)) (va_Qv (fun u : sT => XI u.1 ∧ (∀ i j : Nat, (i, j) ∉ ([(48, 3), (48, 5)] : List (Nat × Nat)) → u.1 i j = v i j)) (wB D ad (xG ad K mm) N) (inW ad N)) 0 0 (inW ad N) := by
  refine s_metV (by decide) (Nat.le_of_ble_eq_true rfl) ?_
  intro p e s m below meth c ls args Q hE hB hl kr
  have hE : CallFix p m c cX7_untell 3 s args tbG "TaleCourt$Telling" := hE
  obtain ⟨hP, hK, hN⟩ := hB
  have hS : va_S (inW ad N) s.heap s.heap [] := va_S.rf
  have hl : lv_has ls 3 [(0, .ref (ad 48)), (1, .int (iI (z_1)))] := hl
  refine lv_aload_n hE.1 hE.2.1 dX7_untell_0 rfl (lv_at hl 0 rfl) ?_
  refine lv_dup hE.1 hE.2.1 dX7_untell_1 rfl ?_
  obtain ⟨z1, hz1, ez1⟩ := iI_of (v 48 3)
  refine x_get (x := .int (v 48 3)) hE hK hP 48 (Nat.lt_of_lt_of_le (by decide) hNN) (xG_7 rfl) rfl hin7 3 (by decide) mw_305 rfl dX7_untell_2 ?_
  refine x_top (y := iI (z1)) ez1 ?_
  refine lv_iconst (v := iI (1)) hE.1 hE.2.1 dX7_untell_5 (by decide) ?_
  refine lv_iload_n hE.1 hE.2.1 dX7_untell_6 rfl (lv_at hl 1 rfl) ?_
  refine lv_ishl hE.1 hE.2.1 dX7_untell_7 ?_
  obtain ⟨z2, hz2, ez2⟩ := iI_shl1 (a := z_1) (by omega)
  refine x_top ez2 ?_
  refine lv_iconst (v := iI (-1)) hE.1 hE.2.1 dX7_untell_8 (by decide) ?_
  refine lv_ixor hE.1 hE.2.1 dX7_untell_9 ?_
  obtain ⟨z3, hz3, ez3⟩ := iI_of (iI (z2) ^^^ iI (-1))
  refine x_top ez3 ?_
  refine lv_iand hE.1 hE.2.1 dX7_untell_10 ?_
  obtain ⟨z4, hz4, ez4⟩ := iI_of (iI (z1) &&& iI (z3))
  refine x_top ez4 ?_
  refine x_put (x := iI (z4)) hE hK hN hP hS 48 (Nat.lt_of_lt_of_le (by decide) hNN) (xG_7 rfl) rfl hin7 tyX7 tyX7_ok nmX7 3 (by decide) mw_305 rfl rfl rfl (Nat.le_of_ble_eq_true rfl) (xG_7 rfl) dX7_untell_11 (fun v5 H locs hv5 hP hS => ?_)
  have hI := XI_putN hI hv5 (by decide)
  refine lv_aload_n hE.1 hE.2.1 dX7_untell_14 rfl (lv_at hl 0 rfl) ?_
  refine lv_dup hE.1 hE.2.1 dX7_untell_15 rfl ?_
  obtain ⟨z6, hz6, ez6⟩ := iI_of (v5 48 5)
  refine x_get (x := .int (v5 48 5)) hE hK hP 48 (Nat.lt_of_lt_of_le (by decide) hNN) (xG_7 rfl) rfl hin7 5 (by decide) mw_312 rfl dX7_untell_16 ?_
  refine x_top (y := iI (z6)) ez6 ?_
  refine lv_aload_n hE.1 hE.2.1 dX7_untell_19 rfl (lv_at hl 0 rfl) ?_
  refine x_get (x := .ref (ad 3)) hE hK hP 48 (Nat.lt_of_lt_of_le (by decide) hNN) (xG_7 rfl) rfl hin7 6 (by decide) mw_315 rfl dX7_untell_20 ?_
  refine lv_iload_n hE.1 hE.2.1 dX7_untell_23 rfl (lv_at hl 1 rfl) ?_
  refine x_vp (nn := 1) (As := [.int (iI (z_1))]) (rest := [.int (iI (z6)), .ref (ad 48)]) hE (s_X1_value_3 l D K ad mm N hNN v5 ar al hI  (z_1) (by omega)) wPre_blind (wPre_now hK hN hP) (x_recv hK hP 3 (Nat.lt_of_lt_of_le (by decide) hNN) (xG_1 rfl) rfl) rfl mw_775 mw_776 mw_777 mw_116 mw_778 (by decide +kernel) ⟨by decide, by decide⟩ hl.1 rfl (Nat.le_of_ble_eq_true rfl) ⟨Nat.zero_le _, Nat.zero_le _⟩ dX7_untell_24 (fun r7 hr7 => ?_)
  obtain ⟨z7, hz7, rfl⟩ := hr7
  refine lv_isub hE.1 hE.2.1 dX7_untell_27 ?_
  obtain ⟨z8, hz8, ez8⟩ := iI_of (iI (z6) - iI (z7))
  refine x_top ez8 ?_
  refine x_put (x := iI (z8)) hE hK hN hP hS 48 (Nat.lt_of_lt_of_le (by decide) hNN) (xG_7 rfl) rfl hin7 tyX7 tyX7_ok nmX7 5 (by decide) mw_312 rfl rfl rfl (Nat.le_of_ble_eq_true rfl) (xG_7 rfl) dX7_untell_28 (fun v9 H locs hv9 hP hS => ?_)
  have hI := XI_putN hI hv9 (by decide)
  refine lv_aload_n hE.1 hE.2.1 dX7_untell_31 rfl (lv_at hl 0 rfl) ?_
  refine x_get (x := .ref (ad 3)) hE hK hP 48 (Nat.lt_of_lt_of_le (by decide) hNN) (xG_7 rfl) rfl hin7 6 (by decide) mw_315 rfl dX7_untell_32 ?_
  refine x_get (x := .ref (ad 5)) hE hK hP 3 (Nat.lt_of_lt_of_le (by decide) hNN) (xG_1 rfl) rfl hin1 12 (by decide) mw_224 rfl dX7_untell_35 ?_
  refine lv_iload_n hE.1 hE.2.1 dX7_untell_38 rfl (lv_at hl 1 rfl) ?_
  refine x_iald (j := iI (z_1)) hE hK hP 5 (Nat.lt_of_lt_of_le (by decide) hNN) (xG_10 rfl) (iI_in (n := 9) (by omega)) dX7_untell_39 ?_
  obtain ⟨z11, hz11, ez11⟩ := iI_of (ar 5 (iI (z_1)).toNatClampNeg)
  refine x_top ez11 ?_
  refine lv_istore_n (lv' := [(2, .int (iI (z11))), (0, .ref (ad 48)), (1, .int (iI (z_1)))]) hE.1 hE.2.1 dX7_untell_40 rfl hl (by decide) rfl (fun ls hl => ?_)
  refine lv_iload_n hE.1 hE.2.1 dX7_untell_41 rfl (lv_at hl 0 rfl) ?_
  refine s_if_lt (a := z11) (tgt := 66) hE.1 hE.2.1 (by omega) dX7_untell_42 (by decide) (fun c12 => ?_) (fun c12 => ?_)
  · skip
    exact kr _ _ _ _ _ _ _ ⟨hI, fun i j h => ((up_oth hv9 (fun q => h (by rcases q with ⟨rfl, rfl⟩; decide))).trans (up_oth hv5 (fun q => h (by rcases q with ⟨rfl, rfl⟩; decide))))⟩ hP hS dX7_untell_66
  · skip
    refine lv_iload_n hE.1 hE.2.1 dX7_untell_45 rfl (lv_at hl 0 rfl) ?_
    refine lv_bipush (v := iI (9)) hE.1 hE.2.1 dX7_untell_46 (by decide) ?_
    refine s_icmp_ge (a := z11) (b := 9) (tgt := 66) hE.1 hE.2.1 (by omega) (by omega) dX7_untell_48 (by decide) (fun c13 => ?_) (fun c13 => ?_)
    · skip
      exact kr _ _ _ _ _ _ _ ⟨hI, fun i j h => ((up_oth hv9 (fun q => h (by rcases q with ⟨rfl, rfl⟩; decide))).trans (up_oth hv5 (fun q => h (by rcases q with ⟨rfl, rfl⟩; decide))))⟩ hP hS dX7_untell_66
    · skip
      refine lv_aload_n hE.1 hE.2.1 dX7_untell_51 rfl (lv_at hl 1 rfl) ?_
      refine x_get (x := .ref (ad 50)) hE hK hP 48 (Nat.lt_of_lt_of_le (by decide) hNN) (xG_7 rfl) rfl hin7 1 (by decide) mw_299 rfl dX7_untell_52 ?_
      refine lv_iload_n hE.1 hE.2.1 dX7_untell_55 rfl (lv_at hl 0 rfl) ?_
      refine lv_aload_n hE.1 hE.2.1 dX7_untell_56 rfl (lv_at hl 1 rfl) ?_
      refine x_get (x := .ref (ad 55)) hE hK hP 48 (Nat.lt_of_lt_of_le (by decide) hNN) (xG_7 rfl) rfl hin7 13 (by decide) mw_322 rfl dX7_untell_57 ?_
      refine lv_aload_n hE.1 hE.2.1 dX7_untell_60 rfl (lv_at hl 1 rfl) ?_
      refine x_get (x := .int (v9 48 2)) hE hK hP 48 (Nat.lt_of_lt_of_le (by decide) hNN) (xG_7 rfl) rfl hin7 2 (by decide) mw_301 rfl dX7_untell_61 ?_
      refine x_top (y := iI (w_1)) ((up_oth hv9 (by decide)).trans ((up_oth hv5 (by decide)).trans ew_1)) ?_
      refine x_iald (j := iI (w_1)) hE hK hP 55 (Nat.lt_of_lt_of_le (by decide) hNN) (xG_10 rfl) (iI_in (n := 18) (by omega)) dX7_untell_64 ?_
      obtain ⟨z15, hz15, ez15⟩ := iI_of (ar 55 (iI (w_1)).toNatClampNeg)
      refine x_top ez15 ?_
      refine x_iast (j := iI (z11)) hE hK hN hP hS 50 (Nat.lt_of_lt_of_le (by decide) hNN) (fun _ => xG_10 rfl) (iI_in (n := 9) (by omega)) dX7_untell_65 (fun ar16 H locs ha16 hP hS => ?_)
      exact kr _ _ _ _ _ _ _ ⟨hI, fun i j h => ((up_oth hv9 (fun q => h (by rcases q with ⟨rfl, rfl⟩; decide))).trans (up_oth hv5 (fun q => h (by rcases q with ⟨rfl, rfl⟩; decide))))⟩ hP hS dX7_untell_66

set_option maxHeartbeats 4000000 in
set_option maxRecDepth 100000 in
theorem s_X7_takeBack_48 (l : Launch) (D : va_G) (K : Nat → ClassId) (ad : Nat → Nat) (mm : Option Nat) (N : Nat) (hNN : 132 ≤ N) (v ar : sI) (al : sL) (hI : XI v) : Met l yX7_takeBack (wM yX7_takeBack cX7_takeBack 2 none) (rmD 2) (va_Pc [.ref (ad 48)] (wPre D K ad (xG ad K mm) N v ar al)) (va_Qv (fun u : sT => XI u.1 ∧ (∀ i j : Nat, (i, j) ∉ ([(48, 2), (48, 3), (48, 4), (48, 5), (48, 8), (48, 9)] : List (Nat × Nat)) → u.1 i j = v i j)) (wB D ad (xG ad K mm) N) (inW ad N)) 0 0 (inW ad N) := by
  refine s_metV (by decide) (Nat.le_of_ble_eq_true rfl) ?_
  intro p e s m below meth c ls args Q hE hB hl kr
  have hE : CallFix p m c cX7_takeBack 2 s args tbG "TaleCourt$Telling" := hE
  obtain ⟨hP, hK, hN⟩ := hB
  have hS : va_S (inW ad N) s.heap s.heap [] := va_S.rf
  have hl : lv_has ls 2 [(0, .ref (ad 48))] := hl
  refine lv_aload_n hE.1 hE.2.1 dX7_takeBack_0 rfl (lv_at hl 0 rfl) ?_
  obtain ⟨z1, hz1, ez1⟩ := XI_get hI 48 2 0 18 (by decide)
  refine x_get (x := .int (v 48 2)) hE hK hP 48 (Nat.lt_of_lt_of_le (by decide) hNN) (xG_7 rfl) rfl hin7 2 (by decide) mw_301 rfl dX7_takeBack_1 ?_
  refine x_top (y := iI (z1)) ez1 ?_
  refine s_if_le (a := z1) (tgt := 16) hE.1 hE.2.1 (by omega) dX7_takeBack_4 (by decide) (fun c2 => ?_) (fun c2 => ?_)
  · skip
    exact kr _ _ _ _ _ _ _ ⟨hI, fun i j h => rfl⟩ hP hS dX7_takeBack_16
  · skip
    refine lv_aload_n hE.1 hE.2.1 dX7_takeBack_7 rfl (lv_at hl 0 rfl) ?_
    refine x_get (x := .int (v 48 2)) hE hK hP 48 (Nat.lt_of_lt_of_le (by decide) hNN) (xG_7 rfl) rfl hin7 2 (by decide) mw_301 rfl dX7_takeBack_8 ?_
    refine x_top (y := iI (z1)) ez1 ?_
    refine lv_bipush (v := iI (18)) hE.1 hE.2.1 dX7_takeBack_11 (by decide) ?_
    refine s_icmp_le (a := z1) (b := 18) (tgt := 17) hE.1 hE.2.1 (by omega) (by omega) dX7_takeBack_13 (by decide) (fun _ => ?_) (fun c3 => False.elim (by omega))
    refine lv_aload_n hE.1 hE.2.1 dX7_takeBack_17 rfl (lv_at hl 0 rfl) ?_
    refine lv_dup hE.1 hE.2.1 dX7_takeBack_18 rfl ?_
    refine x_get (x := .int (v 48 2)) hE hK hP 48 (Nat.lt_of_lt_of_le (by decide) hNN) (xG_7 rfl) rfl hin7 2 (by decide) mw_301 rfl dX7_takeBack_19 ?_
    refine x_top (y := iI (z1)) ez1 ?_
    refine lv_iconst (v := iI (1)) hE.1 hE.2.1 dX7_takeBack_22 (by decide) ?_
    refine lv_isub hE.1 hE.2.1 dX7_takeBack_23 ?_
    refine x_top (y := iI (z1 - 1)) ((iI_sub (z1) (1)).trans (congrArg iI (by omega))) ?_
    refine x_put (x := iI (z1 - 1)) hE hK hN hP hS 48 (Nat.lt_of_lt_of_le (by decide) hNN) (xG_7 rfl) rfl hin7 tyX7 tyX7_ok nmX7 2 (by decide) mw_301 rfl rfl rfl (Nat.le_of_ble_eq_true rfl) (xG_7 rfl) dX7_takeBack_24 (fun v4 H locs hv4 hP hS => ?_)
    have hI := XI_putB (z := z1 - 1) hI hv4 0 18 (by omega) (by decide) (by omega)
    refine lv_aload_n hE.1 hE.2.1 dX7_takeBack_27 rfl (lv_at hl 0 rfl) ?_
    refine lv_aload_n hE.1 hE.2.1 dX7_takeBack_28 rfl (lv_at hl 0 rfl) ?_
    refine x_get (x := .ref (ad 52)) hE hK hP 48 (Nat.lt_of_lt_of_le (by decide) hNN) (xG_7 rfl) rfl hin7 10 (by decide) mw_319 rfl dX7_takeBack_29 ?_
    refine lv_aload_n hE.1 hE.2.1 dX7_takeBack_32 rfl (lv_at hl 0 rfl) ?_
    refine x_get (x := .int (v4 48 2)) hE hK hP 48 (Nat.lt_of_lt_of_le (by decide) hNN) (xG_7 rfl) rfl hin7 2 (by decide) mw_301 rfl dX7_takeBack_33 ?_
    refine x_top (y := iI (z1 - 1)) (up_eq hv4) ?_
    refine x_iald (j := iI (z1 - 1)) hE hK hP 52 (Nat.lt_of_lt_of_le (by decide) hNN) (xG_10 rfl) (iI_in (n := 18) (by omega)) dX7_takeBack_36 ?_
    obtain ⟨z6, hz6, ez6⟩ := iI_of (ar 52 (iI (z1 - 1)).toNatClampNeg)
    refine x_top ez6 ?_
    refine x_put (x := iI (z6)) hE hK hN hP hS 48 (Nat.lt_of_lt_of_le (by decide) hNN) (xG_7 rfl) rfl hin7 tyX7 tyX7_ok nmX7 4 (by decide) mw_309 rfl rfl rfl (Nat.le_of_ble_eq_true rfl) (xG_7 rfl) dX7_takeBack_37 (fun v7 H locs hv7 hP hS => ?_)
    have hI := XI_putN hI hv7 (by decide)
    refine lv_aload_n hE.1 hE.2.1 dX7_takeBack_40 rfl (lv_at hl 0 rfl) ?_
    refine lv_aload_n hE.1 hE.2.1 dX7_takeBack_41 rfl (lv_at hl 0 rfl) ?_
    refine x_get (x := .ref (ad 53)) hE hK hP 48 (Nat.lt_of_lt_of_le (by decide) hNN) (xG_7 rfl) rfl hin7 11 (by decide) mw_320 rfl dX7_takeBack_42 ?_
    refine lv_aload_n hE.1 hE.2.1 dX7_takeBack_45 rfl (lv_at hl 0 rfl) ?_
    refine x_get (x := .int (v7 48 2)) hE hK hP 48 (Nat.lt_of_lt_of_le (by decide) hNN) (xG_7 rfl) rfl hin7 2 (by decide) mw_301 rfl dX7_takeBack_46 ?_
    refine x_top (y := iI (z1 - 1)) ((up_oth hv7 (by decide)).trans (up_eq hv4)) ?_
    refine x_iald (j := iI (z1 - 1)) hE hK hP 53 (Nat.lt_of_lt_of_le (by decide) hNN) (xG_10 rfl) (iI_in (n := 18) (by omega)) dX7_takeBack_49 ?_
    obtain ⟨z9, hz9, ez9⟩ := iI_of (ar 53 (iI (z1 - 1)).toNatClampNeg)
    refine x_top ez9 ?_
    refine x_put (x := iI (z9)) hE hK hN hP hS 48 (Nat.lt_of_lt_of_le (by decide) hNN) (xG_7 rfl) rfl hin7 tyX7 tyX7_ok nmX7 8 (by decide) mw_317 rfl rfl rfl (Nat.le_of_ble_eq_true rfl) (xG_7 rfl) dX7_takeBack_50 (fun v10 H locs hv10 hP hS => ?_)
    have hI := XI_putN hI hv10 (by decide)
    refine lv_aload_n hE.1 hE.2.1 dX7_takeBack_53 rfl (lv_at hl 0 rfl) ?_
    refine lv_aload_n hE.1 hE.2.1 dX7_takeBack_54 rfl (lv_at hl 0 rfl) ?_
    refine x_get (x := .ref (ad 54)) hE hK hP 48 (Nat.lt_of_lt_of_le (by decide) hNN) (xG_7 rfl) rfl hin7 12 (by decide) mw_321 rfl dX7_takeBack_55 ?_
    refine lv_aload_n hE.1 hE.2.1 dX7_takeBack_58 rfl (lv_at hl 0 rfl) ?_
    refine x_get (x := .int (v10 48 2)) hE hK hP 48 (Nat.lt_of_lt_of_le (by decide) hNN) (xG_7 rfl) rfl hin7 2 (by decide) mw_301 rfl dX7_takeBack_59 ?_
    refine x_top (y := iI (z1 - 1)) ((up_oth hv10 (by decide)).trans ((up_oth hv7 (by decide)).trans (up_eq hv4))) ?_
    refine x_iald (j := iI (z1 - 1)) hE hK hP 54 (Nat.lt_of_lt_of_le (by decide) hNN) (xG_10 rfl) (iI_in (n := 18) (by omega)) dX7_takeBack_62 ?_
    obtain ⟨z12, hz12, ez12⟩ := iI_of (ar 54 (iI (z1 - 1)).toNatClampNeg)
    refine x_top ez12 ?_
    refine x_put (x := iI (z12)) hE hK hN hP hS 48 (Nat.lt_of_lt_of_le (by decide) hNN) (xG_7 rfl) rfl hin7 tyX7 tyX7_ok nmX7 9 (by decide) mw_318 rfl rfl rfl (Nat.le_of_ble_eq_true rfl) (xG_7 rfl) dX7_takeBack_63 (fun v13 H locs hv13 hP hS => ?_)
    have hI := XI_putN hI hv13 (by decide)
    refine lv_aload_n hE.1 hE.2.1 dX7_takeBack_66 rfl (lv_at hl 0 rfl) ?_
    refine x_get (x := .ref (ad 49)) hE hK hP 48 (Nat.lt_of_lt_of_le (by decide) hNN) (xG_7 rfl) rfl hin7 0 (by decide) mw_295 rfl dX7_takeBack_67 ?_
    refine lv_aload_n hE.1 hE.2.1 dX7_takeBack_70 rfl (lv_at hl 0 rfl) ?_
    refine x_get (x := .int (v13 48 2)) hE hK hP 48 (Nat.lt_of_lt_of_le (by decide) hNN) (xG_7 rfl) rfl hin7 2 (by decide) mw_301 rfl dX7_takeBack_71 ?_
    refine x_top (y := iI (z1 - 1)) ((up_oth hv13 (by decide)).trans ((up_oth hv10 (by decide)).trans ((up_oth hv7 (by decide)).trans (up_eq hv4)))) ?_
    refine x_iald (j := iI (z1 - 1)) hE hK hP 49 (Nat.lt_of_lt_of_le (by decide) hNN) (xG_10 rfl) (iI_in (n := 18) (by omega)) dX7_takeBack_74 ?_
    obtain ⟨z15, hz15, ez15⟩ := iI_of (ar 49 (iI (z1 - 1)).toNatClampNeg)
    refine x_top ez15 ?_
    refine lv_istore_n (lv' := [(1, .int (iI (z15))), (0, .ref (ad 48))]) hE.1 hE.2.1 dX7_takeBack_75 rfl hl (by decide) rfl (fun ls hl => ?_)
    refine lv_iload_n hE.1 hE.2.1 dX7_takeBack_76 rfl (lv_at hl 0 rfl) ?_
    refine s_if_lt (a := z15) (tgt := 94) hE.1 hE.2.1 (by omega) dX7_takeBack_77 (by decide) (fun c16 => ?_) (fun c16 => ?_)
    · skip
      refine lv_aload_n hE.1 hE.2.1 dX7_takeBack_94 rfl (lv_at hl 1 rfl) ?_
      refine x_get (x := .ref (ad 51)) hE hK hP 48 (Nat.lt_of_lt_of_le (by decide) hNN) (xG_7 rfl) rfl hin7 7 (by decide) mw_316 rfl dX7_takeBack_95 ?_
      refine lv_aload_n hE.1 hE.2.1 dX7_takeBack_98 rfl (lv_at hl 1 rfl) ?_
      refine x_vp (nn := 0) (As := []) (rest := [.ref (ad 51)]) hE (s_X7_teller_48 l D K ad mm N hNN v13 ar al hI  ) wPre_blind (wPre_now hK hN hP) (x_recv hK hP 48 (Nat.lt_of_lt_of_le (by decide) hNN) (xG_7 rfl) rfl) rfl mw_758 mw_759 mw_760 mw_117 mw_761 (by decide +kernel) ⟨by decide, by decide⟩ hl.1 rfl (Nat.le_of_ble_eq_true rfl) ⟨Nat.zero_le _, Nat.zero_le _⟩ dX7_takeBack_99 (fun r17 hr17 => ?_)
      obtain ⟨z17, hz17, rfl⟩ := hr17
      refine lv_dup2_11 hE.1 hE.2.1 dX7_takeBack_102 rfl rfl ?_
      refine x_iald (j := iI (z17)) hE hK hP 51 (Nat.lt_of_lt_of_le (by decide) hNN) (xG_10 rfl) (iI_in (n := 3) (by omega)) dX7_takeBack_103 ?_
      obtain ⟨z19, hz19, ez19⟩ := iI_of (ar 51 (iI (z17)).toNatClampNeg)
      refine x_top ez19 ?_
      refine lv_iconst (v := iI (1)) hE.1 hE.2.1 dX7_takeBack_104 (by decide) ?_
      refine lv_isub hE.1 hE.2.1 dX7_takeBack_105 ?_
      obtain ⟨z20, hz20, ez20⟩ := iI_of (iI (z19) - iI (1))
      refine x_top ez20 ?_
      refine x_iast (j := iI (z17)) hE hK hN hP hS 51 (Nat.lt_of_lt_of_le (by decide) hNN) (fun _ => xG_10 rfl) (iI_in (n := 3) (by omega)) dX7_takeBack_106 (fun ar21 H locs ha21 hP hS => ?_)
      exact kr _ _ _ _ _ _ _ ⟨hI, fun i j h => ((up_oth hv13 (fun q => h (by rcases q with ⟨rfl, rfl⟩; decide))).trans ((up_oth hv10 (fun q => h (by rcases q with ⟨rfl, rfl⟩; decide))).trans ((up_oth hv7 (fun q => h (by rcases q with ⟨rfl, rfl⟩; decide))).trans (up_oth hv4 (fun q => h (by rcases q with ⟨rfl, rfl⟩; decide))))))⟩ hP hS dX7_takeBack_107
    · skip
      refine lv_iload_n hE.1 hE.2.1 dX7_takeBack_80 rfl (lv_at hl 0 rfl) ?_
      refine lv_bipush (v := iI (9)) hE.1 hE.2.1 dX7_takeBack_81 (by decide) ?_
      refine s_icmp_ge (a := z15) (b := 9) (tgt := 94) hE.1 hE.2.1 (by omega) (by omega) dX7_takeBack_83 (by decide) (fun c22 => ?_) (fun c22 => ?_)
      · skip
        refine lv_aload_n hE.1 hE.2.1 dX7_takeBack_94 rfl (lv_at hl 1 rfl) ?_
        refine x_get (x := .ref (ad 51)) hE hK hP 48 (Nat.lt_of_lt_of_le (by decide) hNN) (xG_7 rfl) rfl hin7 7 (by decide) mw_316 rfl dX7_takeBack_95 ?_
        refine lv_aload_n hE.1 hE.2.1 dX7_takeBack_98 rfl (lv_at hl 1 rfl) ?_
        refine x_vp (nn := 0) (As := []) (rest := [.ref (ad 51)]) hE (s_X7_teller_48 l D K ad mm N hNN v13 ar al hI  ) wPre_blind (wPre_now hK hN hP) (x_recv hK hP 48 (Nat.lt_of_lt_of_le (by decide) hNN) (xG_7 rfl) rfl) rfl mw_758 mw_759 mw_760 mw_117 mw_761 (by decide +kernel) ⟨by decide, by decide⟩ hl.1 rfl (Nat.le_of_ble_eq_true rfl) ⟨Nat.zero_le _, Nat.zero_le _⟩ dX7_takeBack_99 (fun r23 hr23 => ?_)
        obtain ⟨z23, hz23, rfl⟩ := hr23
        refine lv_dup2_11 hE.1 hE.2.1 dX7_takeBack_102 rfl rfl ?_
        refine x_iald (j := iI (z23)) hE hK hP 51 (Nat.lt_of_lt_of_le (by decide) hNN) (xG_10 rfl) (iI_in (n := 3) (by omega)) dX7_takeBack_103 ?_
        obtain ⟨z25, hz25, ez25⟩ := iI_of (ar 51 (iI (z23)).toNatClampNeg)
        refine x_top ez25 ?_
        refine lv_iconst (v := iI (1)) hE.1 hE.2.1 dX7_takeBack_104 (by decide) ?_
        refine lv_isub hE.1 hE.2.1 dX7_takeBack_105 ?_
        obtain ⟨z26, hz26, ez26⟩ := iI_of (iI (z25) - iI (1))
        refine x_top ez26 ?_
        refine x_iast (j := iI (z23)) hE hK hN hP hS 51 (Nat.lt_of_lt_of_le (by decide) hNN) (fun _ => xG_10 rfl) (iI_in (n := 3) (by omega)) dX7_takeBack_106 (fun ar27 H locs ha27 hP hS => ?_)
        exact kr _ _ _ _ _ _ _ ⟨hI, fun i j h => ((up_oth hv13 (fun q => h (by rcases q with ⟨rfl, rfl⟩; decide))).trans ((up_oth hv10 (fun q => h (by rcases q with ⟨rfl, rfl⟩; decide))).trans ((up_oth hv7 (fun q => h (by rcases q with ⟨rfl, rfl⟩; decide))).trans (up_oth hv4 (fun q => h (by rcases q with ⟨rfl, rfl⟩; decide))))))⟩ hP hS dX7_takeBack_107
      · skip
        refine lv_aload_n hE.1 hE.2.1 dX7_takeBack_86 rfl (lv_at hl 1 rfl) ?_
        refine lv_iload_n hE.1 hE.2.1 dX7_takeBack_87 rfl (lv_at hl 0 rfl) ?_
        refine x_vv (nn := 1) (As := [.int (iI (z15))]) (rest := []) hE hK hN hP hS (s_X7_untell_48 l D K ad mm N hNN v13 ar al hI (z1 - 1) (by omega) ((up_oth hv13 (by decide)).trans ((up_oth hv10 (by decide)).trans ((up_oth hv7 (by decide)).trans (up_eq hv4)))) (z15) (by omega)) (x_recv hK hP 48 (Nat.lt_of_lt_of_le (by decide) hNN) (xG_7 rfl) rfl) rfl mw_816 mw_818 mw_21 mw_117 mw_819 (by decide +kernel) ⟨by decide, by decide⟩ hl.1 rfl (Nat.le_of_ble_eq_true rfl) ⟨Nat.zero_le _, Nat.zero_le _⟩ dX7_takeBack_88 (fun v28 ar28 al28 H locs hq28 hP hS => ?_)
        obtain ⟨hI, hq28⟩ := hq28
        have hI : XI v28 := hI
        refine lv_goto (tgt := 107) hE.1 hE.2.1 dX7_takeBack_91 (by decide) ?_
        exact kr _ _ _ _ _ _ _ ⟨hI, fun i j h => ((hq28 i j (fun q => h (mem_sub (by decide) q))).trans ((up_oth hv13 (fun q => h (by rcases q with ⟨rfl, rfl⟩; decide))).trans ((up_oth hv10 (fun q => h (by rcases q with ⟨rfl, rfl⟩; decide))).trans ((up_oth hv7 (fun q => h (by rcases q with ⟨rfl, rfl⟩; decide))).trans (up_oth hv4 (fun q => h (by rcases q with ⟨rfl, rfl⟩; decide)))))))⟩ hP hS dX7_takeBack_107

theorem dX6_solve_0 : decode cX6_solve 0 = .ok (.aload_n 0, 1) := by decide +kernel
theorem dX6_solve_1 : decode cX6_solve 1 = .ok (.invokevirtual 75, 3) := by decide +kernel
theorem dX6_solve_4 : decode cX6_solve 4 = .ok (.lstore_n 2, 1) := by decide +kernel
theorem dX6_solve_5 : decode cX6_solve 5 = .ok (.lload_n 2, 1) := by decide +kernel
theorem dX6_solve_6 : decode cX6_solve 6 = .ok (.ldc2_w 79, 3) := by decide +kernel
theorem dX6_solve_9 : decode cX6_solve 9 = .ok (.lmul, 1) := by decide +kernel
theorem dX6_solve_10 : decode cX6_solve 10 = .ok (.bipush 52, 2) := by decide +kernel
theorem dX6_solve_12 : decode cX6_solve 12 = .ok (.lushr, 1) := by decide +kernel
theorem dX6_solve_13 : decode cX6_solve 13 = .ok (.l2i, 1) := by decide +kernel
theorem dX6_solve_14 : decode cX6_solve 14 = .ok (.istore 4, 2) := by decide +kernel
theorem dX6_solve_16 : decode cX6_solve 16 = .ok (.iload_n 1, 1) := by decide +kernel
theorem dX6_solve_17 : decode cX6_solve 17 = .ok (.bipush 9, 2) := by decide +kernel
theorem dX6_solve_19 : decode cX6_solve 19 = .ok (.if_icmp .gt 16, 3) := by decide +kernel
theorem dX6_solve_22 : decode cX6_solve 22 = .ok (.iload 4, 2) := by decide +kernel
theorem dX6_solve_24 : decode cX6_solve 24 = .ok (.ifCond .lt 11, 3) := by decide +kernel
theorem dX6_solve_27 : decode cX6_solve 27 = .ok (.iload 4, 2) := by decide +kernel
theorem dX6_solve_29 : decode cX6_solve 29 = .ok (.sipush 4096, 3) := by decide +kernel
theorem dX6_solve_32 : decode cX6_solve 32 = .ok (.if_icmp .lt 5, 3) := by decide +kernel
theorem dX6_solve_35 : decode cX6_solve 35 = .ok (.iconst (-1), 1) := by decide +kernel
theorem dX6_solve_36 : decode cX6_solve 36 = .ok (.ireturn, 1) := by decide +kernel
theorem dX6_solve_37 : decode cX6_solve 37 = .ok (.aload_n 0, 1) := by decide +kernel
theorem dX6_solve_38 : decode cX6_solve 38 = .ok (.getfield 11, 3) := by decide +kernel
theorem dX6_solve_41 : decode cX6_solve 41 = .ok (.iload 4, 2) := by decide +kernel
theorem dX6_solve_43 : decode cX6_solve 43 = .ok (.laload, 1) := by decide +kernel
theorem dX6_solve_44 : decode cX6_solve 44 = .ok (.lload_n 2, 1) := by decide +kernel
theorem dX6_solve_45 : decode cX6_solve 45 = .ok (.lcmp, 1) := by decide +kernel
theorem dX6_solve_46 : decode cX6_solve 46 = .ok (.ifCond .ne 11, 3) := by decide +kernel
theorem dX6_solve_49 : decode cX6_solve 49 = .ok (.aload_n 0, 1) := by decide +kernel
theorem dX6_solve_50 : decode cX6_solve 50 = .ok (.getfield 15, 3) := by decide +kernel
theorem dX6_solve_53 : decode cX6_solve 53 = .ok (.iload 4, 2) := by decide +kernel
theorem dX6_solve_55 : decode cX6_solve 55 = .ok (.iaload, 1) := by decide +kernel
theorem dX6_solve_56 : decode cX6_solve 56 = .ok (.ireturn, 1) := by decide +kernel
theorem dX6_solve_57 : decode cX6_solve 57 = .ok (.aload_n 0, 1) := by decide +kernel
theorem dX6_solve_58 : decode cX6_solve 58 = .ok (.iload_n 1, 1) := by decide +kernel
theorem dX6_solve_59 : decode cX6_solve 59 = .ok (.invokevirtual 57, 3) := by decide +kernel
theorem dX6_solve_62 : decode cX6_solve 62 = .ok (.istore 5, 2) := by decide +kernel
theorem dX6_solve_64 : decode cX6_solve 64 = .ok (.aload_n 0, 1) := by decide +kernel
theorem dX6_solve_65 : decode cX6_solve 65 = .ok (.invokevirtual 68, 3) := by decide +kernel
theorem dX6_solve_68 : decode cX6_solve 68 = .ok (.istore 6, 2) := by decide +kernel
theorem dX6_solve_70 : decode cX6_solve 70 = .ok (.iconst 0, 1) := by decide +kernel
theorem dX6_solve_71 : decode cX6_solve 71 = .ok (.istore 7, 2) := by decide +kernel
theorem dX6_solve_73 : decode cX6_solve 73 = .ok (.iload 7, 2) := by decide +kernel
theorem dX6_solve_75 : decode cX6_solve 75 = .ok (.bipush 9, 2) := by decide +kernel
theorem dX6_solve_77 : decode cX6_solve 77 = .ok (.if_icmp .ge 58, 3) := by decide +kernel
theorem dX6_solve_80 : decode cX6_solve 80 = .ok (.iload 6, 2) := by decide +kernel
theorem dX6_solve_82 : decode cX6_solve 82 = .ok (.iload 7, 2) := by decide +kernel
theorem dX6_solve_84 : decode cX6_solve 84 = .ok (.ishr, 1) := by decide +kernel
theorem dX6_solve_85 : decode cX6_solve 85 = .ok (.ifCond .eq 50, 3) := by decide +kernel
theorem dX6_solve_88 : decode cX6_solve 88 = .ok (.iload 6, 2) := by decide +kernel
theorem dX6_solve_90 : decode cX6_solve 90 = .ok (.iload 7, 2) := by decide +kernel
theorem dX6_solve_92 : decode cX6_solve 92 = .ok (.ishr, 1) := by decide +kernel
theorem dX6_solve_93 : decode cX6_solve 93 = .ok (.iconst 1, 1) := by decide +kernel
theorem dX6_solve_94 : decode cX6_solve 94 = .ok (.iand, 1) := by decide +kernel
theorem dX6_solve_95 : decode cX6_solve 95 = .ok (.ifCond .eq 34, 3) := by decide +kernel
theorem dX6_solve_98 : decode cX6_solve 98 = .ok (.aload_n 0, 1) := by decide +kernel
theorem dX6_solve_99 : decode cX6_solve 99 = .ok (.getfield 24, 3) := by decide +kernel
theorem dX6_solve_102 : decode cX6_solve 102 = .ok (.iload 7, 2) := by decide +kernel
theorem dX6_solve_104 : decode cX6_solve 104 = .ok (.invokevirtual 64, 3) := by decide +kernel
theorem dX6_solve_107 : decode cX6_solve 107 = .ok (.aload_n 0, 1) := by decide +kernel
theorem dX6_solve_108 : decode cX6_solve 108 = .ok (.iload 5, 2) := by decide +kernel
theorem dX6_solve_110 : decode cX6_solve 110 = .ok (.aload_n 0, 1) := by decide +kernel
theorem dX6_solve_111 : decode cX6_solve 111 = .ok (.iload_n 1, 1) := by decide +kernel
theorem dX6_solve_112 : decode cX6_solve 112 = .ok (.iconst 1, 1) := by decide +kernel
theorem dX6_solve_113 : decode cX6_solve 113 = .ok (.iadd, 1) := by decide +kernel
theorem dX6_solve_114 : decode cX6_solve 114 = .ok (.invokevirtual 49, 3) := by decide +kernel
theorem dX6_solve_117 : decode cX6_solve 117 = .ok (.invokevirtual 81, 3) := by decide +kernel
theorem dX6_solve_120 : decode cX6_solve 120 = .ok (.istore 5, 2) := by decide +kernel
theorem dX6_solve_122 : decode cX6_solve 122 = .ok (.aload_n 0, 1) := by decide +kernel
theorem dX6_solve_123 : decode cX6_solve 123 = .ok (.getfield 24, 3) := by decide +kernel
theorem dX6_solve_126 : decode cX6_solve 126 = .ok (.invokevirtual 72, 3) := by decide +kernel
theorem dX6_solve_129 : decode cX6_solve 129 = .ok (.iinc 7 1, 3) := by decide +kernel
theorem dX6_solve_132 : decode cX6_solve 132 = .ok (.goto (-59), 3) := by decide +kernel
theorem dX6_solve_135 : decode cX6_solve 135 = .ok (.aload_n 0, 1) := by decide +kernel
theorem dX6_solve_136 : decode cX6_solve 136 = .ok (.getfield 11, 3) := by decide +kernel
theorem dX6_solve_139 : decode cX6_solve 139 = .ok (.iload 4, 2) := by decide +kernel
theorem dX6_solve_141 : decode cX6_solve 141 = .ok (.lload_n 2, 1) := by decide +kernel
theorem dX6_solve_142 : decode cX6_solve 142 = .ok (.lastore, 1) := by decide +kernel
theorem dX6_solve_143 : decode cX6_solve 143 = .ok (.aload_n 0, 1) := by decide +kernel
theorem dX6_solve_144 : decode cX6_solve 144 = .ok (.getfield 15, 3) := by decide +kernel
theorem dX6_solve_147 : decode cX6_solve 147 = .ok (.iload 4, 2) := by decide +kernel
theorem dX6_solve_149 : decode cX6_solve 149 = .ok (.iload 5, 2) := by decide +kernel
theorem dX6_solve_151 : decode cX6_solve 151 = .ok (.iastore, 1) := by decide +kernel
theorem dX6_solve_152 : decode cX6_solve 152 = .ok (.iload 5, 2) := by decide +kernel
theorem dX6_solve_154 : decode cX6_solve 154 = .ok (.ireturn, 1) := by decide +kernel
set_option maxHeartbeats 4000000 in
set_option maxRecDepth 100000 in
theorem s_X6_solve_45 (l : Launch) (D : va_G) (K : Nat → ClassId) (ad : Nat → Nat) (mm : Option Nat) (N : Nat) (hNN : 132 ≤ N) : ∀ (k : Nat) (v ar : sI) (al : sL) (hI : XI v) (z_1 : Int) (hz_1 : 0 ≤ z_1 ∧ z_1 ≤ 11) (hk : 10 - z_1 ≤ k), Met l yX6_solve (wM yX6_solve cX6_solve 8 (some .int)) (rmD (4 + k)) (va_Pc [.ref (ad 45), .int (iI (z_1))] (wPre D K ad (xG ad K mm) N v ar al)) (va_Qi (fun (r : Int32) (u : sT) => (∃ z : Int, (-2147483648 ≤ z ∧ z ≤ 2147483647) ∧ r = iI z) ∧ XI u.1 ∧ (∀ i j : Nat, (i, j) ∉ ([(48, 2), (48, 3), (48, 4), (48, 5), (48, 8), (48, 9)] : List (Nat × Nat)) → u.1 i j = v i j)) (wB D ad (xG ad K mm) N) (inW ad N)) 0 0 (inW ad N) := by
  intro k
  induction k with
  | zero =>
    intro v ar al hI z_1 hz_1 hk
    refine s_metI (by decide) (Nat.le_of_ble_eq_true rfl) ?_
    intro p e s m below meth c ls args Q hE hB hl kr
    have hE : CallFix p m c cX6_solve 8 s args tbG "TaleCourt$Survey" := hE
    obtain ⟨hP, hK, hN⟩ := hB
    have hS : va_S (inW ad N) s.heap s.heap [] := va_S.rf
    have hl : lv_has ls 8 [(0, .ref (ad 45)), (1, .int (iI (z_1)))] := hl
    refine lv_aload_n hE.1 hE.2.1 dX6_solve_0 rfl (lv_at hl 0 rfl) ?_
    refine x_vpl (nn := 0) (As := []) (rest := []) hE (s_X6_key_45 l D K ad mm N hNN v ar al hI  ) wPre_blind (wPre_now hK hN hP) (x_recv hK hP 45 (Nat.lt_of_lt_of_le (by decide) hNN) (xG_6 rfl) rfl) rfl mw_917 mw_919 mw_23 mw_119 mw_920 (by decide +kernel) ⟨by simp only [rmD]; omega, by simp only [rmD]; omega⟩ hl.1 rfl (Nat.le_of_ble_eq_true rfl) ⟨Nat.zero_le _, Nat.zero_le _⟩ dX6_solve_1 (fun r1 hr1 => ?_)
    obtain ⟨z1, hz1, rfl⟩ := hr1
    refine lv_lstore_n (lv' := [(2, .long (lI (z1))), (0, .ref (ad 45)), (1, .int (iI (z_1)))]) hE.1 hE.2.1 dX6_solve_4 rfl hl (by decide) rfl (fun ls hl => ?_)
    refine lv_lload_n hE.1 hE.2.1 dX6_solve_5 rfl (lv_at hl 0 rfl) ?_
    refine lv_ldc2 (v := (-7046029254386353131)) hE.1 hE.2.1 hE.2.2.2.1 (hE.2.2.2.2 _ mw_926) dX6_solve_6 ?_
    refine x_topl (y := lI (-7046029254386353131)) (by decide) ?_
    refine lv_lmul hE.1 hE.2.1 dX6_solve_9 ?_
    obtain ⟨z2, hz2, ez2⟩ := lI_of (lI (z1) * lI (-7046029254386353131))
    refine x_topl ez2 ?_
    refine lv_bipush (v := iI (52)) hE.1 hE.2.1 dX6_solve_10 (by decide) ?_
    obtain ⟨z3, hz3, ez3⟩ := lI_of (((lI (z2)).toUInt64 >>> ((iI (52)).toInt64.toUInt64 &&& Int64.toUInt64 63)).toInt64)
    refine lv_lushr (v := lI (z3)) hE.1 hE.2.1 dX6_solve_12 ez3 ?_
    refine lv_l2i (v := iI (z3)) hE.1 hE.2.1 dX6_solve_13 (lI_l2i _) ?_
    obtain ⟨z4, hz4, ez4⟩ := iI_of (iI (z3))
    refine x_top ez4 ?_
    refine lv_istore (lv' := [(4, .int (iI (z4))), (2, .long (lI (z1))), (0, .ref (ad 45)), (1, .int (iI (z_1)))]) hE.1 hE.2.1 dX6_solve_14 hl (by decide) rfl (fun ls hl => ?_)
    refine lv_iload_n hE.1 hE.2.1 dX6_solve_16 rfl (lv_at hl 3 rfl) ?_
    refine lv_bipush (v := iI (9)) hE.1 hE.2.1 dX6_solve_17 (by decide) ?_
    refine s_icmp_gt (a := z_1) (b := 9) (tgt := 35) hE.1 hE.2.1 (by omega) (by omega) dX6_solve_19 (by decide) (fun _ => ?_) (fun c5 => False.elim (by omega))
    refine lv_iconst (v := iI (-1)) hE.1 hE.2.1 dX6_solve_35 (by decide) ?_
    exact kr _ _ _ _ _ _ _ _ rfl ⟨⟨-1, by omega, rfl⟩, hI, fun i j h => rfl⟩ hP hS dX6_solve_36
  | succ k ih =>
    intro v ar al hI z_1 hz_1 hk
    refine s_metI (by decide) (Nat.le_of_ble_eq_true rfl) ?_
    intro p e s m below meth c ls args Q hE hB hl kr
    have hE : CallFix p m c cX6_solve 8 s args tbG "TaleCourt$Survey" := hE
    obtain ⟨hP, hK, hN⟩ := hB
    have hS : va_S (inW ad N) s.heap s.heap [] := va_S.rf
    have hl : lv_has ls 8 [(0, .ref (ad 45)), (1, .int (iI (z_1)))] := hl
    refine lv_aload_n hE.1 hE.2.1 dX6_solve_0 rfl (lv_at hl 0 rfl) ?_
    refine x_vpl (nn := 0) (As := []) (rest := []) hE (s_X6_key_45 l D K ad mm N hNN v ar al hI  ) wPre_blind (wPre_now hK hN hP) (x_recv hK hP 45 (Nat.lt_of_lt_of_le (by decide) hNN) (xG_6 rfl) rfl) rfl mw_917 mw_919 mw_23 mw_119 mw_920 (by decide +kernel) ⟨by simp only [rmD]; omega, by simp only [rmD]; omega⟩ hl.1 rfl (Nat.le_of_ble_eq_true rfl) ⟨Nat.zero_le _, Nat.zero_le _⟩ dX6_solve_1 (fun r1 hr1 => ?_)
    obtain ⟨z1, hz1, rfl⟩ := hr1
    refine lv_lstore_n (lv' := [(2, .long (lI (z1))), (0, .ref (ad 45)), (1, .int (iI (z_1)))]) hE.1 hE.2.1 dX6_solve_4 rfl hl (by decide) rfl (fun ls hl => ?_)
    refine lv_lload_n hE.1 hE.2.1 dX6_solve_5 rfl (lv_at hl 0 rfl) ?_
    refine lv_ldc2 (v := (-7046029254386353131)) hE.1 hE.2.1 hE.2.2.2.1 (hE.2.2.2.2 _ mw_926) dX6_solve_6 ?_
    refine x_topl (y := lI (-7046029254386353131)) (by decide) ?_
    refine lv_lmul hE.1 hE.2.1 dX6_solve_9 ?_
    obtain ⟨z2, hz2, ez2⟩ := lI_of (lI (z1) * lI (-7046029254386353131))
    refine x_topl ez2 ?_
    refine lv_bipush (v := iI (52)) hE.1 hE.2.1 dX6_solve_10 (by decide) ?_
    obtain ⟨z3, hz3, ez3⟩ := lI_of (((lI (z2)).toUInt64 >>> ((iI (52)).toInt64.toUInt64 &&& Int64.toUInt64 63)).toInt64)
    refine lv_lushr (v := lI (z3)) hE.1 hE.2.1 dX6_solve_12 ez3 ?_
    refine lv_l2i (v := iI (z3)) hE.1 hE.2.1 dX6_solve_13 (lI_l2i _) ?_
    obtain ⟨z4, hz4, ez4⟩ := iI_of (iI (z3))
    refine x_top ez4 ?_
    refine lv_istore (lv' := [(4, .int (iI (z4))), (2, .long (lI (z1))), (0, .ref (ad 45)), (1, .int (iI (z_1)))]) hE.1 hE.2.1 dX6_solve_14 hl (by decide) rfl (fun ls hl => ?_)
    refine lv_iload_n hE.1 hE.2.1 dX6_solve_16 rfl (lv_at hl 3 rfl) ?_
    refine lv_bipush (v := iI (9)) hE.1 hE.2.1 dX6_solve_17 (by decide) ?_
    refine s_icmp_gt (a := z_1) (b := 9) (tgt := 35) hE.1 hE.2.1 (by omega) (by omega) dX6_solve_19 (by decide) (fun c5 => ?_) (fun c5 => ?_)
    · skip
      refine lv_iconst (v := iI (-1)) hE.1 hE.2.1 dX6_solve_35 (by decide) ?_
      exact kr _ _ _ _ _ _ _ _ rfl ⟨⟨-1, by omega, rfl⟩, hI, fun i j h => rfl⟩ hP hS dX6_solve_36
    · skip
      refine lv_iload hE.1 hE.2.1 dX6_solve_22 (lv_at hl 0 rfl) ?_
      refine s_if_lt (a := z4) (tgt := 35) hE.1 hE.2.1 (by omega) dX6_solve_24 (by decide) (fun c6 => ?_) (fun c6 => ?_)
      · skip
        refine lv_iconst (v := iI (-1)) hE.1 hE.2.1 dX6_solve_35 (by decide) ?_
        exact kr _ _ _ _ _ _ _ _ rfl ⟨⟨-1, by omega, rfl⟩, hI, fun i j h => rfl⟩ hP hS dX6_solve_36
      · skip
        refine lv_iload hE.1 hE.2.1 dX6_solve_27 (lv_at hl 0 rfl) ?_
        refine lv_sipush (v := iI (4096)) hE.1 hE.2.1 dX6_solve_29 (by decide) ?_
        refine s_icmp_lt (a := z4) (b := 4096) (tgt := 37) hE.1 hE.2.1 (by omega) (by omega) dX6_solve_32 (by decide) (fun c7 => ?_) (fun c7 => ?_)
        · skip
          refine lv_aload_n hE.1 hE.2.1 dX6_solve_37 rfl (lv_at hl 2 rfl) ?_
          refine x_get (x := .ref (ad 46)) hE hK hP 45 (Nat.lt_of_lt_of_le (by decide) hNN) (xG_6 rfl) rfl hin6 2 (by decide) mw_388 rfl dX6_solve_38 ?_
          refine lv_iload hE.1 hE.2.1 dX6_solve_41 (lv_at hl 0 rfl) ?_
          refine x_lald (j := iI (z4)) hE hK hP 46 (Nat.lt_of_lt_of_le (by decide) hNN) (xG_11 rfl) (iI_in (n := 4096) (by omega)) dX6_solve_43 ?_
          obtain ⟨z9, hz9, ez9⟩ := lI_of (al 46 (iI (z4)).toNatClampNeg)
          refine x_topl ez9 ?_
          refine lv_lload_n hE.1 hE.2.1 dX6_solve_44 rfl (lv_at hl 1 rfl) ?_
          refine W.lcmp hE.1 hE.2.1 dX6_solve_45 ?_
          obtain ⟨z10, hz10, ez10⟩ := lcmp_of (a := z9) (b := z1) (by omega) (by omega)
          refine x_top ez10 ?_
          refine s_if_ne (a := z10) (tgt := 57) hE.1 hE.2.1 (by omega) dX6_solve_46 (by decide) (fun c11 => ?_) (fun c11 => ?_)
          · skip
            refine lv_aload_n hE.1 hE.2.1 dX6_solve_57 rfl (lv_at hl 2 rfl) ?_
            refine lv_iload_n hE.1 hE.2.1 dX6_solve_58 rfl (lv_at hl 3 rfl) ?_
            refine x_vp (nn := 1) (As := [.int (iI (z_1))]) (rest := []) hE (s_X6_own_45 l D K ad mm N hNN v ar al hI  (z_1) (by omega)) wPre_blind (wPre_now hK hN hP) (x_recv hK hP 45 (Nat.lt_of_lt_of_le (by decide) hNN) (xG_6 rfl) rfl) rfl mw_927 mw_929 mw_24 mw_119 mw_930 (by decide +kernel) ⟨by simp only [rmD]; omega, by simp only [rmD]; omega⟩ hl.1 rfl (Nat.le_of_ble_eq_true rfl) ⟨Nat.zero_le _, Nat.zero_le _⟩ dX6_solve_59 (fun r12 hr12 => ?_)
            obtain ⟨z12, hz12, rfl⟩ := hr12
            refine lv_istore (lv' := [(5, .int (iI (z12))), (4, .int (iI (z4))), (2, .long (lI (z1))), (0, .ref (ad 45)), (1, .int (iI (z_1)))]) hE.1 hE.2.1 dX6_solve_62 hl (by decide) rfl (fun ls hl => ?_)
            refine lv_aload_n hE.1 hE.2.1 dX6_solve_64 rfl (lv_at hl 3 rfl) ?_
            refine x_vp (nn := 0) (As := []) (rest := []) hE (s_X6_openNow_45 l D K ad mm N hNN v ar al hI  ) wPre_blind (wPre_now hK hN hP) (x_recv hK hP 45 (Nat.lt_of_lt_of_le (by decide) hNN) (xG_6 rfl) rfl) rfl mw_932 mw_934 mw_25 mw_119 mw_935 (by decide +kernel) ⟨by simp only [rmD]; omega, by simp only [rmD]; omega⟩ hl.1 rfl (Nat.le_of_ble_eq_true rfl) ⟨Nat.zero_le _, Nat.zero_le _⟩ dX6_solve_65 (fun r13 hr13 => ?_)
            obtain ⟨z13, hz13, rfl⟩ := hr13
            refine lv_istore (lv' := [(6, .int (iI (z13))), (5, .int (iI (z12))), (4, .int (iI (z4))), (2, .long (lI (z1))), (0, .ref (ad 45)), (1, .int (iI (z_1)))]) hE.1 hE.2.1 dX6_solve_68 hl (by decide) rfl (fun ls hl => ?_)
            refine lv_iconst (v := iI (0)) hE.1 hE.2.1 dX6_solve_70 (by decide) ?_
            refine lv_istore (lv' := [(7, .int (iI (0))), (6, .int (iI (z13))), (5, .int (iI (z12))), (4, .int (iI (z4))), (2, .long (lI (z1))), (0, .ref (ad 45)), (1, .int (iI (z_1)))]) hE.1 hE.2.1 dX6_solve_71 hl (by decide) rfl (fun ls hl => ?_)
            have loop14 : ∀ (k14 : Nat) (y14_7 : Int) (y14_5 : Int) (vl14 arl14 : sI) (all14 : sL) (H : Heap) (locs : List Loc) (ls : Array Slot), (9 - y14_7).toNat = k14 → (0 ≤ y14_7 ∧ y14_7 ≤ 9) → (-2147483648 ≤ y14_5 ∧ y14_5 ≤ 2147483647) → XI vl14 → (∀ i j : Nat, (i, j) ∉ ([(48, 2), (48, 3), (48, 4), (48, 5), (48, 8), (48, 9)] : List (Nat × Nat)) → vl14 i j = v i j) → va_P D xcl (wW ad (xG ad K mm) N vl14 arl14 all14) H → va_S (inW ad N) s.heap H locs → lv_has ls 8 [(7, .int (iI (y14_7))), (6, .int (iI (z13))), (5, .int (iI (y14_5))), (4, .int (iI (z4))), (2, .long (lI (z1))), (0, .ref (ad 45)), (1, .int (iI (z_1)))] → W p l e (rmD (4 + (k + 1))) s m args below meth c H locs 0 0 Q (F0 m 73 ls []) := by
              intro k14
              induction k14 using Nat.strongRecOn with
              | _ k14 ih14 =>
                intro y14_7 y14_5 vl14 arl14 all14 H locs ls hk14 hb_y14_7 hb_y14_5 hI hfr14 hP hS hl
                refine lv_iload hE.1 hE.2.1 dX6_solve_73 (lv_at hl 0 rfl) ?_
                refine lv_bipush (v := iI (9)) hE.1 hE.2.1 dX6_solve_75 (by decide) ?_
                refine s_icmp_ge (a := y14_7) (b := 9) (tgt := 135) hE.1 hE.2.1 (by omega) (by omega) dX6_solve_77 (by decide) (fun c15 => ?_) (fun c15 => ?_)
                · skip
                  refine lv_aload_n hE.1 hE.2.1 dX6_solve_135 rfl (lv_at hl 5 rfl) ?_
                  refine x_get (x := .ref (ad 46)) hE hK hP 45 (Nat.lt_of_lt_of_le (by decide) hNN) (xG_6 rfl) rfl hin6 2 (by decide) mw_388 rfl dX6_solve_136 ?_
                  refine lv_iload hE.1 hE.2.1 dX6_solve_139 (lv_at hl 3 rfl) ?_
                  refine lv_lload_n hE.1 hE.2.1 dX6_solve_141 rfl (lv_at hl 4 rfl) ?_
                  refine x_last (j := iI (z4)) hE hK hN hP hS 46 (Nat.lt_of_lt_of_le (by decide) hNN) (fun _ => xG_11 rfl) (iI_in (n := 4096) (by omega)) dX6_solve_142 (fun al16 H locs ha16 hP hS => ?_)
                  refine lv_aload_n hE.1 hE.2.1 dX6_solve_143 rfl (lv_at hl 5 rfl) ?_
                  refine x_get (x := .ref (ad 47)) hE hK hP 45 (Nat.lt_of_lt_of_le (by decide) hNN) (xG_6 rfl) rfl hin6 3 (by decide) mw_389 rfl dX6_solve_144 ?_
                  refine lv_iload hE.1 hE.2.1 dX6_solve_147 (lv_at hl 3 rfl) ?_
                  refine lv_iload hE.1 hE.2.1 dX6_solve_149 (lv_at hl 2 rfl) ?_
                  refine x_iast (j := iI (z4)) hE hK hN hP hS 47 (Nat.lt_of_lt_of_le (by decide) hNN) (fun _ => xG_10 rfl) (iI_in (n := 4096) (by omega)) dX6_solve_151 (fun ar17 H locs ha17 hP hS => ?_)
                  refine lv_iload hE.1 hE.2.1 dX6_solve_152 (lv_at hl 2 rfl) ?_
                  exact kr _ _ _ _ _ _ _ _ rfl ⟨⟨y14_5, by omega, rfl⟩, hI, fun i j h => (hfr14 i j (fun q => h (mem_sub (by decide) q)))⟩ hP hS dX6_solve_154
                · skip
                  refine lv_iload hE.1 hE.2.1 dX6_solve_80 (lv_at hl 1 rfl) ?_
                  refine lv_iload hE.1 hE.2.1 dX6_solve_82 (lv_at hl 0 rfl) ?_
                  refine lv_ishr hE.1 hE.2.1 dX6_solve_84 ?_
                  obtain ⟨z18, hz18, ez18⟩ := iI_of (iI (z13) >>> (iI (y14_7) &&& 31))
                  refine x_top ez18 ?_
                  refine s_if_eq (a := z18) (tgt := 135) hE.1 hE.2.1 (by omega) dX6_solve_85 (by decide) (fun c19 => ?_) (fun c19 => ?_)
                  · skip
                    refine lv_aload_n hE.1 hE.2.1 dX6_solve_135 rfl (lv_at hl 5 rfl) ?_
                    refine x_get (x := .ref (ad 46)) hE hK hP 45 (Nat.lt_of_lt_of_le (by decide) hNN) (xG_6 rfl) rfl hin6 2 (by decide) mw_388 rfl dX6_solve_136 ?_
                    refine lv_iload hE.1 hE.2.1 dX6_solve_139 (lv_at hl 3 rfl) ?_
                    refine lv_lload_n hE.1 hE.2.1 dX6_solve_141 rfl (lv_at hl 4 rfl) ?_
                    refine x_last (j := iI (z4)) hE hK hN hP hS 46 (Nat.lt_of_lt_of_le (by decide) hNN) (fun _ => xG_11 rfl) (iI_in (n := 4096) (by omega)) dX6_solve_142 (fun al20 H locs ha20 hP hS => ?_)
                    refine lv_aload_n hE.1 hE.2.1 dX6_solve_143 rfl (lv_at hl 5 rfl) ?_
                    refine x_get (x := .ref (ad 47)) hE hK hP 45 (Nat.lt_of_lt_of_le (by decide) hNN) (xG_6 rfl) rfl hin6 3 (by decide) mw_389 rfl dX6_solve_144 ?_
                    refine lv_iload hE.1 hE.2.1 dX6_solve_147 (lv_at hl 3 rfl) ?_
                    refine lv_iload hE.1 hE.2.1 dX6_solve_149 (lv_at hl 2 rfl) ?_
                    refine x_iast (j := iI (z4)) hE hK hN hP hS 47 (Nat.lt_of_lt_of_le (by decide) hNN) (fun _ => xG_10 rfl) (iI_in (n := 4096) (by omega)) dX6_solve_151 (fun ar21 H locs ha21 hP hS => ?_)
                    refine lv_iload hE.1 hE.2.1 dX6_solve_152 (lv_at hl 2 rfl) ?_
                    exact kr _ _ _ _ _ _ _ _ rfl ⟨⟨y14_5, by omega, rfl⟩, hI, fun i j h => (hfr14 i j (fun q => h (mem_sub (by decide) q)))⟩ hP hS dX6_solve_154
                  · skip
                    refine lv_iload hE.1 hE.2.1 dX6_solve_88 (lv_at hl 1 rfl) ?_
                    refine lv_iload hE.1 hE.2.1 dX6_solve_90 (lv_at hl 0 rfl) ?_
                    refine lv_ishr hE.1 hE.2.1 dX6_solve_92 ?_
                    obtain ⟨z22, hz22, ez22⟩ := iI_of (iI (z13) >>> (iI (y14_7) &&& 31))
                    refine x_top ez22 ?_
                    refine lv_iconst (v := iI (1)) hE.1 hE.2.1 dX6_solve_93 (by decide) ?_
                    refine lv_iand hE.1 hE.2.1 dX6_solve_94 ?_
                    obtain ⟨z23, hz23, ez23⟩ := iI_and (iI (z22)) (iI (1)) 1 (by decide)
                    refine x_top ez23 ?_
                    refine s_if_eq (a := z23) (tgt := 129) hE.1 hE.2.1 (by omega) dX6_solve_95 (by decide) (fun c24 => ?_) (fun c24 => ?_)
                    · skip
                      refine lv_iinc (v := iI (y14_7 + 1)) (lv' := [(7, .int (iI (y14_7 + 1))), (6, .int (iI (z13))), (5, .int (iI (y14_5))), (4, .int (iI (z4))), (2, .long (lI (z1))), (0, .ref (ad 45)), (1, .int (iI (z_1)))]) hE.1 hE.2.1 dX6_solve_129 hl (k := 0) rfl ((iI_add (y14_7) (1)).trans (congrArg iI (by omega))) (by decide) rfl (fun ls hl => ?_)
                      refine lv_goto (tgt := 73) hE.1 hE.2.1 dX6_solve_132 (by decide) ?_
                      exact ih14 _ (by omega) (y14_7 + 1) (y14_5) vl14 arl14 all14 _ _ _ rfl (by omega) (by omega) hI (fun i j h => (hfr14 i j h)) hP hS (lv_sub hl [0, 1, 2, 3, 4, 5, 6] rfl)
                    · skip
                      refine lv_aload_n hE.1 hE.2.1 dX6_solve_98 rfl (lv_at hl 5 rfl) ?_
                      refine x_get (x := .ref (ad 48)) hE hK hP 45 (Nat.lt_of_lt_of_le (by decide) hNN) (xG_6 rfl) rfl hin6 0 (by decide) mw_386 rfl dX6_solve_99 ?_
                      refine lv_iload hE.1 hE.2.1 dX6_solve_102 (lv_at hl 0 rfl) ?_
                      refine x_vv (nn := 1) (As := [.int (iI (y14_7))]) (rest := []) hE hK hN hP hS (s_X7_tell_48 l D K ad mm N hNN vl14 arl14 all14 hI  (y14_7) (by omega)) (x_recv hK hP 48 (Nat.lt_of_lt_of_le (by decide) hNN) (xG_7 rfl) rfl) rfl mw_945 mw_763 mw_764 mw_117 mw_765 (by decide +kernel) ⟨by simp only [rmD]; omega, by simp only [rmD]; omega⟩ hl.1 rfl (Nat.le_of_ble_eq_true rfl) ⟨Nat.zero_le _, Nat.zero_le _⟩ dX6_solve_104 (fun v25 ar25 al25 H locs hq25 hP hS => ?_)
                      obtain ⟨hI, hq25⟩ := hq25
                      have hI : XI v25 := hI
                      refine lv_aload_n hE.1 hE.2.1 dX6_solve_107 rfl (lv_at hl 5 rfl) ?_
                      refine lv_iload hE.1 hE.2.1 dX6_solve_108 (lv_at hl 2 rfl) ?_
                      refine lv_aload_n hE.1 hE.2.1 dX6_solve_110 rfl (lv_at hl 5 rfl) ?_
                      refine lv_iload_n hE.1 hE.2.1 dX6_solve_111 rfl (lv_at hl 6 rfl) ?_
                      refine lv_iconst (v := iI (1)) hE.1 hE.2.1 dX6_solve_112 (by decide) ?_
                      refine lv_iadd hE.1 hE.2.1 dX6_solve_113 ?_
                      refine x_top (y := iI (z_1 + 1)) ((iI_add (z_1) (1)).trans (congrArg iI (by omega))) ?_
                      refine x_vi (nn := 1) (As := [.int (iI (z_1 + 1))]) (rest := [.int (iI (y14_5)), .ref (ad 45)]) hE hK hN hP hS (ih v25 ar25 al25 hI (z_1 + 1) (by omega) (by omega)) (x_recv hK hP 45 (Nat.lt_of_lt_of_le (by decide) hNN) (xG_6 rfl) rfl) rfl mw_913 mw_915 mw_22 mw_119 mw_916 (by decide +kernel) ⟨by simp only [rmD]; omega, by simp only [rmD]; omega⟩ hl.1 rfl (Nat.le_of_ble_eq_true rfl) ⟨Nat.zero_le _, Nat.zero_le _⟩ dX6_solve_114 (fun r26 v26 ar26 al26 H locs hq26 hP hS => ?_)
                      obtain ⟨⟨z26, hz26, rfl⟩, hI, hq26⟩ := hq26
                      have hI : XI v26 := hI
                      refine x_vp (nn := 2) (As := [.int (iI (y14_5)), .int (iI (z26))]) (rest := []) hE (s_X6_merge_45 l D K ad mm N hNN v26 ar26 al26 hI  (y14_5) (by omega) (z26) (by omega)) wPre_blind (wPre_now hK hN hP) (x_recv hK hP 45 (Nat.lt_of_lt_of_le (by decide) hNN) (xG_6 rfl) rfl) rfl mw_946 mw_948 mw_27 mw_119 mw_949 (by decide +kernel) ⟨by simp only [rmD]; omega, by simp only [rmD]; omega⟩ hl.1 rfl (Nat.le_of_ble_eq_true rfl) ⟨Nat.zero_le _, Nat.zero_le _⟩ dX6_solve_117 (fun r27 hr27 => ?_)
                      obtain ⟨z27, hz27, rfl⟩ := hr27
                      refine lv_istore (lv' := [(5, .int (iI (z27))), (7, .int (iI (y14_7))), (6, .int (iI (z13))), (4, .int (iI (z4))), (2, .long (lI (z1))), (0, .ref (ad 45)), (1, .int (iI (z_1)))]) hE.1 hE.2.1 dX6_solve_120 hl (by decide) rfl (fun ls hl => ?_)
                      refine lv_aload_n hE.1 hE.2.1 dX6_solve_122 rfl (lv_at hl 5 rfl) ?_
                      refine x_get (x := .ref (ad 48)) hE hK hP 45 (Nat.lt_of_lt_of_le (by decide) hNN) (xG_6 rfl) rfl hin6 0 (by decide) mw_386 rfl dX6_solve_123 ?_
                      refine x_vv (nn := 0) (As := []) (rest := []) hE hK hN hP hS (s_X7_takeBack_48 l D K ad mm N hNN v26 ar26 al26 hI  ) (x_recv hK hP 48 (Nat.lt_of_lt_of_le (by decide) hNN) (xG_7 rfl) rfl) rfl mw_952 mw_813 mw_814 mw_117 mw_815 (by decide +kernel) ⟨by simp only [rmD]; omega, by simp only [rmD]; omega⟩ hl.1 rfl (Nat.le_of_ble_eq_true rfl) ⟨Nat.zero_le _, Nat.zero_le _⟩ dX6_solve_126 (fun v28 ar28 al28 H locs hq28 hP hS => ?_)
                      obtain ⟨hI, hq28⟩ := hq28
                      have hI : XI v28 := hI
                      refine lv_iinc (v := iI (y14_7 + 1)) (lv' := [(7, .int (iI (y14_7 + 1))), (5, .int (iI (z27))), (6, .int (iI (z13))), (4, .int (iI (z4))), (2, .long (lI (z1))), (0, .ref (ad 45)), (1, .int (iI (z_1)))]) hE.1 hE.2.1 dX6_solve_129 hl (k := 1) rfl ((iI_add (y14_7) (1)).trans (congrArg iI (by omega))) (by decide) rfl (fun ls hl => ?_)
                      refine lv_goto (tgt := 73) hE.1 hE.2.1 dX6_solve_132 (by decide) ?_
                      exact ih14 _ (by omega) (y14_7 + 1) (z27) v28 ar28 al28 _ _ _ rfl (by omega) (by omega) hI (fun i j h => (((hq28 i j (fun q => h (mem_sub (by decide) q))).trans ((hq26 i j (fun q => h (mem_sub (by decide) q))).trans (hq25 i j (fun q => h (mem_sub (by decide) q))))).trans (hfr14 i j h))) hP hS (lv_sub hl [0, 2, 1, 3, 4, 5, 6] rfl)
            exact loop14 _ (0) (z12) v ar al _ _ _ rfl (by omega) (by omega) hI (fun _ _ _ => rfl) hP hS hl
          · skip
            refine lv_aload_n hE.1 hE.2.1 dX6_solve_49 rfl (lv_at hl 2 rfl) ?_
            refine x_get (x := .ref (ad 47)) hE hK hP 45 (Nat.lt_of_lt_of_le (by decide) hNN) (xG_6 rfl) rfl hin6 3 (by decide) mw_389 rfl dX6_solve_50 ?_
            refine lv_iload hE.1 hE.2.1 dX6_solve_53 (lv_at hl 0 rfl) ?_
            refine x_iald (j := iI (z4)) hE hK hP 47 (Nat.lt_of_lt_of_le (by decide) hNN) (xG_10 rfl) (iI_in (n := 4096) (by omega)) dX6_solve_55 ?_
            obtain ⟨z30, hz30, ez30⟩ := iI_of (ar 47 (iI (z4)).toNatClampNeg)
            refine x_top ez30 ?_
            exact kr _ _ _ _ _ _ _ _ rfl ⟨⟨z30, by omega, rfl⟩, hI, fun i j h => rfl⟩ hP hS dX6_solve_56
        · skip
          refine lv_iconst (v := iI (-1)) hE.1 hE.2.1 dX6_solve_35 (by decide) ?_
          exact kr _ _ _ _ _ _ _ _ rfl ⟨⟨-1, by omega, rfl⟩, hI, fun i j h => rfl⟩ hP hS dX6_solve_36

theorem dX6_ask_0 : decode cX6_ask 0 = .ok (.aload_n 0, 1) := by decide +kernel
theorem dX6_ask_1 : decode cX6_ask 1 = .ok (.getfield 24, 3) := by decide +kernel
theorem dX6_ask_4 : decode cX6_ask 4 = .ok (.aload_n 1, 1) := by decide +kernel
theorem dX6_ask_5 : decode cX6_ask 5 = .ok (.invokevirtual 32, 3) := by decide +kernel
theorem dX6_ask_8 : decode cX6_ask 8 = .ok (.aload_n 0, 1) := by decide +kernel
theorem dX6_ask_9 : decode cX6_ask 9 = .ok (.iload_n 2, 1) := by decide +kernel
theorem dX6_ask_10 : decode cX6_ask 10 = .ok (.putfield 36, 3) := by decide +kernel
theorem dX6_ask_13 : decode cX6_ask 13 = .ok (.aload_n 0, 1) := by decide +kernel
theorem dX6_ask_14 : decode cX6_ask 14 = .ok (.iload_n 3, 1) := by decide +kernel
theorem dX6_ask_15 : decode cX6_ask 15 = .ok (.putfield 40, 3) := by decide +kernel
theorem dX6_ask_18 : decode cX6_ask 18 = .ok (.aload_n 0, 1) := by decide +kernel
theorem dX6_ask_19 : decode cX6_ask 19 = .ok (.iload 4, 2) := by decide +kernel
theorem dX6_ask_21 : decode cX6_ask 21 = .ok (.putfield 43, 3) := by decide +kernel
theorem dX6_ask_24 : decode cX6_ask 24 = .ok (.aload_n 0, 1) := by decide +kernel
theorem dX6_ask_25 : decode cX6_ask 25 = .ok (.dup, 1) := by decide +kernel
theorem dX6_ask_26 : decode cX6_ask 26 = .ok (.getfield 46, 3) := by decide +kernel
theorem dX6_ask_29 : decode cX6_ask 29 = .ok (.iconst 1, 1) := by decide +kernel
theorem dX6_ask_30 : decode cX6_ask 30 = .ok (.iadd, 1) := by decide +kernel
theorem dX6_ask_31 : decode cX6_ask 31 = .ok (.putfield 46, 3) := by decide +kernel
theorem dX6_ask_34 : decode cX6_ask 34 = .ok (.aload_n 0, 1) := by decide +kernel
theorem dX6_ask_35 : decode cX6_ask 35 = .ok (.iconst 0, 1) := by decide +kernel
theorem dX6_ask_36 : decode cX6_ask 36 = .ok (.invokevirtual 49, 3) := by decide +kernel
theorem dX6_ask_39 : decode cX6_ask 39 = .ok (.ireturn, 1) := by decide +kernel
set_option maxHeartbeats 4000000 in
set_option maxRecDepth 100000 in
theorem s_X6_ask_45_23 (l : Launch) (D : va_G) (K : Nat → ClassId) (ad : Nat → Nat) (mm : Option Nat) (N : Nat) (hNN : 132 ≤ N) (v ar : sI) (al : sL) (hI : XI v) (z_1 : Int) (hz_1 : -2147483648 ≤ z_1 ∧ z_1 ≤ 2147483647) (z_2 : Int) (hz_2 : -2147483648 ≤ z_2 ∧ z_2 ≤ 2147483647) (z_3 : Int) (hz_3 : -2147483648 ≤ z_3 ∧ z_3 ≤ 2147483647) : Met l yX6_ask (wM yX6_ask cX6_ask 5 (some .int)) (rmD 15) (va_Pc [.ref (ad 45), .ref (ad 23), .int (iI (z_1)), .int (iI (z_2)), .int (iI (z_3))] (wPre D K ad (xG ad K mm) N v ar al)) (va_Qi (fun (r : Int32) (u : sT) => (∃ z : Int, (-2147483648 ≤ z ∧ z ≤ 2147483647) ∧ r = iI z) ∧ XI u.1 ∧ (∀ i j : Nat, (i, j) ∉ ([(45, 4), (45, 5), (45, 6), (45, 7), (48, 2), (48, 3), (48, 4), (48, 5), (48, 8), (48, 9)] : List (Nat × Nat)) → u.1 i j = v i j)) (wB D ad (xG ad K mm) N) (inW ad N)) 0 0 (inW ad N) := by
  refine s_metI (by decide) (Nat.le_of_ble_eq_true rfl) ?_
  intro p e s m below meth c ls args Q hE hB hl kr
  have hE : CallFix p m c cX6_ask 5 s args tbG "TaleCourt$Survey" := hE
  obtain ⟨hP, hK, hN⟩ := hB
  have hS : va_S (inW ad N) s.heap s.heap [] := va_S.rf
  have hl : lv_has ls 5 [(0, .ref (ad 45)), (1, .ref (ad 23)), (2, .int (iI (z_1))), (3, .int (iI (z_2))), (4, .int (iI (z_3)))] := hl
  refine lv_aload_n hE.1 hE.2.1 dX6_ask_0 rfl (lv_at hl 0 rfl) ?_
  refine x_get (x := .ref (ad 48)) hE hK hP 45 (Nat.lt_of_lt_of_le (by decide) hNN) (xG_6 rfl) rfl hin6 0 (by decide) mw_386 rfl dX6_ask_1 ?_
  refine lv_aload_n hE.1 hE.2.1 dX6_ask_4 rfl (lv_at hl 1 rfl) ?_
  refine x_vv (nn := 1) (As := [.ref (ad 23)]) (rest := []) hE hK hN hP hS (s_X7_copyFrom_48_23 l D K ad mm N hNN v ar al hI  ) (x_recv hK hP 48 (Nat.lt_of_lt_of_le (by decide) hNN) (xG_7 rfl) rfl) rfl mw_908 mw_909 mw_910 mw_117 mw_911 (by decide +kernel) ⟨by decide, by decide⟩ hl.1 rfl (Nat.le_of_ble_eq_true rfl) ⟨Nat.zero_le _, Nat.zero_le _⟩ dX6_ask_5 (fun v1 ar1 al1 H locs hq1 hP hS => ?_)
  obtain ⟨hI, hq1⟩ := hq1
  have hI : XI v1 := hI
  refine lv_aload_n hE.1 hE.2.1 dX6_ask_8 rfl (lv_at hl 0 rfl) ?_
  refine lv_iload_n hE.1 hE.2.1 dX6_ask_9 rfl (lv_at hl 2 rfl) ?_
  refine x_put (x := iI (z_1)) hE hK hN hP hS 45 (Nat.lt_of_lt_of_le (by decide) hNN) (xG_6 rfl) rfl hin6 tyX6 tyX6_ok nmX6 5 (by decide) mw_391 rfl rfl rfl (Nat.le_of_ble_eq_true rfl) (xG_6 rfl) dX6_ask_10 (fun v2 H locs hv2 hP hS => ?_)
  have hI := XI_putN hI hv2 (by decide)
  refine lv_aload_n hE.1 hE.2.1 dX6_ask_13 rfl (lv_at hl 0 rfl) ?_
  refine lv_iload_n hE.1 hE.2.1 dX6_ask_14 rfl (lv_at hl 3 rfl) ?_
  refine x_put (x := iI (z_2)) hE hK hN hP hS 45 (Nat.lt_of_lt_of_le (by decide) hNN) (xG_6 rfl) rfl hin6 tyX6 tyX6_ok nmX6 6 (by decide) mw_392 rfl rfl rfl (Nat.le_of_ble_eq_true rfl) (xG_6 rfl) dX6_ask_15 (fun v3 H locs hv3 hP hS => ?_)
  have hI := XI_putN hI hv3 (by decide)
  refine lv_aload_n hE.1 hE.2.1 dX6_ask_18 rfl (lv_at hl 0 rfl) ?_
  refine lv_iload hE.1 hE.2.1 dX6_ask_19 (lv_at hl 4 rfl) ?_
  refine x_put (x := iI (z_3)) hE hK hN hP hS 45 (Nat.lt_of_lt_of_le (by decide) hNN) (xG_6 rfl) rfl hin6 tyX6 tyX6_ok nmX6 7 (by decide) mw_393 rfl rfl rfl (Nat.le_of_ble_eq_true rfl) (xG_6 rfl) dX6_ask_21 (fun v4 H locs hv4 hP hS => ?_)
  have hI := XI_putN hI hv4 (by decide)
  refine lv_aload_n hE.1 hE.2.1 dX6_ask_24 rfl (lv_at hl 0 rfl) ?_
  refine lv_dup hE.1 hE.2.1 dX6_ask_25 rfl ?_
  obtain ⟨z5, hz5, ez5⟩ := iI_of (v4 45 4)
  refine x_get (x := .int (v4 45 4)) hE hK hP 45 (Nat.lt_of_lt_of_le (by decide) hNN) (xG_6 rfl) rfl hin6 4 (by decide) mw_390 rfl dX6_ask_26 ?_
  refine x_top (y := iI (z5)) ez5 ?_
  refine lv_iconst (v := iI (1)) hE.1 hE.2.1 dX6_ask_29 (by decide) ?_
  refine lv_iadd hE.1 hE.2.1 dX6_ask_30 ?_
  obtain ⟨z6, hz6, ez6⟩ := iI_of (iI (z5) + iI (1))
  refine x_top ez6 ?_
  refine x_put (x := iI (z6)) hE hK hN hP hS 45 (Nat.lt_of_lt_of_le (by decide) hNN) (xG_6 rfl) rfl hin6 tyX6 tyX6_ok nmX6 4 (by decide) mw_390 rfl rfl rfl (Nat.le_of_ble_eq_true rfl) (xG_6 rfl) dX6_ask_31 (fun v7 H locs hv7 hP hS => ?_)
  have hI := XI_putN hI hv7 (by decide)
  refine lv_aload_n hE.1 hE.2.1 dX6_ask_34 rfl (lv_at hl 0 rfl) ?_
  refine lv_iconst (v := iI (0)) hE.1 hE.2.1 dX6_ask_35 (by decide) ?_
  refine x_vi (nn := 1) (As := [.int (iI (0))]) (rest := []) hE hK hN hP hS (s_X6_solve_45 l D K ad mm N hNN 10 v7 ar1 al1 hI (0) (by omega) (by omega)) (x_recv hK hP 45 (Nat.lt_of_lt_of_le (by decide) hNN) (xG_6 rfl) rfl) rfl mw_913 mw_915 mw_22 mw_119 mw_916 (by decide +kernel) ⟨by decide, by decide⟩ hl.1 rfl (Nat.le_of_ble_eq_true rfl) ⟨Nat.zero_le _, Nat.zero_le _⟩ dX6_ask_36 (fun r8 v8 ar8 al8 H locs hq8 hP hS => ?_)
  obtain ⟨⟨z8, hz8, rfl⟩, hI, hq8⟩ := hq8
  have hI : XI v8 := hI
  exact kr _ _ _ _ _ _ _ _ rfl ⟨⟨z8, by omega, rfl⟩, hI, fun i j h => ((hq8 i j (fun q => h (mem_sub (by decide) q))).trans ((up_oth hv7 (fun q => h (by rcases q with ⟨rfl, rfl⟩; decide))).trans ((up_oth hv4 (fun q => h (by rcases q with ⟨rfl, rfl⟩; decide))).trans ((up_oth hv3 (fun q => h (by rcases q with ⟨rfl, rfl⟩; decide))).trans ((up_oth hv2 (fun q => h (by rcases q with ⟨rfl, rfl⟩; decide))).trans (hq1 i j (fun q => h (mem_sub (by decide) q))))))))⟩ hP hS dX6_ask_39

theorem dX8_longest_0 : decode cX8_longest 0 = .ok (.aload_n 0, 1) := by decide +kernel
theorem dX8_longest_1 : decode cX8_longest 1 = .ok (.getfield 19, 3) := by decide +kernel
theorem dX8_longest_4 : decode cX8_longest 4 = .ok (.invokevirtual 157, 3) := by decide +kernel
theorem dX8_longest_7 : decode cX8_longest 7 = .ok (.ifCond .eq 20, 3) := by decide +kernel
theorem dX8_longest_10 : decode cX8_longest 10 = .ok (.aload_n 0, 1) := by decide +kernel
theorem dX8_longest_11 : decode cX8_longest 11 = .ok (.getfield 50, 3) := by decide +kernel
theorem dX8_longest_14 : decode cX8_longest 14 = .ok (.aload_n 0, 1) := by decide +kernel
theorem dX8_longest_15 : decode cX8_longest 15 = .ok (.getfield 31, 3) := by decide +kernel
theorem dX8_longest_18 : decode cX8_longest 18 = .ok (.iconst 0, 1) := by decide +kernel
theorem dX8_longest_19 : decode cX8_longest 19 = .ok (.iconst 0, 1) := by decide +kernel
theorem dX8_longest_20 : decode cX8_longest 20 = .ok (.iconst 0, 1) := by decide +kernel
theorem dX8_longest_21 : decode cX8_longest 21 = .ok (.invokevirtual 204, 3) := by decide +kernel
theorem dX8_longest_24 : decode cX8_longest 24 = .ok (.goto 5, 3) := by decide +kernel
theorem dX8_longest_27 : decode cX8_longest 27 = .ok (.bipush (-2), 2) := by decide +kernel
theorem dX8_longest_29 : decode cX8_longest 29 = .ok (.ireturn, 1) := by decide +kernel
set_option maxHeartbeats 4000000 in
set_option maxRecDepth 100000 in
theorem s_X8_longest_0 (l : Launch) (D : va_G) (K : Nat → ClassId) (ad : Nat → Nat) (mm : Option Nat) (N : Nat) (hNN : 132 ≤ N) (v ar : sI) (al : sL) (hI : XI v) : Met l yX8_longest (wM yX8_longest cX8_longest 1 (some .int)) (rmD 16) (va_Pc [.ref (ad 0)] (wPre D K ad (xG ad K mm) N v ar al)) (va_Qi (fun (r : Int32) (u : sT) => (∃ z : Int, (-2147483648 ≤ z ∧ z ≤ 2147483647) ∧ r = iI z) ∧ XI u.1 ∧ (∀ i j : Nat, (i, j) ∉ ([(45, 4), (45, 5), (45, 6), (45, 7), (48, 2), (48, 3), (48, 4), (48, 5), (48, 8), (48, 9)] : List (Nat × Nat)) → u.1 i j = v i j)) (wB D ad (xG ad K mm) N) (inW ad N)) 0 0 (inW ad N) := by
  refine s_metI (by decide) (Nat.le_of_ble_eq_true rfl) ?_
  intro p e s m below meth c ls args Q hE hB hl kr
  have hE : CallFix p m c cX8_longest 1 s args tbG "TaleCourt" := hE
  obtain ⟨hP, hK, hN⟩ := hB
  have hS : va_S (inW ad N) s.heap s.heap [] := va_S.rf
  have hl : lv_has ls 1 [(0, .ref (ad 0))] := hl
  refine lv_aload_n hE.1 hE.2.1 dX8_longest_0 rfl (lv_at hl 0 rfl) ?_
  refine x_get (x := .ref (ad 3)) hE hK hP 0 (Nat.lt_of_lt_of_le (by decide) hNN) (xG_8 rfl) rfl hin8 1 (by decide) mw_481 rfl dX8_longest_1 ?_
  refine x_vp (nn := 0) (As := []) (rest := []) hE (s_X1_stands_3 l D K ad mm N hNN v ar al hI  ) wPre_blind (wPre_now hK hN hP) (x_recv hK hP 3 (Nat.lt_of_lt_of_le (by decide) hNN) (xG_1 rfl) rfl) rfl mw_788 mw_789 mw_790 mw_116 mw_791 (by decide +kernel) ⟨by decide, by decide⟩ hl.1 rfl (Nat.le_of_ble_eq_true rfl) ⟨Nat.zero_le _, Nat.zero_le _⟩ dX8_longest_4 (fun r1 hr1 => ?_)
  obtain ⟨z1, hz1, rfl⟩ := hr1
  refine s_if_eq (a := z1) (tgt := 27) hE.1 hE.2.1 (by omega) dX8_longest_7 (by decide) (fun c2 => ?_) (fun c2 => ?_)
  · skip
    refine lv_bipush (v := iI (-2)) hE.1 hE.2.1 dX8_longest_27 (by decide) ?_
    exact kr _ _ _ _ _ _ _ _ rfl ⟨⟨-2, by omega, rfl⟩, hI, fun i j h => rfl⟩ hP hS dX8_longest_29
  · skip
    refine lv_aload_n hE.1 hE.2.1 dX8_longest_10 rfl (lv_at hl 0 rfl) ?_
    refine x_get (x := .ref (ad 45)) hE hK hP 0 (Nat.lt_of_lt_of_le (by decide) hNN) (xG_8 rfl) rfl hin8 6 (by decide) mw_486 rfl dX8_longest_11 ?_
    refine lv_aload_n hE.1 hE.2.1 dX8_longest_14 rfl (lv_at hl 0 rfl) ?_
    refine x_get (x := .ref (ad 23)) hE hK hP 0 (Nat.lt_of_lt_of_le (by decide) hNN) (xG_8 rfl) rfl hin8 3 (by decide) mw_483 rfl dX8_longest_15 ?_
    refine lv_iconst (v := iI (0)) hE.1 hE.2.1 dX8_longest_18 (by decide) ?_
    refine lv_iconst (v := iI (0)) hE.1 hE.2.1 dX8_longest_19 (by decide) ?_
    refine lv_iconst (v := iI (0)) hE.1 hE.2.1 dX8_longest_20 (by decide) ?_
    refine x_vi (nn := 4) (As := [.ref (ad 23), .int (iI (0)), .int (iI (0)), .int (iI (0))]) (rest := []) hE hK hN hP hS (s_X6_ask_45_23 l D K ad mm N hNN v ar al hI  (0) (by omega) (0) (by omega) (0) (by omega)) (x_recv hK hP 45 (Nat.lt_of_lt_of_le (by decide) hNN) (xG_6 rfl) rfl) rfl mw_904 mw_905 mw_906 mw_119 mw_907 (by decide +kernel) ⟨by decide, by decide⟩ hl.1 rfl (Nat.le_of_ble_eq_true rfl) ⟨Nat.zero_le _, Nat.zero_le _⟩ dX8_longest_21 (fun r3 v3 ar3 al3 H locs hq3 hP hS => ?_)
    obtain ⟨⟨z3, hz3, rfl⟩, hI, hq3⟩ := hq3
    have hI : XI v3 := hI
    refine lv_goto (tgt := 29) hE.1 hE.2.1 dX8_longest_24 (by decide) ?_
    exact kr _ _ _ _ _ _ _ _ rfl ⟨⟨z3, by omega, rfl⟩, hI, fun i j h => (hq3 i j (fun q => h (mem_sub (by decide) q)))⟩ hP hS dX8_longest_29

theorem dX8_full_0 : decode cX8_full 0 = .ok (.aload_n 0, 1) := by decide +kernel
theorem dX8_full_1 : decode cX8_full 1 = .ok (.getfield 19, 3) := by decide +kernel
theorem dX8_full_4 : decode cX8_full 4 = .ok (.invokevirtual 157, 3) := by decide +kernel
theorem dX8_full_7 : decode cX8_full 7 = .ok (.ifCond .eq 20, 3) := by decide +kernel
theorem dX8_full_10 : decode cX8_full 10 = .ok (.aload_n 0, 1) := by decide +kernel
theorem dX8_full_11 : decode cX8_full 11 = .ok (.getfield 50, 3) := by decide +kernel
theorem dX8_full_14 : decode cX8_full 14 = .ok (.aload_n 0, 1) := by decide +kernel
theorem dX8_full_15 : decode cX8_full 15 = .ok (.getfield 31, 3) := by decide +kernel
theorem dX8_full_18 : decode cX8_full 18 = .ok (.iconst 1, 1) := by decide +kernel
theorem dX8_full_19 : decode cX8_full 19 = .ok (.iconst 0, 1) := by decide +kernel
theorem dX8_full_20 : decode cX8_full 20 = .ok (.iconst 0, 1) := by decide +kernel
theorem dX8_full_21 : decode cX8_full 21 = .ok (.invokevirtual 204, 3) := by decide +kernel
theorem dX8_full_24 : decode cX8_full 24 = .ok (.goto 5, 3) := by decide +kernel
theorem dX8_full_27 : decode cX8_full 27 = .ok (.bipush (-2), 2) := by decide +kernel
theorem dX8_full_29 : decode cX8_full 29 = .ok (.ireturn, 1) := by decide +kernel
set_option maxHeartbeats 4000000 in
set_option maxRecDepth 100000 in
theorem s_X8_full_0 (l : Launch) (D : va_G) (K : Nat → ClassId) (ad : Nat → Nat) (mm : Option Nat) (N : Nat) (hNN : 132 ≤ N) (v ar : sI) (al : sL) (hI : XI v) : Met l yX8_full (wM yX8_full cX8_full 1 (some .int)) (rmD 16) (va_Pc [.ref (ad 0)] (wPre D K ad (xG ad K mm) N v ar al)) (va_Qi (fun (r : Int32) (u : sT) => (∃ z : Int, (-2147483648 ≤ z ∧ z ≤ 2147483647) ∧ r = iI z) ∧ XI u.1 ∧ (∀ i j : Nat, (i, j) ∉ ([(45, 4), (45, 5), (45, 6), (45, 7), (48, 2), (48, 3), (48, 4), (48, 5), (48, 8), (48, 9)] : List (Nat × Nat)) → u.1 i j = v i j)) (wB D ad (xG ad K mm) N) (inW ad N)) 0 0 (inW ad N) := by
  refine s_metI (by decide) (Nat.le_of_ble_eq_true rfl) ?_
  intro p e s m below meth c ls args Q hE hB hl kr
  have hE : CallFix p m c cX8_full 1 s args tbG "TaleCourt" := hE
  obtain ⟨hP, hK, hN⟩ := hB
  have hS : va_S (inW ad N) s.heap s.heap [] := va_S.rf
  have hl : lv_has ls 1 [(0, .ref (ad 0))] := hl
  refine lv_aload_n hE.1 hE.2.1 dX8_full_0 rfl (lv_at hl 0 rfl) ?_
  refine x_get (x := .ref (ad 3)) hE hK hP 0 (Nat.lt_of_lt_of_le (by decide) hNN) (xG_8 rfl) rfl hin8 1 (by decide) mw_481 rfl dX8_full_1 ?_
  refine x_vp (nn := 0) (As := []) (rest := []) hE (s_X1_stands_3 l D K ad mm N hNN v ar al hI  ) wPre_blind (wPre_now hK hN hP) (x_recv hK hP 3 (Nat.lt_of_lt_of_le (by decide) hNN) (xG_1 rfl) rfl) rfl mw_788 mw_789 mw_790 mw_116 mw_791 (by decide +kernel) ⟨by decide, by decide⟩ hl.1 rfl (Nat.le_of_ble_eq_true rfl) ⟨Nat.zero_le _, Nat.zero_le _⟩ dX8_full_4 (fun r1 hr1 => ?_)
  obtain ⟨z1, hz1, rfl⟩ := hr1
  refine s_if_eq (a := z1) (tgt := 27) hE.1 hE.2.1 (by omega) dX8_full_7 (by decide) (fun c2 => ?_) (fun c2 => ?_)
  · skip
    refine lv_bipush (v := iI (-2)) hE.1 hE.2.1 dX8_full_27 (by decide) ?_
    exact kr _ _ _ _ _ _ _ _ rfl ⟨⟨-2, by omega, rfl⟩, hI, fun i j h => rfl⟩ hP hS dX8_full_29
  · skip
    refine lv_aload_n hE.1 hE.2.1 dX8_full_10 rfl (lv_at hl 0 rfl) ?_
    refine x_get (x := .ref (ad 45)) hE hK hP 0 (Nat.lt_of_lt_of_le (by decide) hNN) (xG_8 rfl) rfl hin8 6 (by decide) mw_486 rfl dX8_full_11 ?_
    refine lv_aload_n hE.1 hE.2.1 dX8_full_14 rfl (lv_at hl 0 rfl) ?_
    refine x_get (x := .ref (ad 23)) hE hK hP 0 (Nat.lt_of_lt_of_le (by decide) hNN) (xG_8 rfl) rfl hin8 3 (by decide) mw_483 rfl dX8_full_15 ?_
    refine lv_iconst (v := iI (1)) hE.1 hE.2.1 dX8_full_18 (by decide) ?_
    refine lv_iconst (v := iI (0)) hE.1 hE.2.1 dX8_full_19 (by decide) ?_
    refine lv_iconst (v := iI (0)) hE.1 hE.2.1 dX8_full_20 (by decide) ?_
    refine x_vi (nn := 4) (As := [.ref (ad 23), .int (iI (1)), .int (iI (0)), .int (iI (0))]) (rest := []) hE hK hN hP hS (s_X6_ask_45_23 l D K ad mm N hNN v ar al hI  (1) (by omega) (0) (by omega) (0) (by omega)) (x_recv hK hP 45 (Nat.lt_of_lt_of_le (by decide) hNN) (xG_6 rfl) rfl) rfl mw_904 mw_905 mw_906 mw_119 mw_907 (by decide +kernel) ⟨by decide, by decide⟩ hl.1 rfl (Nat.le_of_ble_eq_true rfl) ⟨Nat.zero_le _, Nat.zero_le _⟩ dX8_full_21 (fun r3 v3 ar3 al3 H locs hq3 hP hS => ?_)
    obtain ⟨⟨z3, hz3, rfl⟩, hI, hq3⟩ := hq3
    have hI : XI v3 := hI
    refine lv_goto (tgt := 29) hE.1 hE.2.1 dX8_full_24 (by decide) ?_
    exact kr _ _ _ _ _ _ _ _ rfl ⟨⟨z3, by omega, rfl⟩, hI, fun i j h => (hq3 i j (fun q => h (mem_sub (by decide) q)))⟩ hP hS dX8_full_29

theorem dX6_firstWith_0 : decode cX6_firstWith 0 = .ok (.aload_n 0, 1) := by decide +kernel
theorem dX6_firstWith_1 : decode cX6_firstWith 1 = .ok (.invokevirtual 68, 3) := by decide +kernel
theorem dX6_firstWith_4 : decode cX6_firstWith 4 = .ok (.istore_n 3, 1) := by decide +kernel
theorem dX6_firstWith_5 : decode cX6_firstWith 5 = .ok (.iconst 0, 1) := by decide +kernel
theorem dX6_firstWith_6 : decode cX6_firstWith 6 = .ok (.istore 4, 2) := by decide +kernel
theorem dX6_firstWith_8 : decode cX6_firstWith 8 = .ok (.iload 4, 2) := by decide +kernel
theorem dX6_firstWith_10 : decode cX6_firstWith 10 = .ok (.bipush 9, 2) := by decide +kernel
theorem dX6_firstWith_12 : decode cX6_firstWith 12 = .ok (.if_icmp .ge 67, 3) := by decide +kernel
theorem dX6_firstWith_15 : decode cX6_firstWith 15 = .ok (.iload_n 3, 1) := by decide +kernel
theorem dX6_firstWith_16 : decode cX6_firstWith 16 = .ok (.iload 4, 2) := by decide +kernel
theorem dX6_firstWith_18 : decode cX6_firstWith 18 = .ok (.ishr, 1) := by decide +kernel
theorem dX6_firstWith_19 : decode cX6_firstWith 19 = .ok (.ifCond .eq 60, 3) := by decide +kernel
theorem dX6_firstWith_22 : decode cX6_firstWith 22 = .ok (.iload_n 3, 1) := by decide +kernel
theorem dX6_firstWith_23 : decode cX6_firstWith 23 = .ok (.iload 4, 2) := by decide +kernel
theorem dX6_firstWith_25 : decode cX6_firstWith 25 = .ok (.ishr, 1) := by decide +kernel
theorem dX6_firstWith_26 : decode cX6_firstWith 26 = .ok (.iconst 1, 1) := by decide +kernel
theorem dX6_firstWith_27 : decode cX6_firstWith 27 = .ok (.iand, 1) := by decide +kernel
theorem dX6_firstWith_28 : decode cX6_firstWith 28 = .ok (.ifCond .eq 45, 3) := by decide +kernel
theorem dX6_firstWith_31 : decode cX6_firstWith 31 = .ok (.aload_n 0, 1) := by decide +kernel
theorem dX6_firstWith_32 : decode cX6_firstWith 32 = .ok (.getfield 24, 3) := by decide +kernel
theorem dX6_firstWith_35 : decode cX6_firstWith 35 = .ok (.iload 4, 2) := by decide +kernel
theorem dX6_firstWith_37 : decode cX6_firstWith 37 = .ok (.invokevirtual 64, 3) := by decide +kernel
theorem dX6_firstWith_40 : decode cX6_firstWith 40 = .ok (.aload_n 0, 1) := by decide +kernel
theorem dX6_firstWith_41 : decode cX6_firstWith 41 = .ok (.iload_n 2, 1) := by decide +kernel
theorem dX6_firstWith_42 : decode cX6_firstWith 42 = .ok (.iconst 1, 1) := by decide +kernel
theorem dX6_firstWith_43 : decode cX6_firstWith 43 = .ok (.iadd, 1) := by decide +kernel
theorem dX6_firstWith_44 : decode cX6_firstWith 44 = .ok (.invokevirtual 49, 3) := by decide +kernel
theorem dX6_firstWith_47 : decode cX6_firstWith 47 = .ok (.iload_n 1, 1) := by decide +kernel
theorem dX6_firstWith_48 : decode cX6_firstWith 48 = .ok (.if_icmp .ne 7, 3) := by decide +kernel
theorem dX6_firstWith_51 : decode cX6_firstWith 51 = .ok (.iconst 1, 1) := by decide +kernel
theorem dX6_firstWith_52 : decode cX6_firstWith 52 = .ok (.goto 4, 3) := by decide +kernel
theorem dX6_firstWith_55 : decode cX6_firstWith 55 = .ok (.iconst 0, 1) := by decide +kernel
theorem dX6_firstWith_56 : decode cX6_firstWith 56 = .ok (.istore 5, 2) := by decide +kernel
theorem dX6_firstWith_58 : decode cX6_firstWith 58 = .ok (.aload_n 0, 1) := by decide +kernel
theorem dX6_firstWith_59 : decode cX6_firstWith 59 = .ok (.getfield 24, 3) := by decide +kernel
theorem dX6_firstWith_62 : decode cX6_firstWith 62 = .ok (.invokevirtual 72, 3) := by decide +kernel
theorem dX6_firstWith_65 : decode cX6_firstWith 65 = .ok (.iload 5, 2) := by decide +kernel
theorem dX6_firstWith_67 : decode cX6_firstWith 67 = .ok (.ifCond .eq 6, 3) := by decide +kernel
theorem dX6_firstWith_70 : decode cX6_firstWith 70 = .ok (.iload 4, 2) := by decide +kernel
theorem dX6_firstWith_72 : decode cX6_firstWith 72 = .ok (.ireturn, 1) := by decide +kernel
theorem dX6_firstWith_73 : decode cX6_firstWith 73 = .ok (.iinc 4 1, 3) := by decide +kernel
theorem dX6_firstWith_76 : decode cX6_firstWith 76 = .ok (.goto (-68), 3) := by decide +kernel
theorem dX6_firstWith_79 : decode cX6_firstWith 79 = .ok (.iconst (-1), 1) := by decide +kernel
theorem dX6_firstWith_80 : decode cX6_firstWith 80 = .ok (.ireturn, 1) := by decide +kernel
set_option maxHeartbeats 4000000 in
set_option maxRecDepth 100000 in
theorem s_X6_firstWith_45 (l : Launch) (D : va_G) (K : Nat → ClassId) (ad : Nat → Nat) (mm : Option Nat) (N : Nat) (hNN : 132 ≤ N) (v ar : sI) (al : sL) (hI : XI v) (z_1 : Int) (hz_1 : -2147483648 ≤ z_1 ∧ z_1 ≤ 2147483647) (z_2 : Int) (hz_2 : 0 ≤ z_2 ∧ z_2 ≤ 9) : Met l yX6_firstWith (wM yX6_firstWith cX6_firstWith 6 (some .int)) (rmD 15) (va_Pc [.ref (ad 45), .int (iI (z_1)), .int (iI (z_2))] (wPre D K ad (xG ad K mm) N v ar al)) (va_Qi (fun (r : Int32) (u : sT) => (∃ z : Int, (-2147483648 ≤ z ∧ z ≤ 2147483647) ∧ r = iI z) ∧ XI u.1 ∧ (∀ i j : Nat, (i, j) ∉ ([(48, 2), (48, 3), (48, 4), (48, 5), (48, 8), (48, 9)] : List (Nat × Nat)) → u.1 i j = v i j)) (wB D ad (xG ad K mm) N) (inW ad N)) 0 0 (inW ad N) := by
  refine s_metI (by decide) (Nat.le_of_ble_eq_true rfl) ?_
  intro p e s m below meth c ls args Q hE hB hl kr
  have hE : CallFix p m c cX6_firstWith 6 s args tbG "TaleCourt$Survey" := hE
  obtain ⟨hP, hK, hN⟩ := hB
  have hS : va_S (inW ad N) s.heap s.heap [] := va_S.rf
  have hl : lv_has ls 6 [(0, .ref (ad 45)), (1, .int (iI (z_1))), (2, .int (iI (z_2)))] := hl
  refine lv_aload_n hE.1 hE.2.1 dX6_firstWith_0 rfl (lv_at hl 0 rfl) ?_
  refine x_vp (nn := 0) (As := []) (rest := []) hE (s_X6_openNow_45 l D K ad mm N hNN v ar al hI  ) wPre_blind (wPre_now hK hN hP) (x_recv hK hP 45 (Nat.lt_of_lt_of_le (by decide) hNN) (xG_6 rfl) rfl) rfl mw_932 mw_934 mw_25 mw_119 mw_935 (by decide +kernel) ⟨by decide, by decide⟩ hl.1 rfl (Nat.le_of_ble_eq_true rfl) ⟨Nat.zero_le _, Nat.zero_le _⟩ dX6_firstWith_1 (fun r1 hr1 => ?_)
  obtain ⟨z1, hz1, rfl⟩ := hr1
  refine lv_istore_n (lv' := [(3, .int (iI (z1))), (0, .ref (ad 45)), (1, .int (iI (z_1))), (2, .int (iI (z_2)))]) hE.1 hE.2.1 dX6_firstWith_4 rfl hl (by decide) rfl (fun ls hl => ?_)
  refine lv_iconst (v := iI (0)) hE.1 hE.2.1 dX6_firstWith_5 (by decide) ?_
  refine lv_istore (lv' := [(4, .int (iI (0))), (3, .int (iI (z1))), (0, .ref (ad 45)), (1, .int (iI (z_1))), (2, .int (iI (z_2)))]) hE.1 hE.2.1 dX6_firstWith_6 hl (by decide) rfl (fun ls hl => ?_)
  have loop2 : ∀ (k2 : Nat) (y2_4 : Int) (vl2 arl2 : sI) (all2 : sL) (H : Heap) (locs : List Loc) (ls : Array Slot), (9 - y2_4).toNat = k2 → (0 ≤ y2_4 ∧ y2_4 ≤ 9) → XI vl2 → (∀ i j : Nat, (i, j) ∉ ([(48, 2), (48, 3), (48, 4), (48, 5), (48, 8), (48, 9)] : List (Nat × Nat)) → vl2 i j = v i j) → va_P D xcl (wW ad (xG ad K mm) N vl2 arl2 all2) H → va_S (inW ad N) s.heap H locs → lv_has ls 6 [(4, .int (iI (y2_4))), (3, .int (iI (z1))), (0, .ref (ad 45)), (1, .int (iI (z_1))), (2, .int (iI (z_2)))] → W p l e (rmD 15) s m args below meth c H locs 0 0 Q (F0 m 8 ls []) := by
    intro k2
    induction k2 using Nat.strongRecOn with
    | _ k2 ih2 =>
      intro y2_4 vl2 arl2 all2 H locs ls hk2 hb_y2_4 hI hfr2 hP hS hl
      refine lv_iload hE.1 hE.2.1 dX6_firstWith_8 (lv_at hl 0 rfl) ?_
      refine lv_bipush (v := iI (9)) hE.1 hE.2.1 dX6_firstWith_10 (by decide) ?_
      refine s_icmp_ge (a := y2_4) (b := 9) (tgt := 79) hE.1 hE.2.1 (by omega) (by omega) dX6_firstWith_12 (by decide) (fun c3 => ?_) (fun c3 => ?_)
      · skip
        refine lv_iconst (v := iI (-1)) hE.1 hE.2.1 dX6_firstWith_79 (by decide) ?_
        exact kr _ _ _ _ _ _ _ _ rfl ⟨⟨-1, by omega, rfl⟩, hI, fun i j h => (hfr2 i j (fun q => h (mem_sub (by decide) q)))⟩ hP hS dX6_firstWith_80
      · skip
        refine lv_iload_n hE.1 hE.2.1 dX6_firstWith_15 rfl (lv_at hl 1 rfl) ?_
        refine lv_iload hE.1 hE.2.1 dX6_firstWith_16 (lv_at hl 0 rfl) ?_
        refine lv_ishr hE.1 hE.2.1 dX6_firstWith_18 ?_
        obtain ⟨z4, hz4, ez4⟩ := iI_of (iI (z1) >>> (iI (y2_4) &&& 31))
        refine x_top ez4 ?_
        refine s_if_eq (a := z4) (tgt := 79) hE.1 hE.2.1 (by omega) dX6_firstWith_19 (by decide) (fun c5 => ?_) (fun c5 => ?_)
        · skip
          refine lv_iconst (v := iI (-1)) hE.1 hE.2.1 dX6_firstWith_79 (by decide) ?_
          exact kr _ _ _ _ _ _ _ _ rfl ⟨⟨-1, by omega, rfl⟩, hI, fun i j h => (hfr2 i j (fun q => h (mem_sub (by decide) q)))⟩ hP hS dX6_firstWith_80
        · skip
          refine lv_iload_n hE.1 hE.2.1 dX6_firstWith_22 rfl (lv_at hl 1 rfl) ?_
          refine lv_iload hE.1 hE.2.1 dX6_firstWith_23 (lv_at hl 0 rfl) ?_
          refine lv_ishr hE.1 hE.2.1 dX6_firstWith_25 ?_
          obtain ⟨z6, hz6, ez6⟩ := iI_of (iI (z1) >>> (iI (y2_4) &&& 31))
          refine x_top ez6 ?_
          refine lv_iconst (v := iI (1)) hE.1 hE.2.1 dX6_firstWith_26 (by decide) ?_
          refine lv_iand hE.1 hE.2.1 dX6_firstWith_27 ?_
          obtain ⟨z7, hz7, ez7⟩ := iI_and (iI (z6)) (iI (1)) 1 (by decide)
          refine x_top ez7 ?_
          refine s_if_eq (a := z7) (tgt := 73) hE.1 hE.2.1 (by omega) dX6_firstWith_28 (by decide) (fun c8 => ?_) (fun c8 => ?_)
          · skip
            refine lv_iinc (v := iI (y2_4 + 1)) (lv' := [(4, .int (iI (y2_4 + 1))), (3, .int (iI (z1))), (0, .ref (ad 45)), (1, .int (iI (z_1))), (2, .int (iI (z_2)))]) hE.1 hE.2.1 dX6_firstWith_73 hl (k := 0) rfl ((iI_add (y2_4) (1)).trans (congrArg iI (by omega))) (by decide) rfl (fun ls hl => ?_)
            refine lv_goto (tgt := 8) hE.1 hE.2.1 dX6_firstWith_76 (by decide) ?_
            exact ih2 _ (by omega) (y2_4 + 1) vl2 arl2 all2 _ _ _ rfl (by omega) hI (fun i j h => (hfr2 i j h)) hP hS (lv_sub hl [0, 1, 2, 3, 4] rfl)
          · skip
            refine lv_aload_n hE.1 hE.2.1 dX6_firstWith_31 rfl (lv_at hl 2 rfl) ?_
            refine x_get (x := .ref (ad 48)) hE hK hP 45 (Nat.lt_of_lt_of_le (by decide) hNN) (xG_6 rfl) rfl hin6 0 (by decide) mw_386 rfl dX6_firstWith_32 ?_
            refine lv_iload hE.1 hE.2.1 dX6_firstWith_35 (lv_at hl 0 rfl) ?_
            refine x_vv (nn := 1) (As := [.int (iI (y2_4))]) (rest := []) hE hK hN hP hS (s_X7_tell_48 l D K ad mm N hNN vl2 arl2 all2 hI  (y2_4) (by omega)) (x_recv hK hP 48 (Nat.lt_of_lt_of_le (by decide) hNN) (xG_7 rfl) rfl) rfl mw_945 mw_763 mw_764 mw_117 mw_765 (by decide +kernel) ⟨by decide, by decide⟩ hl.1 rfl (Nat.le_of_ble_eq_true rfl) ⟨Nat.zero_le _, Nat.zero_le _⟩ dX6_firstWith_37 (fun v9 ar9 al9 H locs hq9 hP hS => ?_)
            obtain ⟨hI, hq9⟩ := hq9
            have hI : XI v9 := hI
            refine lv_aload_n hE.1 hE.2.1 dX6_firstWith_40 rfl (lv_at hl 2 rfl) ?_
            refine lv_iload_n hE.1 hE.2.1 dX6_firstWith_41 rfl (lv_at hl 4 rfl) ?_
            refine lv_iconst (v := iI (1)) hE.1 hE.2.1 dX6_firstWith_42 (by decide) ?_
            refine lv_iadd hE.1 hE.2.1 dX6_firstWith_43 ?_
            refine x_top (y := iI (z_2 + 1)) ((iI_add (z_2) (1)).trans (congrArg iI (by omega))) ?_
            refine x_vi (nn := 1) (As := [.int (iI (z_2 + 1))]) (rest := []) hE hK hN hP hS (s_X6_solve_45 l D K ad mm N hNN 10 v9 ar9 al9 hI (z_2 + 1) (by omega) (by omega)) (x_recv hK hP 45 (Nat.lt_of_lt_of_le (by decide) hNN) (xG_6 rfl) rfl) rfl mw_913 mw_915 mw_22 mw_119 mw_916 (by decide +kernel) ⟨by decide, by decide⟩ hl.1 rfl (Nat.le_of_ble_eq_true rfl) ⟨Nat.zero_le _, Nat.zero_le _⟩ dX6_firstWith_44 (fun r10 v10 ar10 al10 H locs hq10 hP hS => ?_)
            obtain ⟨⟨z10, hz10, rfl⟩, hI, hq10⟩ := hq10
            have hI : XI v10 := hI
            refine lv_iload_n hE.1 hE.2.1 dX6_firstWith_47 rfl (lv_at hl 3 rfl) ?_
            refine s_icmp_ne (a := z10) (b := z_1) (tgt := 55) hE.1 hE.2.1 (by omega) (by omega) dX6_firstWith_48 (by decide) (fun c11 => ?_) (fun c11 => ?_)
            · skip
              refine lv_iconst (v := iI (0)) hE.1 hE.2.1 dX6_firstWith_55 (by decide) ?_
              refine lv_istore (lv' := [(5, .int (iI (0))), (4, .int (iI (y2_4))), (3, .int (iI (z1))), (0, .ref (ad 45)), (1, .int (iI (z_1))), (2, .int (iI (z_2)))]) hE.1 hE.2.1 dX6_firstWith_56 hl (by decide) rfl (fun ls hl => ?_)
              refine lv_aload_n hE.1 hE.2.1 dX6_firstWith_58 rfl (lv_at hl 3 rfl) ?_
              refine x_get (x := .ref (ad 48)) hE hK hP 45 (Nat.lt_of_lt_of_le (by decide) hNN) (xG_6 rfl) rfl hin6 0 (by decide) mw_386 rfl dX6_firstWith_59 ?_
              refine x_vv (nn := 0) (As := []) (rest := []) hE hK hN hP hS (s_X7_takeBack_48 l D K ad mm N hNN v10 ar10 al10 hI  ) (x_recv hK hP 48 (Nat.lt_of_lt_of_le (by decide) hNN) (xG_7 rfl) rfl) rfl mw_952 mw_813 mw_814 mw_117 mw_815 (by decide +kernel) ⟨by decide, by decide⟩ hl.1 rfl (Nat.le_of_ble_eq_true rfl) ⟨Nat.zero_le _, Nat.zero_le _⟩ dX6_firstWith_62 (fun v12 ar12 al12 H locs hq12 hP hS => ?_)
              obtain ⟨hI, hq12⟩ := hq12
              have hI : XI v12 := hI
              refine lv_iload hE.1 hE.2.1 dX6_firstWith_65 (lv_at hl 0 rfl) ?_
              refine s_if_eq (a := 0) (tgt := 73) hE.1 hE.2.1 (by omega) dX6_firstWith_67 (by decide) (fun _ => ?_) (fun c13 => False.elim (by omega))
              refine lv_iinc (v := iI (y2_4 + 1)) (lv' := [(4, .int (iI (y2_4 + 1))), (5, .int (iI (0))), (3, .int (iI (z1))), (0, .ref (ad 45)), (1, .int (iI (z_1))), (2, .int (iI (z_2)))]) hE.1 hE.2.1 dX6_firstWith_73 hl (k := 1) rfl ((iI_add (y2_4) (1)).trans (congrArg iI (by omega))) (by decide) rfl (fun ls hl => ?_)
              refine lv_goto (tgt := 8) hE.1 hE.2.1 dX6_firstWith_76 (by decide) ?_
              exact ih2 _ (by omega) (y2_4 + 1) v12 ar12 al12 _ _ _ rfl (by omega) hI (fun i j h => (((hq12 i j (fun q => h (mem_sub (by decide) q))).trans ((hq10 i j (fun q => h (mem_sub (by decide) q))).trans (hq9 i j (fun q => h (mem_sub (by decide) q))))).trans (hfr2 i j h))) hP hS (lv_sub hl [0, 2, 3, 4, 5] rfl)
            · skip
              refine lv_iconst (v := iI (1)) hE.1 hE.2.1 dX6_firstWith_51 (by decide) ?_
              refine lv_goto (tgt := 56) hE.1 hE.2.1 dX6_firstWith_52 (by decide) ?_
              refine lv_istore (lv' := [(5, .int (iI (1))), (4, .int (iI (y2_4))), (3, .int (iI (z1))), (0, .ref (ad 45)), (1, .int (iI (z_1))), (2, .int (iI (z_2)))]) hE.1 hE.2.1 dX6_firstWith_56 hl (by decide) rfl (fun ls hl => ?_)
              refine lv_aload_n hE.1 hE.2.1 dX6_firstWith_58 rfl (lv_at hl 3 rfl) ?_
              refine x_get (x := .ref (ad 48)) hE hK hP 45 (Nat.lt_of_lt_of_le (by decide) hNN) (xG_6 rfl) rfl hin6 0 (by decide) mw_386 rfl dX6_firstWith_59 ?_
              refine x_vv (nn := 0) (As := []) (rest := []) hE hK hN hP hS (s_X7_takeBack_48 l D K ad mm N hNN v10 ar10 al10 hI  ) (x_recv hK hP 48 (Nat.lt_of_lt_of_le (by decide) hNN) (xG_7 rfl) rfl) rfl mw_952 mw_813 mw_814 mw_117 mw_815 (by decide +kernel) ⟨by decide, by decide⟩ hl.1 rfl (Nat.le_of_ble_eq_true rfl) ⟨Nat.zero_le _, Nat.zero_le _⟩ dX6_firstWith_62 (fun v14 ar14 al14 H locs hq14 hP hS => ?_)
              obtain ⟨hI, hq14⟩ := hq14
              have hI : XI v14 := hI
              refine lv_iload hE.1 hE.2.1 dX6_firstWith_65 (lv_at hl 0 rfl) ?_
              refine s_if_eq (a := 1) (tgt := 73) hE.1 hE.2.1 (by omega) dX6_firstWith_67 (by decide) (fun c15 => False.elim (by omega)) (fun _ => ?_)
              refine lv_iload hE.1 hE.2.1 dX6_firstWith_70 (lv_at hl 1 rfl) ?_
              exact kr _ _ _ _ _ _ _ _ rfl ⟨⟨y2_4, by omega, rfl⟩, hI, fun i j h => ((hq14 i j (fun q => h (mem_sub (by decide) q))).trans ((hq10 i j (fun q => h (mem_sub (by decide) q))).trans ((hq9 i j (fun q => h (mem_sub (by decide) q))).trans (hfr2 i j (fun q => h (mem_sub (by decide) q))))))⟩ hP hS dX6_firstWith_72
  exact loop2 _ (0) v ar al _ _ _ rfl (by omega) hI (fun _ _ _ => rfl) hP hS hl

theorem dX6_askRow_0 : decode cX6_askRow 0 = .ok (.aload_n 0, 1) := by decide +kernel
theorem dX6_askRow_1 : decode cX6_askRow 1 = .ok (.aload_n 1, 1) := by decide +kernel
theorem dX6_askRow_2 : decode cX6_askRow 2 = .ok (.iload_n 2, 1) := by decide +kernel
theorem dX6_askRow_3 : decode cX6_askRow 3 = .ok (.iload_n 3, 1) := by decide +kernel
theorem dX6_askRow_4 : decode cX6_askRow 4 = .ok (.iconst 0, 1) := by decide +kernel
theorem dX6_askRow_5 : decode cX6_askRow 5 = .ok (.invokevirtual 53, 3) := by decide +kernel
theorem dX6_askRow_8 : decode cX6_askRow 8 = .ok (.istore 5, 2) := by decide +kernel
theorem dX6_askRow_10 : decode cX6_askRow 10 = .ok (.iload 5, 2) := by decide +kernel
theorem dX6_askRow_12 : decode cX6_askRow 12 = .ok (.ifCond .lt 8, 3) := by decide +kernel
theorem dX6_askRow_15 : decode cX6_askRow 15 = .ok (.iload 4, 2) := by decide +kernel
theorem dX6_askRow_17 : decode cX6_askRow 17 = .ok (.ifCond .ge 5, 3) := by decide +kernel
theorem dX6_askRow_20 : decode cX6_askRow 20 = .ok (.iconst (-1), 1) := by decide +kernel
theorem dX6_askRow_21 : decode cX6_askRow 21 = .ok (.ireturn, 1) := by decide +kernel
theorem dX6_askRow_22 : decode cX6_askRow 22 = .ok (.iconst (-1), 1) := by decide +kernel
theorem dX6_askRow_23 : decode cX6_askRow 23 = .ok (.istore 6, 2) := by decide +kernel
theorem dX6_askRow_25 : decode cX6_askRow 25 = .ok (.iconst 0, 1) := by decide +kernel
theorem dX6_askRow_26 : decode cX6_askRow 26 = .ok (.istore 7, 2) := by decide +kernel
theorem dX6_askRow_28 : decode cX6_askRow 28 = .ok (.iload 7, 2) := by decide +kernel
theorem dX6_askRow_30 : decode cX6_askRow 30 = .ok (.iload 4, 2) := by decide +kernel
theorem dX6_askRow_32 : decode cX6_askRow 32 = .ok (.if_icmp .gt 57, 3) := by decide +kernel
theorem dX6_askRow_35 : decode cX6_askRow 35 = .ok (.iload 7, 2) := by decide +kernel
theorem dX6_askRow_37 : decode cX6_askRow 37 = .ok (.bipush 9, 2) := by decide +kernel
theorem dX6_askRow_39 : decode cX6_askRow 39 = .ok (.if_icmp .gt 50, 3) := by decide +kernel
theorem dX6_askRow_42 : decode cX6_askRow 42 = .ok (.aload_n 0, 1) := by decide +kernel
theorem dX6_askRow_43 : decode cX6_askRow 43 = .ok (.iload 7, 2) := by decide +kernel
theorem dX6_askRow_45 : decode cX6_askRow 45 = .ok (.invokevirtual 57, 3) := by decide +kernel
theorem dX6_askRow_48 : decode cX6_askRow 48 = .ok (.iload 5, 2) := by decide +kernel
theorem dX6_askRow_50 : decode cX6_askRow 50 = .ok (.if_icmp .ne 7, 3) := by decide +kernel
theorem dX6_askRow_53 : decode cX6_askRow 53 = .ok (.iconst (-1), 1) := by decide +kernel
theorem dX6_askRow_54 : decode cX6_askRow 54 = .ok (.goto 11, 3) := by decide +kernel
theorem dX6_askRow_57 : decode cX6_askRow 57 = .ok (.aload_n 0, 1) := by decide +kernel
theorem dX6_askRow_58 : decode cX6_askRow 58 = .ok (.iload 5, 2) := by decide +kernel
theorem dX6_askRow_60 : decode cX6_askRow 60 = .ok (.iload 7, 2) := by decide +kernel
theorem dX6_askRow_62 : decode cX6_askRow 62 = .ok (.invokevirtual 60, 3) := by decide +kernel
theorem dX6_askRow_65 : decode cX6_askRow 65 = .ok (.istore 6, 2) := by decide +kernel
theorem dX6_askRow_67 : decode cX6_askRow 67 = .ok (.iload 6, 2) := by decide +kernel
theorem dX6_askRow_69 : decode cX6_askRow 69 = .ok (.ifCond .ge 5, 3) := by decide +kernel
theorem dX6_askRow_72 : decode cX6_askRow 72 = .ok (.iconst (-1), 1) := by decide +kernel
theorem dX6_askRow_73 : decode cX6_askRow 73 = .ok (.ireturn, 1) := by decide +kernel
theorem dX6_askRow_74 : decode cX6_askRow 74 = .ok (.aload_n 0, 1) := by decide +kernel
theorem dX6_askRow_75 : decode cX6_askRow 75 = .ok (.getfield 24, 3) := by decide +kernel
theorem dX6_askRow_78 : decode cX6_askRow 78 = .ok (.iload 6, 2) := by decide +kernel
theorem dX6_askRow_80 : decode cX6_askRow 80 = .ok (.invokevirtual 64, 3) := by decide +kernel
theorem dX6_askRow_83 : decode cX6_askRow 83 = .ok (.iinc 7 1, 3) := by decide +kernel
theorem dX6_askRow_86 : decode cX6_askRow 86 = .ok (.goto (-58), 3) := by decide +kernel
theorem dX6_askRow_89 : decode cX6_askRow 89 = .ok (.iload 6, 2) := by decide +kernel
theorem dX6_askRow_91 : decode cX6_askRow 91 = .ok (.ireturn, 1) := by decide +kernel
set_option maxHeartbeats 4000000 in
set_option maxRecDepth 100000 in
theorem s_X6_askRow_45_23 (l : Launch) (D : va_G) (K : Nat → ClassId) (ad : Nat → Nat) (mm : Option Nat) (N : Nat) (hNN : 132 ≤ N) (v ar : sI) (al : sL) (hI : XI v) (z_1 : Int) (hz_1 : -2147483648 ≤ z_1 ∧ z_1 ≤ 2147483647) (z_2 : Int) (hz_2 : -2147483648 ≤ z_2 ∧ z_2 ≤ 2147483647) (z_3 : Int) (hz_3 : -2147483648 ≤ z_3 ∧ z_3 ≤ 2147483647) : Met l yX6_askRow (wM yX6_askRow cX6_askRow 8 (some .int)) (rmD 16) (va_Pc [.ref (ad 45), .ref (ad 23), .int (iI (z_1)), .int (iI (z_2)), .int (iI (z_3))] (wPre D K ad (xG ad K mm) N v ar al)) (va_Qi (fun (r : Int32) (u : sT) => (∃ z : Int, (-2147483648 ≤ z ∧ z ≤ 2147483647) ∧ r = iI z) ∧ XI u.1 ∧ (∀ i j : Nat, (i, j) ∉ ([(45, 4), (45, 5), (45, 6), (45, 7), (48, 2), (48, 3), (48, 4), (48, 5), (48, 8), (48, 9)] : List (Nat × Nat)) → u.1 i j = v i j)) (wB D ad (xG ad K mm) N) (inW ad N)) 0 0 (inW ad N) := by
  refine s_metI (by decide) (Nat.le_of_ble_eq_true rfl) ?_
  intro p e s m below meth c ls args Q hE hB hl kr
  have hE : CallFix p m c cX6_askRow 8 s args tbG "TaleCourt$Survey" := hE
  obtain ⟨hP, hK, hN⟩ := hB
  have hS : va_S (inW ad N) s.heap s.heap [] := va_S.rf
  have hl : lv_has ls 8 [(0, .ref (ad 45)), (1, .ref (ad 23)), (2, .int (iI (z_1))), (3, .int (iI (z_2))), (4, .int (iI (z_3)))] := hl
  refine lv_aload_n hE.1 hE.2.1 dX6_askRow_0 rfl (lv_at hl 0 rfl) ?_
  refine lv_aload_n hE.1 hE.2.1 dX6_askRow_1 rfl (lv_at hl 1 rfl) ?_
  refine lv_iload_n hE.1 hE.2.1 dX6_askRow_2 rfl (lv_at hl 2 rfl) ?_
  refine lv_iload_n hE.1 hE.2.1 dX6_askRow_3 rfl (lv_at hl 3 rfl) ?_
  refine lv_iconst (v := iI (0)) hE.1 hE.2.1 dX6_askRow_4 (by decide) ?_
  refine x_vi (nn := 4) (As := [.ref (ad 23), .int (iI (z_1)), .int (iI (z_2)), .int (iI (0))]) (rest := []) hE hK hN hP hS (s_X6_ask_45_23 l D K ad mm N hNN v ar al hI  (z_1) (by omega) (z_2) (by omega) (0) (by omega)) (x_recv hK hP 45 (Nat.lt_of_lt_of_le (by decide) hNN) (xG_6 rfl) rfl) rfl mw_965 mw_905 mw_906 mw_119 mw_907 (by decide +kernel) ⟨by decide, by decide⟩ hl.1 rfl (Nat.le_of_ble_eq_true rfl) ⟨Nat.zero_le _, Nat.zero_le _⟩ dX6_askRow_5 (fun r1 v1 ar1 al1 H locs hq1 hP hS => ?_)
  obtain ⟨⟨z1, hz1, rfl⟩, hI, hq1⟩ := hq1
  have hI : XI v1 := hI
  refine lv_istore (lv' := [(5, .int (iI (z1))), (0, .ref (ad 45)), (1, .ref (ad 23)), (2, .int (iI (z_1))), (3, .int (iI (z_2))), (4, .int (iI (z_3)))]) hE.1 hE.2.1 dX6_askRow_8 hl (by decide) rfl (fun ls hl => ?_)
  refine lv_iload hE.1 hE.2.1 dX6_askRow_10 (lv_at hl 0 rfl) ?_
  refine s_if_lt (a := z1) (tgt := 20) hE.1 hE.2.1 (by omega) dX6_askRow_12 (by decide) (fun c2 => ?_) (fun c2 => ?_)
  · skip
    refine lv_iconst (v := iI (-1)) hE.1 hE.2.1 dX6_askRow_20 (by decide) ?_
    exact kr _ _ _ _ _ _ _ _ rfl ⟨⟨-1, by omega, rfl⟩, hI, fun i j h => (hq1 i j (fun q => h (mem_sub (by decide) q)))⟩ hP hS dX6_askRow_21
  · skip
    refine lv_iload hE.1 hE.2.1 dX6_askRow_15 (lv_at hl 5 rfl) ?_
    refine s_if_ge (a := z_3) (tgt := 22) hE.1 hE.2.1 (by omega) dX6_askRow_17 (by decide) (fun c3 => ?_) (fun c3 => ?_)
    · skip
      refine lv_iconst (v := iI (-1)) hE.1 hE.2.1 dX6_askRow_22 (by decide) ?_
      refine lv_istore (lv' := [(6, .int (iI (-1))), (5, .int (iI (z1))), (0, .ref (ad 45)), (1, .ref (ad 23)), (2, .int (iI (z_1))), (3, .int (iI (z_2))), (4, .int (iI (z_3)))]) hE.1 hE.2.1 dX6_askRow_23 hl (by decide) rfl (fun ls hl => ?_)
      refine lv_iconst (v := iI (0)) hE.1 hE.2.1 dX6_askRow_25 (by decide) ?_
      refine lv_istore (lv' := [(7, .int (iI (0))), (6, .int (iI (-1))), (5, .int (iI (z1))), (0, .ref (ad 45)), (1, .ref (ad 23)), (2, .int (iI (z_1))), (3, .int (iI (z_2))), (4, .int (iI (z_3)))]) hE.1 hE.2.1 dX6_askRow_26 hl (by decide) rfl (fun ls hl => ?_)
      have loop4 : ∀ (k4 : Nat) (y4_7 : Int) (y4_6 : Int) (vl4 arl4 : sI) (all4 : sL) (H : Heap) (locs : List Loc) (ls : Array Slot), (10 - y4_7).toNat = k4 → (0 ≤ y4_7 ∧ y4_7 ≤ 10) → (-2147483648 ≤ y4_6 ∧ y4_6 ≤ 2147483647) → XI vl4 → (∀ i j : Nat, (i, j) ∉ ([(48, 2), (48, 3), (48, 4), (48, 5), (48, 8), (48, 9)] : List (Nat × Nat)) → vl4 i j = v1 i j) → va_P D xcl (wW ad (xG ad K mm) N vl4 arl4 all4) H → va_S (inW ad N) s.heap H locs → lv_has ls 8 [(7, .int (iI (y4_7))), (6, .int (iI (y4_6))), (5, .int (iI (z1))), (0, .ref (ad 45)), (1, .ref (ad 23)), (2, .int (iI (z_1))), (3, .int (iI (z_2))), (4, .int (iI (z_3)))] → W p l e (rmD 16) s m args below meth c H locs 0 0 Q (F0 m 28 ls []) := by
        intro k4
        induction k4 using Nat.strongRecOn with
        | _ k4 ih4 =>
          intro y4_7 y4_6 vl4 arl4 all4 H locs ls hk4 hb_y4_7 hb_y4_6 hI hfr4 hP hS hl
          refine lv_iload hE.1 hE.2.1 dX6_askRow_28 (lv_at hl 0 rfl) ?_
          refine lv_iload hE.1 hE.2.1 dX6_askRow_30 (lv_at hl 7 rfl) ?_
          refine s_icmp_gt (a := y4_7) (b := z_3) (tgt := 89) hE.1 hE.2.1 (by omega) (by omega) dX6_askRow_32 (by decide) (fun c5 => ?_) (fun c5 => ?_)
          · skip
            refine lv_iload hE.1 hE.2.1 dX6_askRow_89 (lv_at hl 1 rfl) ?_
            exact kr _ _ _ _ _ _ _ _ rfl ⟨⟨y4_6, by omega, rfl⟩, hI, fun i j h => ((hfr4 i j (fun q => h (mem_sub (by decide) q))).trans (hq1 i j (fun q => h (mem_sub (by decide) q))))⟩ hP hS dX6_askRow_91
          · skip
            refine lv_iload hE.1 hE.2.1 dX6_askRow_35 (lv_at hl 0 rfl) ?_
            refine lv_bipush (v := iI (9)) hE.1 hE.2.1 dX6_askRow_37 (by decide) ?_
            refine s_icmp_gt (a := y4_7) (b := 9) (tgt := 89) hE.1 hE.2.1 (by omega) (by omega) dX6_askRow_39 (by decide) (fun c6 => ?_) (fun c6 => ?_)
            · skip
              refine lv_iload hE.1 hE.2.1 dX6_askRow_89 (lv_at hl 1 rfl) ?_
              exact kr _ _ _ _ _ _ _ _ rfl ⟨⟨y4_6, by omega, rfl⟩, hI, fun i j h => ((hfr4 i j (fun q => h (mem_sub (by decide) q))).trans (hq1 i j (fun q => h (mem_sub (by decide) q))))⟩ hP hS dX6_askRow_91
            · skip
              refine lv_aload_n hE.1 hE.2.1 dX6_askRow_42 rfl (lv_at hl 3 rfl) ?_
              refine lv_iload hE.1 hE.2.1 dX6_askRow_43 (lv_at hl 0 rfl) ?_
              refine x_vp (nn := 1) (As := [.int (iI (y4_7))]) (rest := []) hE (s_X6_own_45 l D K ad mm N hNN vl4 arl4 all4 hI  (y4_7) (by omega)) wPre_blind (wPre_now hK hN hP) (x_recv hK hP 45 (Nat.lt_of_lt_of_le (by decide) hNN) (xG_6 rfl) rfl) rfl mw_927 mw_929 mw_24 mw_119 mw_930 (by decide +kernel) ⟨by decide, by decide⟩ hl.1 rfl (Nat.le_of_ble_eq_true rfl) ⟨Nat.zero_le _, Nat.zero_le _⟩ dX6_askRow_45 (fun r7 hr7 => ?_)
              obtain ⟨z7, hz7, rfl⟩ := hr7
              refine lv_iload hE.1 hE.2.1 dX6_askRow_48 (lv_at hl 2 rfl) ?_
              refine s_icmp_ne (a := z7) (b := z1) (tgt := 57) hE.1 hE.2.1 (by omega) (by omega) dX6_askRow_50 (by decide) (fun c8 => ?_) (fun c8 => ?_)
              · skip
                refine lv_aload_n hE.1 hE.2.1 dX6_askRow_57 rfl (lv_at hl 3 rfl) ?_
                refine lv_iload hE.1 hE.2.1 dX6_askRow_58 (lv_at hl 2 rfl) ?_
                refine lv_iload hE.1 hE.2.1 dX6_askRow_60 (lv_at hl 0 rfl) ?_
                refine x_vi (nn := 2) (As := [.int (iI (z1)), .int (iI (y4_7))]) (rest := []) hE hK hN hP hS (s_X6_firstWith_45 l D K ad mm N hNN vl4 arl4 all4 hI  (z1) (by omega) (y4_7) (by omega)) (x_recv hK hP 45 (Nat.lt_of_lt_of_le (by decide) hNN) (xG_6 rfl) rfl) rfl mw_966 mw_968 mw_28 mw_119 mw_969 (by decide +kernel) ⟨by decide, by decide⟩ hl.1 rfl (Nat.le_of_ble_eq_true rfl) ⟨Nat.zero_le _, Nat.zero_le _⟩ dX6_askRow_62 (fun r9 v9 ar9 al9 H locs hq9 hP hS => ?_)
                obtain ⟨⟨z9, hz9, rfl⟩, hI, hq9⟩ := hq9
                have hI : XI v9 := hI
                refine lv_istore (lv' := [(6, .int (iI (z9))), (7, .int (iI (y4_7))), (5, .int (iI (z1))), (0, .ref (ad 45)), (1, .ref (ad 23)), (2, .int (iI (z_1))), (3, .int (iI (z_2))), (4, .int (iI (z_3)))]) hE.1 hE.2.1 dX6_askRow_65 hl (by decide) rfl (fun ls hl => ?_)
                refine lv_iload hE.1 hE.2.1 dX6_askRow_67 (lv_at hl 0 rfl) ?_
                refine s_if_ge (a := z9) (tgt := 74) hE.1 hE.2.1 (by omega) dX6_askRow_69 (by decide) (fun c10 => ?_) (fun c10 => ?_)
                · skip
                  refine lv_aload_n hE.1 hE.2.1 dX6_askRow_74 rfl (lv_at hl 3 rfl) ?_
                  refine x_get (x := .ref (ad 48)) hE hK hP 45 (Nat.lt_of_lt_of_le (by decide) hNN) (xG_6 rfl) rfl hin6 0 (by decide) mw_386 rfl dX6_askRow_75 ?_
                  refine lv_iload hE.1 hE.2.1 dX6_askRow_78 (lv_at hl 0 rfl) ?_
                  refine x_vv (nn := 1) (As := [.int (iI (z9))]) (rest := []) hE hK hN hP hS (s_X7_tell_48 l D K ad mm N hNN v9 ar9 al9 hI  (z9) (by omega)) (x_recv hK hP 48 (Nat.lt_of_lt_of_le (by decide) hNN) (xG_7 rfl) rfl) rfl mw_945 mw_763 mw_764 mw_117 mw_765 (by decide +kernel) ⟨by decide, by decide⟩ hl.1 rfl (Nat.le_of_ble_eq_true rfl) ⟨Nat.zero_le _, Nat.zero_le _⟩ dX6_askRow_80 (fun v11 ar11 al11 H locs hq11 hP hS => ?_)
                  obtain ⟨hI, hq11⟩ := hq11
                  have hI : XI v11 := hI
                  refine lv_iinc (v := iI (y4_7 + 1)) (lv' := [(7, .int (iI (y4_7 + 1))), (6, .int (iI (z9))), (5, .int (iI (z1))), (0, .ref (ad 45)), (1, .ref (ad 23)), (2, .int (iI (z_1))), (3, .int (iI (z_2))), (4, .int (iI (z_3)))]) hE.1 hE.2.1 dX6_askRow_83 hl (k := 1) rfl ((iI_add (y4_7) (1)).trans (congrArg iI (by omega))) (by decide) rfl (fun ls hl => ?_)
                  refine lv_goto (tgt := 28) hE.1 hE.2.1 dX6_askRow_86 (by decide) ?_
                  exact ih4 _ (by omega) (y4_7 + 1) (z9) v11 ar11 al11 _ _ _ rfl (by omega) (by omega) hI (fun i j h => (((hq11 i j (fun q => h (mem_sub (by decide) q))).trans (hq9 i j (fun q => h (mem_sub (by decide) q)))).trans (hfr4 i j h))) hP hS (lv_sub hl [0, 1, 2, 3, 4, 5, 6, 7] rfl)
                · skip
                  refine lv_iconst (v := iI (-1)) hE.1 hE.2.1 dX6_askRow_72 (by decide) ?_
                  exact kr _ _ _ _ _ _ _ _ rfl ⟨⟨-1, by omega, rfl⟩, hI, fun i j h => ((hq9 i j (fun q => h (mem_sub (by decide) q))).trans ((hfr4 i j (fun q => h (mem_sub (by decide) q))).trans (hq1 i j (fun q => h (mem_sub (by decide) q)))))⟩ hP hS dX6_askRow_73
              · skip
                refine lv_iconst (v := iI (-1)) hE.1 hE.2.1 dX6_askRow_53 (by decide) ?_
                refine lv_goto (tgt := 65) hE.1 hE.2.1 dX6_askRow_54 (by decide) ?_
                refine lv_istore (lv' := [(6, .int (iI (-1))), (7, .int (iI (y4_7))), (5, .int (iI (z1))), (0, .ref (ad 45)), (1, .ref (ad 23)), (2, .int (iI (z_1))), (3, .int (iI (z_2))), (4, .int (iI (z_3)))]) hE.1 hE.2.1 dX6_askRow_65 hl (by decide) rfl (fun ls hl => ?_)
                refine lv_iload hE.1 hE.2.1 dX6_askRow_67 (lv_at hl 0 rfl) ?_
                refine s_if_ge (a := -1) (tgt := 74) hE.1 hE.2.1 (by omega) dX6_askRow_69 (by decide) (fun c12 => False.elim (by omega)) (fun _ => ?_)
                refine lv_iconst (v := iI (-1)) hE.1 hE.2.1 dX6_askRow_72 (by decide) ?_
                exact kr _ _ _ _ _ _ _ _ rfl ⟨⟨-1, by omega, rfl⟩, hI, fun i j h => ((hfr4 i j (fun q => h (mem_sub (by decide) q))).trans (hq1 i j (fun q => h (mem_sub (by decide) q))))⟩ hP hS dX6_askRow_73
      exact loop4 _ (0) (-1) v1 ar1 al1 _ _ _ rfl (by omega) (by omega) hI (fun _ _ _ => rfl) hP hS hl
    · skip
      refine lv_iconst (v := iI (-1)) hE.1 hE.2.1 dX6_askRow_20 (by decide) ?_
      exact kr _ _ _ _ _ _ _ _ rfl ⟨⟨-1, by omega, rfl⟩, hI, fun i j h => (hq1 i j (fun q => h (mem_sub (by decide) q)))⟩ hP hS dX6_askRow_21

theorem dX8_line_0 : decode cX8_line 0 = .ok (.aload_n 0, 1) := by decide +kernel
theorem dX8_line_1 : decode cX8_line 1 = .ok (.getfield 19, 3) := by decide +kernel
theorem dX8_line_4 : decode cX8_line 4 = .ok (.invokevirtual 157, 3) := by decide +kernel
theorem dX8_line_7 : decode cX8_line 7 = .ok (.ifCond .eq 20, 3) := by decide +kernel
theorem dX8_line_10 : decode cX8_line 10 = .ok (.aload_n 0, 1) := by decide +kernel
theorem dX8_line_11 : decode cX8_line 11 = .ok (.getfield 50, 3) := by decide +kernel
theorem dX8_line_14 : decode cX8_line 14 = .ok (.aload_n 0, 1) := by decide +kernel
theorem dX8_line_15 : decode cX8_line 15 = .ok (.getfield 31, 3) := by decide +kernel
theorem dX8_line_18 : decode cX8_line 18 = .ok (.iconst 0, 1) := by decide +kernel
theorem dX8_line_19 : decode cX8_line 19 = .ok (.iconst 0, 1) := by decide +kernel
theorem dX8_line_20 : decode cX8_line 20 = .ok (.iload_n 1, 1) := by decide +kernel
theorem dX8_line_21 : decode cX8_line 21 = .ok (.invokevirtual 208, 3) := by decide +kernel
theorem dX8_line_24 : decode cX8_line 24 = .ok (.goto 5, 3) := by decide +kernel
theorem dX8_line_27 : decode cX8_line 27 = .ok (.bipush (-2), 2) := by decide +kernel
theorem dX8_line_29 : decode cX8_line 29 = .ok (.ireturn, 1) := by decide +kernel
set_option maxHeartbeats 4000000 in
set_option maxRecDepth 100000 in
theorem s_X8_line_0 (l : Launch) (D : va_G) (K : Nat → ClassId) (ad : Nat → Nat) (mm : Option Nat) (N : Nat) (hNN : 132 ≤ N) (v ar : sI) (al : sL) (hI : XI v) (z_1 : Int) (hz_1 : -2147483648 ≤ z_1 ∧ z_1 ≤ 2147483647) : Met l yX8_line (wM yX8_line cX8_line 2 (some .int)) (rmD 17) (va_Pc [.ref (ad 0), .int (iI (z_1))] (wPre D K ad (xG ad K mm) N v ar al)) (va_Qi (fun (r : Int32) (u : sT) => (∃ z : Int, (-2147483648 ≤ z ∧ z ≤ 2147483647) ∧ r = iI z) ∧ XI u.1 ∧ (∀ i j : Nat, (i, j) ∉ ([(45, 4), (45, 5), (45, 6), (45, 7), (48, 2), (48, 3), (48, 4), (48, 5), (48, 8), (48, 9)] : List (Nat × Nat)) → u.1 i j = v i j)) (wB D ad (xG ad K mm) N) (inW ad N)) 0 0 (inW ad N) := by
  refine s_metI (by decide) (Nat.le_of_ble_eq_true rfl) ?_
  intro p e s m below meth c ls args Q hE hB hl kr
  have hE : CallFix p m c cX8_line 2 s args tbG "TaleCourt" := hE
  obtain ⟨hP, hK, hN⟩ := hB
  have hS : va_S (inW ad N) s.heap s.heap [] := va_S.rf
  have hl : lv_has ls 2 [(0, .ref (ad 0)), (1, .int (iI (z_1)))] := hl
  refine lv_aload_n hE.1 hE.2.1 dX8_line_0 rfl (lv_at hl 0 rfl) ?_
  refine x_get (x := .ref (ad 3)) hE hK hP 0 (Nat.lt_of_lt_of_le (by decide) hNN) (xG_8 rfl) rfl hin8 1 (by decide) mw_481 rfl dX8_line_1 ?_
  refine x_vp (nn := 0) (As := []) (rest := []) hE (s_X1_stands_3 l D K ad mm N hNN v ar al hI  ) wPre_blind (wPre_now hK hN hP) (x_recv hK hP 3 (Nat.lt_of_lt_of_le (by decide) hNN) (xG_1 rfl) rfl) rfl mw_788 mw_789 mw_790 mw_116 mw_791 (by decide +kernel) ⟨by decide, by decide⟩ hl.1 rfl (Nat.le_of_ble_eq_true rfl) ⟨Nat.zero_le _, Nat.zero_le _⟩ dX8_line_4 (fun r1 hr1 => ?_)
  obtain ⟨z1, hz1, rfl⟩ := hr1
  refine s_if_eq (a := z1) (tgt := 27) hE.1 hE.2.1 (by omega) dX8_line_7 (by decide) (fun c2 => ?_) (fun c2 => ?_)
  · skip
    refine lv_bipush (v := iI (-2)) hE.1 hE.2.1 dX8_line_27 (by decide) ?_
    exact kr _ _ _ _ _ _ _ _ rfl ⟨⟨-2, by omega, rfl⟩, hI, fun i j h => rfl⟩ hP hS dX8_line_29
  · skip
    refine lv_aload_n hE.1 hE.2.1 dX8_line_10 rfl (lv_at hl 0 rfl) ?_
    refine x_get (x := .ref (ad 45)) hE hK hP 0 (Nat.lt_of_lt_of_le (by decide) hNN) (xG_8 rfl) rfl hin8 6 (by decide) mw_486 rfl dX8_line_11 ?_
    refine lv_aload_n hE.1 hE.2.1 dX8_line_14 rfl (lv_at hl 0 rfl) ?_
    refine x_get (x := .ref (ad 23)) hE hK hP 0 (Nat.lt_of_lt_of_le (by decide) hNN) (xG_8 rfl) rfl hin8 3 (by decide) mw_483 rfl dX8_line_15 ?_
    refine lv_iconst (v := iI (0)) hE.1 hE.2.1 dX8_line_18 (by decide) ?_
    refine lv_iconst (v := iI (0)) hE.1 hE.2.1 dX8_line_19 (by decide) ?_
    refine lv_iload_n hE.1 hE.2.1 dX8_line_20 rfl (lv_at hl 1 rfl) ?_
    refine x_vi (nn := 4) (As := [.ref (ad 23), .int (iI (0)), .int (iI (0)), .int (iI (z_1))]) (rest := []) hE hK hN hP hS (s_X6_askRow_45_23 l D K ad mm N hNN v ar al hI  (0) (by omega) (0) (by omega) (z_1) (by omega)) (x_recv hK hP 45 (Nat.lt_of_lt_of_le (by decide) hNN) (xG_6 rfl) rfl) rfl mw_961 mw_962 mw_963 mw_119 mw_964 (by decide +kernel) ⟨by decide, by decide⟩ hl.1 rfl (Nat.le_of_ble_eq_true rfl) ⟨Nat.zero_le _, Nat.zero_le _⟩ dX8_line_21 (fun r3 v3 ar3 al3 H locs hq3 hP hS => ?_)
    obtain ⟨⟨z3, hz3, rfl⟩, hI, hq3⟩ := hq3
    have hI : XI v3 := hI
    refine lv_goto (tgt := 29) hE.1 hE.2.1 dX8_line_24 (by decide) ?_
    exact kr _ _ _ _ _ _ _ _ rfl ⟨⟨z3, by omega, rfl⟩, hI, fun i j h => (hq3 i j (fun q => h (mem_sub (by decide) q)))⟩ hP hS dX8_line_29

theorem dX8_best_0 : decode cX8_best 0 = .ok (.aload_n 0, 1) := by decide +kernel
theorem dX8_best_1 : decode cX8_best 1 = .ok (.getfield 19, 3) := by decide +kernel
theorem dX8_best_4 : decode cX8_best 4 = .ok (.invokevirtual 157, 3) := by decide +kernel
theorem dX8_best_7 : decode cX8_best 7 = .ok (.ifCond .eq 20, 3) := by decide +kernel
theorem dX8_best_10 : decode cX8_best 10 = .ok (.aload_n 0, 1) := by decide +kernel
theorem dX8_best_11 : decode cX8_best 11 = .ok (.getfield 50, 3) := by decide +kernel
theorem dX8_best_14 : decode cX8_best 14 = .ok (.aload_n 0, 1) := by decide +kernel
theorem dX8_best_15 : decode cX8_best 15 = .ok (.getfield 31, 3) := by decide +kernel
theorem dX8_best_18 : decode cX8_best 18 = .ok (.iconst 2, 1) := by decide +kernel
theorem dX8_best_19 : decode cX8_best 19 = .ok (.iconst 0, 1) := by decide +kernel
theorem dX8_best_20 : decode cX8_best 20 = .ok (.iconst 0, 1) := by decide +kernel
theorem dX8_best_21 : decode cX8_best 21 = .ok (.invokevirtual 204, 3) := by decide +kernel
theorem dX8_best_24 : decode cX8_best 24 = .ok (.goto 5, 3) := by decide +kernel
theorem dX8_best_27 : decode cX8_best 27 = .ok (.bipush (-2), 2) := by decide +kernel
theorem dX8_best_29 : decode cX8_best 29 = .ok (.ireturn, 1) := by decide +kernel
set_option maxHeartbeats 4000000 in
set_option maxRecDepth 100000 in
theorem s_X8_best_0 (l : Launch) (D : va_G) (K : Nat → ClassId) (ad : Nat → Nat) (mm : Option Nat) (N : Nat) (hNN : 132 ≤ N) (v ar : sI) (al : sL) (hI : XI v) : Met l yX8_best (wM yX8_best cX8_best 1 (some .int)) (rmD 16) (va_Pc [.ref (ad 0)] (wPre D K ad (xG ad K mm) N v ar al)) (va_Qi (fun (r : Int32) (u : sT) => (∃ z : Int, (-2147483648 ≤ z ∧ z ≤ 2147483647) ∧ r = iI z) ∧ XI u.1 ∧ (∀ i j : Nat, (i, j) ∉ ([(45, 4), (45, 5), (45, 6), (45, 7), (48, 2), (48, 3), (48, 4), (48, 5), (48, 8), (48, 9)] : List (Nat × Nat)) → u.1 i j = v i j)) (wB D ad (xG ad K mm) N) (inW ad N)) 0 0 (inW ad N) := by
  refine s_metI (by decide) (Nat.le_of_ble_eq_true rfl) ?_
  intro p e s m below meth c ls args Q hE hB hl kr
  have hE : CallFix p m c cX8_best 1 s args tbG "TaleCourt" := hE
  obtain ⟨hP, hK, hN⟩ := hB
  have hS : va_S (inW ad N) s.heap s.heap [] := va_S.rf
  have hl : lv_has ls 1 [(0, .ref (ad 0))] := hl
  refine lv_aload_n hE.1 hE.2.1 dX8_best_0 rfl (lv_at hl 0 rfl) ?_
  refine x_get (x := .ref (ad 3)) hE hK hP 0 (Nat.lt_of_lt_of_le (by decide) hNN) (xG_8 rfl) rfl hin8 1 (by decide) mw_481 rfl dX8_best_1 ?_
  refine x_vp (nn := 0) (As := []) (rest := []) hE (s_X1_stands_3 l D K ad mm N hNN v ar al hI  ) wPre_blind (wPre_now hK hN hP) (x_recv hK hP 3 (Nat.lt_of_lt_of_le (by decide) hNN) (xG_1 rfl) rfl) rfl mw_788 mw_789 mw_790 mw_116 mw_791 (by decide +kernel) ⟨by decide, by decide⟩ hl.1 rfl (Nat.le_of_ble_eq_true rfl) ⟨Nat.zero_le _, Nat.zero_le _⟩ dX8_best_4 (fun r1 hr1 => ?_)
  obtain ⟨z1, hz1, rfl⟩ := hr1
  refine s_if_eq (a := z1) (tgt := 27) hE.1 hE.2.1 (by omega) dX8_best_7 (by decide) (fun c2 => ?_) (fun c2 => ?_)
  · skip
    refine lv_bipush (v := iI (-2)) hE.1 hE.2.1 dX8_best_27 (by decide) ?_
    exact kr _ _ _ _ _ _ _ _ rfl ⟨⟨-2, by omega, rfl⟩, hI, fun i j h => rfl⟩ hP hS dX8_best_29
  · skip
    refine lv_aload_n hE.1 hE.2.1 dX8_best_10 rfl (lv_at hl 0 rfl) ?_
    refine x_get (x := .ref (ad 45)) hE hK hP 0 (Nat.lt_of_lt_of_le (by decide) hNN) (xG_8 rfl) rfl hin8 6 (by decide) mw_486 rfl dX8_best_11 ?_
    refine lv_aload_n hE.1 hE.2.1 dX8_best_14 rfl (lv_at hl 0 rfl) ?_
    refine x_get (x := .ref (ad 23)) hE hK hP 0 (Nat.lt_of_lt_of_le (by decide) hNN) (xG_8 rfl) rfl hin8 3 (by decide) mw_483 rfl dX8_best_15 ?_
    refine lv_iconst (v := iI (2)) hE.1 hE.2.1 dX8_best_18 (by decide) ?_
    refine lv_iconst (v := iI (0)) hE.1 hE.2.1 dX8_best_19 (by decide) ?_
    refine lv_iconst (v := iI (0)) hE.1 hE.2.1 dX8_best_20 (by decide) ?_
    refine x_vi (nn := 4) (As := [.ref (ad 23), .int (iI (2)), .int (iI (0)), .int (iI (0))]) (rest := []) hE hK hN hP hS (s_X6_ask_45_23 l D K ad mm N hNN v ar al hI  (2) (by omega) (0) (by omega) (0) (by omega)) (x_recv hK hP 45 (Nat.lt_of_lt_of_le (by decide) hNN) (xG_6 rfl) rfl) rfl mw_904 mw_905 mw_906 mw_119 mw_907 (by decide +kernel) ⟨by decide, by decide⟩ hl.1 rfl (Nat.le_of_ble_eq_true rfl) ⟨Nat.zero_le _, Nat.zero_le _⟩ dX8_best_21 (fun r3 v3 ar3 al3 H locs hq3 hP hS => ?_)
    obtain ⟨⟨z3, hz3, rfl⟩, hI, hq3⟩ := hq3
    have hI : XI v3 := hI
    refine lv_goto (tgt := 29) hE.1 hE.2.1 dX8_best_24 (by decide) ?_
    exact kr _ _ _ _ _ _ _ _ rfl ⟨⟨z3, by omega, rfl⟩, hI, fun i j h => (hq3 i j (fun q => h (mem_sub (by decide) q)))⟩ hP hS dX8_best_29

theorem dX8_tale_0 : decode cX8_tale 0 = .ok (.aload_n 0, 1) := by decide +kernel
theorem dX8_tale_1 : decode cX8_tale 1 = .ok (.getfield 19, 3) := by decide +kernel
theorem dX8_tale_4 : decode cX8_tale 4 = .ok (.invokevirtual 157, 3) := by decide +kernel
theorem dX8_tale_7 : decode cX8_tale 7 = .ok (.ifCond .ne 6, 3) := by decide +kernel
theorem dX8_tale_10 : decode cX8_tale 10 = .ok (.bipush (-2), 2) := by decide +kernel
theorem dX8_tale_12 : decode cX8_tale 12 = .ok (.ireturn, 1) := by decide +kernel
theorem dX8_tale_13 : decode cX8_tale 13 = .ok (.aload_n 0, 1) := by decide +kernel
theorem dX8_tale_14 : decode cX8_tale 14 = .ok (.getfield 50, 3) := by decide +kernel
theorem dX8_tale_17 : decode cX8_tale 17 = .ok (.aload_n 0, 1) := by decide +kernel
theorem dX8_tale_18 : decode cX8_tale 18 = .ok (.getfield 31, 3) := by decide +kernel
theorem dX8_tale_21 : decode cX8_tale 21 = .ok (.iconst 2, 1) := by decide +kernel
theorem dX8_tale_22 : decode cX8_tale 22 = .ok (.iconst 0, 1) := by decide +kernel
theorem dX8_tale_23 : decode cX8_tale 23 = .ok (.iconst 0, 1) := by decide +kernel
theorem dX8_tale_24 : decode cX8_tale 24 = .ok (.invokevirtual 204, 3) := by decide +kernel
theorem dX8_tale_27 : decode cX8_tale 27 = .ok (.istore_n 2, 1) := by decide +kernel
theorem dX8_tale_28 : decode cX8_tale 28 = .ok (.iload_n 2, 1) := by decide +kernel
theorem dX8_tale_29 : decode cX8_tale 29 = .ok (.ifCond .ge 7, 3) := by decide +kernel
theorem dX8_tale_32 : decode cX8_tale 32 = .ok (.iconst (-1), 1) := by decide +kernel
theorem dX8_tale_33 : decode cX8_tale 33 = .ok (.goto 17, 3) := by decide +kernel
theorem dX8_tale_36 : decode cX8_tale 36 = .ok (.aload_n 0, 1) := by decide +kernel
theorem dX8_tale_37 : decode cX8_tale 37 = .ok (.getfield 50, 3) := by decide +kernel
theorem dX8_tale_40 : decode cX8_tale 40 = .ok (.aload_n 0, 1) := by decide +kernel
theorem dX8_tale_41 : decode cX8_tale 41 = .ok (.getfield 31, 3) := by decide +kernel
theorem dX8_tale_44 : decode cX8_tale 44 = .ok (.iconst 3, 1) := by decide +kernel
theorem dX8_tale_45 : decode cX8_tale 45 = .ok (.iload_n 2, 1) := by decide +kernel
theorem dX8_tale_46 : decode cX8_tale 46 = .ok (.iload_n 1, 1) := by decide +kernel
theorem dX8_tale_47 : decode cX8_tale 47 = .ok (.invokevirtual 208, 3) := by decide +kernel
theorem dX8_tale_50 : decode cX8_tale 50 = .ok (.ireturn, 1) := by decide +kernel
set_option maxHeartbeats 4000000 in
set_option maxRecDepth 100000 in
theorem s_X8_tale_0 (l : Launch) (D : va_G) (K : Nat → ClassId) (ad : Nat → Nat) (mm : Option Nat) (N : Nat) (hNN : 132 ≤ N) (v ar : sI) (al : sL) (hI : XI v) (z_1 : Int) (hz_1 : -2147483648 ≤ z_1 ∧ z_1 ≤ 2147483647) : Met l yX8_tale (wM yX8_tale cX8_tale 3 (some .int)) (rmD 17) (va_Pc [.ref (ad 0), .int (iI (z_1))] (wPre D K ad (xG ad K mm) N v ar al)) (va_Qi (fun (r : Int32) (u : sT) => (∃ z : Int, (-2147483648 ≤ z ∧ z ≤ 2147483647) ∧ r = iI z) ∧ XI u.1 ∧ (∀ i j : Nat, (i, j) ∉ ([(45, 4), (45, 5), (45, 6), (45, 7), (48, 2), (48, 3), (48, 4), (48, 5), (48, 8), (48, 9)] : List (Nat × Nat)) → u.1 i j = v i j)) (wB D ad (xG ad K mm) N) (inW ad N)) 0 0 (inW ad N) := by
  refine s_metI (by decide) (Nat.le_of_ble_eq_true rfl) ?_
  intro p e s m below meth c ls args Q hE hB hl kr
  have hE : CallFix p m c cX8_tale 3 s args tbG "TaleCourt" := hE
  obtain ⟨hP, hK, hN⟩ := hB
  have hS : va_S (inW ad N) s.heap s.heap [] := va_S.rf
  have hl : lv_has ls 3 [(0, .ref (ad 0)), (1, .int (iI (z_1)))] := hl
  refine lv_aload_n hE.1 hE.2.1 dX8_tale_0 rfl (lv_at hl 0 rfl) ?_
  refine x_get (x := .ref (ad 3)) hE hK hP 0 (Nat.lt_of_lt_of_le (by decide) hNN) (xG_8 rfl) rfl hin8 1 (by decide) mw_481 rfl dX8_tale_1 ?_
  refine x_vp (nn := 0) (As := []) (rest := []) hE (s_X1_stands_3 l D K ad mm N hNN v ar al hI  ) wPre_blind (wPre_now hK hN hP) (x_recv hK hP 3 (Nat.lt_of_lt_of_le (by decide) hNN) (xG_1 rfl) rfl) rfl mw_788 mw_789 mw_790 mw_116 mw_791 (by decide +kernel) ⟨by decide, by decide⟩ hl.1 rfl (Nat.le_of_ble_eq_true rfl) ⟨Nat.zero_le _, Nat.zero_le _⟩ dX8_tale_4 (fun r1 hr1 => ?_)
  obtain ⟨z1, hz1, rfl⟩ := hr1
  refine s_if_ne (a := z1) (tgt := 13) hE.1 hE.2.1 (by omega) dX8_tale_7 (by decide) (fun c2 => ?_) (fun c2 => ?_)
  · skip
    refine lv_aload_n hE.1 hE.2.1 dX8_tale_13 rfl (lv_at hl 0 rfl) ?_
    refine x_get (x := .ref (ad 45)) hE hK hP 0 (Nat.lt_of_lt_of_le (by decide) hNN) (xG_8 rfl) rfl hin8 6 (by decide) mw_486 rfl dX8_tale_14 ?_
    refine lv_aload_n hE.1 hE.2.1 dX8_tale_17 rfl (lv_at hl 0 rfl) ?_
    refine x_get (x := .ref (ad 23)) hE hK hP 0 (Nat.lt_of_lt_of_le (by decide) hNN) (xG_8 rfl) rfl hin8 3 (by decide) mw_483 rfl dX8_tale_18 ?_
    refine lv_iconst (v := iI (2)) hE.1 hE.2.1 dX8_tale_21 (by decide) ?_
    refine lv_iconst (v := iI (0)) hE.1 hE.2.1 dX8_tale_22 (by decide) ?_
    refine lv_iconst (v := iI (0)) hE.1 hE.2.1 dX8_tale_23 (by decide) ?_
    refine x_vi (nn := 4) (As := [.ref (ad 23), .int (iI (2)), .int (iI (0)), .int (iI (0))]) (rest := []) hE hK hN hP hS (s_X6_ask_45_23 l D K ad mm N hNN v ar al hI  (2) (by omega) (0) (by omega) (0) (by omega)) (x_recv hK hP 45 (Nat.lt_of_lt_of_le (by decide) hNN) (xG_6 rfl) rfl) rfl mw_904 mw_905 mw_906 mw_119 mw_907 (by decide +kernel) ⟨by decide, by decide⟩ hl.1 rfl (Nat.le_of_ble_eq_true rfl) ⟨Nat.zero_le _, Nat.zero_le _⟩ dX8_tale_24 (fun r3 v3 ar3 al3 H locs hq3 hP hS => ?_)
    obtain ⟨⟨z3, hz3, rfl⟩, hI, hq3⟩ := hq3
    have hI : XI v3 := hI
    refine lv_istore_n (lv' := [(2, .int (iI (z3))), (0, .ref (ad 0)), (1, .int (iI (z_1)))]) hE.1 hE.2.1 dX8_tale_27 rfl hl (by decide) rfl (fun ls hl => ?_)
    refine lv_iload_n hE.1 hE.2.1 dX8_tale_28 rfl (lv_at hl 0 rfl) ?_
    refine s_if_ge (a := z3) (tgt := 36) hE.1 hE.2.1 (by omega) dX8_tale_29 (by decide) (fun c4 => ?_) (fun c4 => ?_)
    · skip
      refine lv_aload_n hE.1 hE.2.1 dX8_tale_36 rfl (lv_at hl 1 rfl) ?_
      refine x_get (x := .ref (ad 45)) hE hK hP 0 (Nat.lt_of_lt_of_le (by decide) hNN) (xG_8 rfl) rfl hin8 6 (by decide) mw_486 rfl dX8_tale_37 ?_
      refine lv_aload_n hE.1 hE.2.1 dX8_tale_40 rfl (lv_at hl 1 rfl) ?_
      refine x_get (x := .ref (ad 23)) hE hK hP 0 (Nat.lt_of_lt_of_le (by decide) hNN) (xG_8 rfl) rfl hin8 3 (by decide) mw_483 rfl dX8_tale_41 ?_
      refine lv_iconst (v := iI (3)) hE.1 hE.2.1 dX8_tale_44 (by decide) ?_
      refine lv_iload_n hE.1 hE.2.1 dX8_tale_45 rfl (lv_at hl 0 rfl) ?_
      refine lv_iload_n hE.1 hE.2.1 dX8_tale_46 rfl (lv_at hl 2 rfl) ?_
      refine x_vi (nn := 4) (As := [.ref (ad 23), .int (iI (3)), .int (iI (z3)), .int (iI (z_1))]) (rest := []) hE hK hN hP hS (s_X6_askRow_45_23 l D K ad mm N hNN v3 ar3 al3 hI  (3) (by omega) (z3) (by omega) (z_1) (by omega)) (x_recv hK hP 45 (Nat.lt_of_lt_of_le (by decide) hNN) (xG_6 rfl) rfl) rfl mw_961 mw_962 mw_963 mw_119 mw_964 (by decide +kernel) ⟨by decide, by decide⟩ hl.1 rfl (Nat.le_of_ble_eq_true rfl) ⟨Nat.zero_le _, Nat.zero_le _⟩ dX8_tale_47 (fun r5 v5 ar5 al5 H locs hq5 hP hS => ?_)
      obtain ⟨⟨z5, hz5, rfl⟩, hI, hq5⟩ := hq5
      have hI : XI v5 := hI
      exact kr _ _ _ _ _ _ _ _ rfl ⟨⟨z5, by omega, rfl⟩, hI, fun i j h => ((hq5 i j (fun q => h (mem_sub (by decide) q))).trans (hq3 i j (fun q => h (mem_sub (by decide) q))))⟩ hP hS dX8_tale_50
    · skip
      refine lv_iconst (v := iI (-1)) hE.1 hE.2.1 dX8_tale_32 (by decide) ?_
      refine lv_goto (tgt := 50) hE.1 hE.2.1 dX8_tale_33 (by decide) ?_
      exact kr _ _ _ _ _ _ _ _ rfl ⟨⟨-1, by omega, rfl⟩, hI, fun i j h => (hq3 i j (fun q => h (mem_sub (by decide) q)))⟩ hP hS dX8_tale_50
  · skip
    refine lv_bipush (v := iI (-2)) hE.1 hE.2.1 dX8_tale_10 (by decide) ?_
    exact kr _ _ _ _ _ _ _ _ rfl ⟨⟨-2, by omega, rfl⟩, hI, fun i j h => rfl⟩ hP hS dX8_tale_12

theorem dX8_roof_0 : decode cX8_roof 0 = .ok (.aload_n 0, 1) := by decide +kernel
theorem dX8_roof_1 : decode cX8_roof 1 = .ok (.getfield 19, 3) := by decide +kernel
theorem dX8_roof_4 : decode cX8_roof 4 = .ok (.invokevirtual 157, 3) := by decide +kernel
theorem dX8_roof_7 : decode cX8_roof 7 = .ok (.ifCond .eq 24, 3) := by decide +kernel
theorem dX8_roof_10 : decode cX8_roof 10 = .ok (.iload_n 1, 1) := by decide +kernel
theorem dX8_roof_11 : decode cX8_roof 11 = .ok (.ifCond .lt 20, 3) := by decide +kernel
theorem dX8_roof_14 : decode cX8_roof 14 = .ok (.aload_n 0, 1) := by decide +kernel
theorem dX8_roof_15 : decode cX8_roof 15 = .ok (.getfield 50, 3) := by decide +kernel
theorem dX8_roof_18 : decode cX8_roof 18 = .ok (.aload_n 0, 1) := by decide +kernel
theorem dX8_roof_19 : decode cX8_roof 19 = .ok (.getfield 31, 3) := by decide +kernel
theorem dX8_roof_22 : decode cX8_roof 22 = .ok (.iconst 3, 1) := by decide +kernel
theorem dX8_roof_23 : decode cX8_roof 23 = .ok (.iload_n 1, 1) := by decide +kernel
theorem dX8_roof_24 : decode cX8_roof 24 = .ok (.iconst 0, 1) := by decide +kernel
theorem dX8_roof_25 : decode cX8_roof 25 = .ok (.invokevirtual 204, 3) := by decide +kernel
theorem dX8_roof_28 : decode cX8_roof 28 = .ok (.goto 5, 3) := by decide +kernel
theorem dX8_roof_31 : decode cX8_roof 31 = .ok (.bipush (-2), 2) := by decide +kernel
theorem dX8_roof_33 : decode cX8_roof 33 = .ok (.ireturn, 1) := by decide +kernel
set_option maxHeartbeats 4000000 in
set_option maxRecDepth 100000 in
theorem s_X8_roof_0 (l : Launch) (D : va_G) (K : Nat → ClassId) (ad : Nat → Nat) (mm : Option Nat) (N : Nat) (hNN : 132 ≤ N) (v ar : sI) (al : sL) (hI : XI v) (z_1 : Int) (hz_1 : -2147483648 ≤ z_1 ∧ z_1 ≤ 2147483647) : Met l yX8_roof (wM yX8_roof cX8_roof 2 (some .int)) (rmD 16) (va_Pc [.ref (ad 0), .int (iI (z_1))] (wPre D K ad (xG ad K mm) N v ar al)) (va_Qi (fun (r : Int32) (u : sT) => (∃ z : Int, (-2147483648 ≤ z ∧ z ≤ 2147483647) ∧ r = iI z) ∧ XI u.1 ∧ (∀ i j : Nat, (i, j) ∉ ([(45, 4), (45, 5), (45, 6), (45, 7), (48, 2), (48, 3), (48, 4), (48, 5), (48, 8), (48, 9)] : List (Nat × Nat)) → u.1 i j = v i j)) (wB D ad (xG ad K mm) N) (inW ad N)) 0 0 (inW ad N) := by
  refine s_metI (by decide) (Nat.le_of_ble_eq_true rfl) ?_
  intro p e s m below meth c ls args Q hE hB hl kr
  have hE : CallFix p m c cX8_roof 2 s args tbG "TaleCourt" := hE
  obtain ⟨hP, hK, hN⟩ := hB
  have hS : va_S (inW ad N) s.heap s.heap [] := va_S.rf
  have hl : lv_has ls 2 [(0, .ref (ad 0)), (1, .int (iI (z_1)))] := hl
  refine lv_aload_n hE.1 hE.2.1 dX8_roof_0 rfl (lv_at hl 0 rfl) ?_
  refine x_get (x := .ref (ad 3)) hE hK hP 0 (Nat.lt_of_lt_of_le (by decide) hNN) (xG_8 rfl) rfl hin8 1 (by decide) mw_481 rfl dX8_roof_1 ?_
  refine x_vp (nn := 0) (As := []) (rest := []) hE (s_X1_stands_3 l D K ad mm N hNN v ar al hI  ) wPre_blind (wPre_now hK hN hP) (x_recv hK hP 3 (Nat.lt_of_lt_of_le (by decide) hNN) (xG_1 rfl) rfl) rfl mw_788 mw_789 mw_790 mw_116 mw_791 (by decide +kernel) ⟨by decide, by decide⟩ hl.1 rfl (Nat.le_of_ble_eq_true rfl) ⟨Nat.zero_le _, Nat.zero_le _⟩ dX8_roof_4 (fun r1 hr1 => ?_)
  obtain ⟨z1, hz1, rfl⟩ := hr1
  refine s_if_eq (a := z1) (tgt := 31) hE.1 hE.2.1 (by omega) dX8_roof_7 (by decide) (fun c2 => ?_) (fun c2 => ?_)
  · skip
    refine lv_bipush (v := iI (-2)) hE.1 hE.2.1 dX8_roof_31 (by decide) ?_
    exact kr _ _ _ _ _ _ _ _ rfl ⟨⟨-2, by omega, rfl⟩, hI, fun i j h => rfl⟩ hP hS dX8_roof_33
  · skip
    refine lv_iload_n hE.1 hE.2.1 dX8_roof_10 rfl (lv_at hl 1 rfl) ?_
    refine s_if_lt (a := z_1) (tgt := 31) hE.1 hE.2.1 (by omega) dX8_roof_11 (by decide) (fun c3 => ?_) (fun c3 => ?_)
    · skip
      refine lv_bipush (v := iI (-2)) hE.1 hE.2.1 dX8_roof_31 (by decide) ?_
      exact kr _ _ _ _ _ _ _ _ rfl ⟨⟨-2, by omega, rfl⟩, hI, fun i j h => rfl⟩ hP hS dX8_roof_33
    · skip
      refine lv_aload_n hE.1 hE.2.1 dX8_roof_14 rfl (lv_at hl 0 rfl) ?_
      refine x_get (x := .ref (ad 45)) hE hK hP 0 (Nat.lt_of_lt_of_le (by decide) hNN) (xG_8 rfl) rfl hin8 6 (by decide) mw_486 rfl dX8_roof_15 ?_
      refine lv_aload_n hE.1 hE.2.1 dX8_roof_18 rfl (lv_at hl 0 rfl) ?_
      refine x_get (x := .ref (ad 23)) hE hK hP 0 (Nat.lt_of_lt_of_le (by decide) hNN) (xG_8 rfl) rfl hin8 3 (by decide) mw_483 rfl dX8_roof_19 ?_
      refine lv_iconst (v := iI (3)) hE.1 hE.2.1 dX8_roof_22 (by decide) ?_
      refine lv_iload_n hE.1 hE.2.1 dX8_roof_23 rfl (lv_at hl 1 rfl) ?_
      refine lv_iconst (v := iI (0)) hE.1 hE.2.1 dX8_roof_24 (by decide) ?_
      refine x_vi (nn := 4) (As := [.ref (ad 23), .int (iI (3)), .int (iI (z_1)), .int (iI (0))]) (rest := []) hE hK hN hP hS (s_X6_ask_45_23 l D K ad mm N hNN v ar al hI  (3) (by omega) (z_1) (by omega) (0) (by omega)) (x_recv hK hP 45 (Nat.lt_of_lt_of_le (by decide) hNN) (xG_6 rfl) rfl) rfl mw_904 mw_905 mw_906 mw_119 mw_907 (by decide +kernel) ⟨by decide, by decide⟩ hl.1 rfl (Nat.le_of_ble_eq_true rfl) ⟨Nat.zero_le _, Nat.zero_le _⟩ dX8_roof_25 (fun r4 v4 ar4 al4 H locs hq4 hP hS => ?_)
      obtain ⟨⟨z4, hz4, rfl⟩, hI, hq4⟩ := hq4
      have hI : XI v4 := hI
      refine lv_goto (tgt := 33) hE.1 hE.2.1 dX8_roof_28 (by decide) ?_
      exact kr _ _ _ _ _ _ _ _ rfl ⟨⟨z4, by omega, rfl⟩, hI, fun i j h => (hq4 i j (fun q => h (mem_sub (by decide) q)))⟩ hP hS dX8_roof_33

theorem dX8_beam_0 : decode cX8_beam 0 = .ok (.aload_n 0, 1) := by decide +kernel
theorem dX8_beam_1 : decode cX8_beam 1 = .ok (.getfield 19, 3) := by decide +kernel
theorem dX8_beam_4 : decode cX8_beam 4 = .ok (.invokevirtual 157, 3) := by decide +kernel
theorem dX8_beam_7 : decode cX8_beam 7 = .ok (.ifCond .eq 24, 3) := by decide +kernel
theorem dX8_beam_10 : decode cX8_beam 10 = .ok (.iload_n 1, 1) := by decide +kernel
theorem dX8_beam_11 : decode cX8_beam 11 = .ok (.ifCond .lt 20, 3) := by decide +kernel
theorem dX8_beam_14 : decode cX8_beam 14 = .ok (.aload_n 0, 1) := by decide +kernel
theorem dX8_beam_15 : decode cX8_beam 15 = .ok (.getfield 50, 3) := by decide +kernel
theorem dX8_beam_18 : decode cX8_beam 18 = .ok (.aload_n 0, 1) := by decide +kernel
theorem dX8_beam_19 : decode cX8_beam 19 = .ok (.getfield 31, 3) := by decide +kernel
theorem dX8_beam_22 : decode cX8_beam 22 = .ok (.iconst 3, 1) := by decide +kernel
theorem dX8_beam_23 : decode cX8_beam 23 = .ok (.iload_n 1, 1) := by decide +kernel
theorem dX8_beam_24 : decode cX8_beam 24 = .ok (.iload_n 2, 1) := by decide +kernel
theorem dX8_beam_25 : decode cX8_beam 25 = .ok (.invokevirtual 208, 3) := by decide +kernel
theorem dX8_beam_28 : decode cX8_beam 28 = .ok (.goto 5, 3) := by decide +kernel
theorem dX8_beam_31 : decode cX8_beam 31 = .ok (.bipush (-2), 2) := by decide +kernel
theorem dX8_beam_33 : decode cX8_beam 33 = .ok (.ireturn, 1) := by decide +kernel
set_option maxHeartbeats 4000000 in
set_option maxRecDepth 100000 in
theorem s_X8_beam_0 (l : Launch) (D : va_G) (K : Nat → ClassId) (ad : Nat → Nat) (mm : Option Nat) (N : Nat) (hNN : 132 ≤ N) (v ar : sI) (al : sL) (hI : XI v) (z_1 : Int) (hz_1 : -2147483648 ≤ z_1 ∧ z_1 ≤ 2147483647) (z_2 : Int) (hz_2 : -2147483648 ≤ z_2 ∧ z_2 ≤ 2147483647) : Met l yX8_beam (wM yX8_beam cX8_beam 3 (some .int)) (rmD 17) (va_Pc [.ref (ad 0), .int (iI (z_1)), .int (iI (z_2))] (wPre D K ad (xG ad K mm) N v ar al)) (va_Qi (fun (r : Int32) (u : sT) => (∃ z : Int, (-2147483648 ≤ z ∧ z ≤ 2147483647) ∧ r = iI z) ∧ XI u.1 ∧ (∀ i j : Nat, (i, j) ∉ ([(45, 4), (45, 5), (45, 6), (45, 7), (48, 2), (48, 3), (48, 4), (48, 5), (48, 8), (48, 9)] : List (Nat × Nat)) → u.1 i j = v i j)) (wB D ad (xG ad K mm) N) (inW ad N)) 0 0 (inW ad N) := by
  refine s_metI (by decide) (Nat.le_of_ble_eq_true rfl) ?_
  intro p e s m below meth c ls args Q hE hB hl kr
  have hE : CallFix p m c cX8_beam 3 s args tbG "TaleCourt" := hE
  obtain ⟨hP, hK, hN⟩ := hB
  have hS : va_S (inW ad N) s.heap s.heap [] := va_S.rf
  have hl : lv_has ls 3 [(0, .ref (ad 0)), (1, .int (iI (z_1))), (2, .int (iI (z_2)))] := hl
  refine lv_aload_n hE.1 hE.2.1 dX8_beam_0 rfl (lv_at hl 0 rfl) ?_
  refine x_get (x := .ref (ad 3)) hE hK hP 0 (Nat.lt_of_lt_of_le (by decide) hNN) (xG_8 rfl) rfl hin8 1 (by decide) mw_481 rfl dX8_beam_1 ?_
  refine x_vp (nn := 0) (As := []) (rest := []) hE (s_X1_stands_3 l D K ad mm N hNN v ar al hI  ) wPre_blind (wPre_now hK hN hP) (x_recv hK hP 3 (Nat.lt_of_lt_of_le (by decide) hNN) (xG_1 rfl) rfl) rfl mw_788 mw_789 mw_790 mw_116 mw_791 (by decide +kernel) ⟨by decide, by decide⟩ hl.1 rfl (Nat.le_of_ble_eq_true rfl) ⟨Nat.zero_le _, Nat.zero_le _⟩ dX8_beam_4 (fun r1 hr1 => ?_)
  obtain ⟨z1, hz1, rfl⟩ := hr1
  refine s_if_eq (a := z1) (tgt := 31) hE.1 hE.2.1 (by omega) dX8_beam_7 (by decide) (fun c2 => ?_) (fun c2 => ?_)
  · skip
    refine lv_bipush (v := iI (-2)) hE.1 hE.2.1 dX8_beam_31 (by decide) ?_
    exact kr _ _ _ _ _ _ _ _ rfl ⟨⟨-2, by omega, rfl⟩, hI, fun i j h => rfl⟩ hP hS dX8_beam_33
  · skip
    refine lv_iload_n hE.1 hE.2.1 dX8_beam_10 rfl (lv_at hl 1 rfl) ?_
    refine s_if_lt (a := z_1) (tgt := 31) hE.1 hE.2.1 (by omega) dX8_beam_11 (by decide) (fun c3 => ?_) (fun c3 => ?_)
    · skip
      refine lv_bipush (v := iI (-2)) hE.1 hE.2.1 dX8_beam_31 (by decide) ?_
      exact kr _ _ _ _ _ _ _ _ rfl ⟨⟨-2, by omega, rfl⟩, hI, fun i j h => rfl⟩ hP hS dX8_beam_33
    · skip
      refine lv_aload_n hE.1 hE.2.1 dX8_beam_14 rfl (lv_at hl 0 rfl) ?_
      refine x_get (x := .ref (ad 45)) hE hK hP 0 (Nat.lt_of_lt_of_le (by decide) hNN) (xG_8 rfl) rfl hin8 6 (by decide) mw_486 rfl dX8_beam_15 ?_
      refine lv_aload_n hE.1 hE.2.1 dX8_beam_18 rfl (lv_at hl 0 rfl) ?_
      refine x_get (x := .ref (ad 23)) hE hK hP 0 (Nat.lt_of_lt_of_le (by decide) hNN) (xG_8 rfl) rfl hin8 3 (by decide) mw_483 rfl dX8_beam_19 ?_
      refine lv_iconst (v := iI (3)) hE.1 hE.2.1 dX8_beam_22 (by decide) ?_
      refine lv_iload_n hE.1 hE.2.1 dX8_beam_23 rfl (lv_at hl 1 rfl) ?_
      refine lv_iload_n hE.1 hE.2.1 dX8_beam_24 rfl (lv_at hl 2 rfl) ?_
      refine x_vi (nn := 4) (As := [.ref (ad 23), .int (iI (3)), .int (iI (z_1)), .int (iI (z_2))]) (rest := []) hE hK hN hP hS (s_X6_askRow_45_23 l D K ad mm N hNN v ar al hI  (3) (by omega) (z_1) (by omega) (z_2) (by omega)) (x_recv hK hP 45 (Nat.lt_of_lt_of_le (by decide) hNN) (xG_6 rfl) rfl) rfl mw_961 mw_962 mw_963 mw_119 mw_964 (by decide +kernel) ⟨by decide, by decide⟩ hl.1 rfl (Nat.le_of_ble_eq_true rfl) ⟨Nat.zero_le _, Nat.zero_le _⟩ dX8_beam_25 (fun r4 v4 ar4 al4 H locs hq4 hP hS => ?_)
      obtain ⟨⟨z4, hz4, rfl⟩, hI, hq4⟩ := hq4
      have hI : XI v4 := hI
      refine lv_goto (tgt := 33) hE.1 hE.2.1 dX8_beam_28 (by decide) ?_
      exact kr _ _ _ _ _ _ _ _ rfl ⟨⟨z4, by omega, rfl⟩, hI, fun i j h => (hq4 i j (fun q => h (mem_sub (by decide) q)))⟩ hP hS dX8_beam_33

theorem dX8_rows_0 : decode cX8_rows 0 = .ok (.aload_n 0, 1) := by decide +kernel
theorem dX8_rows_1 : decode cX8_rows 1 = .ok (.getfield 19, 3) := by decide +kernel
theorem dX8_rows_4 : decode cX8_rows 4 = .ok (.invokevirtual 157, 3) := by decide +kernel
theorem dX8_rows_7 : decode cX8_rows 7 = .ok (.ifCond .eq 30, 3) := by decide +kernel
theorem dX8_rows_10 : decode cX8_rows 10 = .ok (.iload_n 1, 1) := by decide +kernel
theorem dX8_rows_11 : decode cX8_rows 11 = .ok (.ifCond .lt 26, 3) := by decide +kernel
theorem dX8_rows_14 : decode cX8_rows 14 = .ok (.iload_n 1, 1) := by decide +kernel
theorem dX8_rows_15 : decode cX8_rows 15 = .ok (.bipush 9, 2) := by decide +kernel
theorem dX8_rows_17 : decode cX8_rows 17 = .ok (.if_icmp .gt 20, 3) := by decide +kernel
theorem dX8_rows_20 : decode cX8_rows 20 = .ok (.aload_n 0, 1) := by decide +kernel
theorem dX8_rows_21 : decode cX8_rows 21 = .ok (.getfield 50, 3) := by decide +kernel
theorem dX8_rows_24 : decode cX8_rows 24 = .ok (.aload_n 0, 1) := by decide +kernel
theorem dX8_rows_25 : decode cX8_rows 25 = .ok (.getfield 31, 3) := by decide +kernel
theorem dX8_rows_28 : decode cX8_rows 28 = .ok (.iconst 4, 1) := by decide +kernel
theorem dX8_rows_29 : decode cX8_rows 29 = .ok (.iload_n 1, 1) := by decide +kernel
theorem dX8_rows_30 : decode cX8_rows 30 = .ok (.iconst 0, 1) := by decide +kernel
theorem dX8_rows_31 : decode cX8_rows 31 = .ok (.invokevirtual 204, 3) := by decide +kernel
theorem dX8_rows_34 : decode cX8_rows 34 = .ok (.goto 5, 3) := by decide +kernel
theorem dX8_rows_37 : decode cX8_rows 37 = .ok (.bipush (-2), 2) := by decide +kernel
theorem dX8_rows_39 : decode cX8_rows 39 = .ok (.ireturn, 1) := by decide +kernel
set_option maxHeartbeats 4000000 in
set_option maxRecDepth 100000 in
theorem s_X8_rows_0 (l : Launch) (D : va_G) (K : Nat → ClassId) (ad : Nat → Nat) (mm : Option Nat) (N : Nat) (hNN : 132 ≤ N) (v ar : sI) (al : sL) (hI : XI v) (z_1 : Int) (hz_1 : -2147483648 ≤ z_1 ∧ z_1 ≤ 2147483647) : Met l yX8_rows (wM yX8_rows cX8_rows 2 (some .int)) (rmD 16) (va_Pc [.ref (ad 0), .int (iI (z_1))] (wPre D K ad (xG ad K mm) N v ar al)) (va_Qi (fun (r : Int32) (u : sT) => (∃ z : Int, (-2147483648 ≤ z ∧ z ≤ 2147483647) ∧ r = iI z) ∧ XI u.1 ∧ (∀ i j : Nat, (i, j) ∉ ([(45, 4), (45, 5), (45, 6), (45, 7), (48, 2), (48, 3), (48, 4), (48, 5), (48, 8), (48, 9)] : List (Nat × Nat)) → u.1 i j = v i j)) (wB D ad (xG ad K mm) N) (inW ad N)) 0 0 (inW ad N) := by
  refine s_metI (by decide) (Nat.le_of_ble_eq_true rfl) ?_
  intro p e s m below meth c ls args Q hE hB hl kr
  have hE : CallFix p m c cX8_rows 2 s args tbG "TaleCourt" := hE
  obtain ⟨hP, hK, hN⟩ := hB
  have hS : va_S (inW ad N) s.heap s.heap [] := va_S.rf
  have hl : lv_has ls 2 [(0, .ref (ad 0)), (1, .int (iI (z_1)))] := hl
  refine lv_aload_n hE.1 hE.2.1 dX8_rows_0 rfl (lv_at hl 0 rfl) ?_
  refine x_get (x := .ref (ad 3)) hE hK hP 0 (Nat.lt_of_lt_of_le (by decide) hNN) (xG_8 rfl) rfl hin8 1 (by decide) mw_481 rfl dX8_rows_1 ?_
  refine x_vp (nn := 0) (As := []) (rest := []) hE (s_X1_stands_3 l D K ad mm N hNN v ar al hI  ) wPre_blind (wPre_now hK hN hP) (x_recv hK hP 3 (Nat.lt_of_lt_of_le (by decide) hNN) (xG_1 rfl) rfl) rfl mw_788 mw_789 mw_790 mw_116 mw_791 (by decide +kernel) ⟨by decide, by decide⟩ hl.1 rfl (Nat.le_of_ble_eq_true rfl) ⟨Nat.zero_le _, Nat.zero_le _⟩ dX8_rows_4 (fun r1 hr1 => ?_)
  obtain ⟨z1, hz1, rfl⟩ := hr1
  refine s_if_eq (a := z1) (tgt := 37) hE.1 hE.2.1 (by omega) dX8_rows_7 (by decide) (fun c2 => ?_) (fun c2 => ?_)
  · skip
    refine lv_bipush (v := iI (-2)) hE.1 hE.2.1 dX8_rows_37 (by decide) ?_
    exact kr _ _ _ _ _ _ _ _ rfl ⟨⟨-2, by omega, rfl⟩, hI, fun i j h => rfl⟩ hP hS dX8_rows_39
  · skip
    refine lv_iload_n hE.1 hE.2.1 dX8_rows_10 rfl (lv_at hl 1 rfl) ?_
    refine s_if_lt (a := z_1) (tgt := 37) hE.1 hE.2.1 (by omega) dX8_rows_11 (by decide) (fun c3 => ?_) (fun c3 => ?_)
    · skip
      refine lv_bipush (v := iI (-2)) hE.1 hE.2.1 dX8_rows_37 (by decide) ?_
      exact kr _ _ _ _ _ _ _ _ rfl ⟨⟨-2, by omega, rfl⟩, hI, fun i j h => rfl⟩ hP hS dX8_rows_39
    · skip
      refine lv_iload_n hE.1 hE.2.1 dX8_rows_14 rfl (lv_at hl 1 rfl) ?_
      refine lv_bipush (v := iI (9)) hE.1 hE.2.1 dX8_rows_15 (by decide) ?_
      refine s_icmp_gt (a := z_1) (b := 9) (tgt := 37) hE.1 hE.2.1 (by omega) (by omega) dX8_rows_17 (by decide) (fun c4 => ?_) (fun c4 => ?_)
      · skip
        refine lv_bipush (v := iI (-2)) hE.1 hE.2.1 dX8_rows_37 (by decide) ?_
        exact kr _ _ _ _ _ _ _ _ rfl ⟨⟨-2, by omega, rfl⟩, hI, fun i j h => rfl⟩ hP hS dX8_rows_39
      · skip
        refine lv_aload_n hE.1 hE.2.1 dX8_rows_20 rfl (lv_at hl 0 rfl) ?_
        refine x_get (x := .ref (ad 45)) hE hK hP 0 (Nat.lt_of_lt_of_le (by decide) hNN) (xG_8 rfl) rfl hin8 6 (by decide) mw_486 rfl dX8_rows_21 ?_
        refine lv_aload_n hE.1 hE.2.1 dX8_rows_24 rfl (lv_at hl 0 rfl) ?_
        refine x_get (x := .ref (ad 23)) hE hK hP 0 (Nat.lt_of_lt_of_le (by decide) hNN) (xG_8 rfl) rfl hin8 3 (by decide) mw_483 rfl dX8_rows_25 ?_
        refine lv_iconst (v := iI (4)) hE.1 hE.2.1 dX8_rows_28 (by decide) ?_
        refine lv_iload_n hE.1 hE.2.1 dX8_rows_29 rfl (lv_at hl 1 rfl) ?_
        refine lv_iconst (v := iI (0)) hE.1 hE.2.1 dX8_rows_30 (by decide) ?_
        refine x_vi (nn := 4) (As := [.ref (ad 23), .int (iI (4)), .int (iI (z_1)), .int (iI (0))]) (rest := []) hE hK hN hP hS (s_X6_ask_45_23 l D K ad mm N hNN v ar al hI  (4) (by omega) (z_1) (by omega) (0) (by omega)) (x_recv hK hP 45 (Nat.lt_of_lt_of_le (by decide) hNN) (xG_6 rfl) rfl) rfl mw_904 mw_905 mw_906 mw_119 mw_907 (by decide +kernel) ⟨by decide, by decide⟩ hl.1 rfl (Nat.le_of_ble_eq_true rfl) ⟨Nat.zero_le _, Nat.zero_le _⟩ dX8_rows_31 (fun r5 v5 ar5 al5 H locs hq5 hP hS => ?_)
        obtain ⟨⟨z5, hz5, rfl⟩, hI, hq5⟩ := hq5
        have hI : XI v5 := hI
        refine lv_goto (tgt := 39) hE.1 hE.2.1 dX8_rows_34 (by decide) ?_
        exact kr _ _ _ _ _ _ _ _ rfl ⟨⟨z5, by omega, rfl⟩, hI, fun i j h => (hq5 i j (fun q => h (mem_sub (by decide) q)))⟩ hP hS dX8_rows_39

theorem dX8_wholesWithout_0 : decode cX8_wholesWithout 0 = .ok (.aload_n 0, 1) := by decide +kernel
theorem dX8_wholesWithout_1 : decode cX8_wholesWithout 1 = .ok (.getfield 50, 3) := by decide +kernel
theorem dX8_wholesWithout_4 : decode cX8_wholesWithout 4 = .ok (.aload_n 0, 1) := by decide +kernel
theorem dX8_wholesWithout_5 : decode cX8_wholesWithout 5 = .ok (.getfield 31, 3) := by decide +kernel
theorem dX8_wholesWithout_8 : decode cX8_wholesWithout 8 = .ok (.iconst 5, 1) := by decide +kernel
theorem dX8_wholesWithout_9 : decode cX8_wholesWithout 9 = .ok (.iconst 0, 1) := by decide +kernel
theorem dX8_wholesWithout_10 : decode cX8_wholesWithout 10 = .ok (.iload_n 1, 1) := by decide +kernel
theorem dX8_wholesWithout_11 : decode cX8_wholesWithout 11 = .ok (.invokevirtual 204, 3) := by decide +kernel
theorem dX8_wholesWithout_14 : decode cX8_wholesWithout 14 = .ok (.ireturn, 1) := by decide +kernel
set_option maxHeartbeats 4000000 in
set_option maxRecDepth 100000 in
theorem s_X8_wholesWithout_0 (l : Launch) (D : va_G) (K : Nat → ClassId) (ad : Nat → Nat) (mm : Option Nat) (N : Nat) (hNN : 132 ≤ N) (v ar : sI) (al : sL) (hI : XI v) (z_1 : Int) (hz_1 : -2147483648 ≤ z_1 ∧ z_1 ≤ 2147483647) : Met l yX8_wholesWithout (wM yX8_wholesWithout cX8_wholesWithout 2 (some .int)) (rmD 16) (va_Pc [.ref (ad 0), .int (iI (z_1))] (wPre D K ad (xG ad K mm) N v ar al)) (va_Qi (fun (r : Int32) (u : sT) => (∃ z : Int, (-2147483648 ≤ z ∧ z ≤ 2147483647) ∧ r = iI z) ∧ XI u.1 ∧ (∀ i j : Nat, (i, j) ∉ ([(45, 4), (45, 5), (45, 6), (45, 7), (48, 2), (48, 3), (48, 4), (48, 5), (48, 8), (48, 9)] : List (Nat × Nat)) → u.1 i j = v i j)) (wB D ad (xG ad K mm) N) (inW ad N)) 0 0 (inW ad N) := by
  refine s_metI (by decide) (Nat.le_of_ble_eq_true rfl) ?_
  intro p e s m below meth c ls args Q hE hB hl kr
  have hE : CallFix p m c cX8_wholesWithout 2 s args tbG "TaleCourt" := hE
  obtain ⟨hP, hK, hN⟩ := hB
  have hS : va_S (inW ad N) s.heap s.heap [] := va_S.rf
  have hl : lv_has ls 2 [(0, .ref (ad 0)), (1, .int (iI (z_1)))] := hl
  refine lv_aload_n hE.1 hE.2.1 dX8_wholesWithout_0 rfl (lv_at hl 0 rfl) ?_
  refine x_get (x := .ref (ad 45)) hE hK hP 0 (Nat.lt_of_lt_of_le (by decide) hNN) (xG_8 rfl) rfl hin8 6 (by decide) mw_486 rfl dX8_wholesWithout_1 ?_
  refine lv_aload_n hE.1 hE.2.1 dX8_wholesWithout_4 rfl (lv_at hl 0 rfl) ?_
  refine x_get (x := .ref (ad 23)) hE hK hP 0 (Nat.lt_of_lt_of_le (by decide) hNN) (xG_8 rfl) rfl hin8 3 (by decide) mw_483 rfl dX8_wholesWithout_5 ?_
  refine lv_iconst (v := iI (5)) hE.1 hE.2.1 dX8_wholesWithout_8 (by decide) ?_
  refine lv_iconst (v := iI (0)) hE.1 hE.2.1 dX8_wholesWithout_9 (by decide) ?_
  refine lv_iload_n hE.1 hE.2.1 dX8_wholesWithout_10 rfl (lv_at hl 1 rfl) ?_
  refine x_vi (nn := 4) (As := [.ref (ad 23), .int (iI (5)), .int (iI (0)), .int (iI (z_1))]) (rest := []) hE hK hN hP hS (s_X6_ask_45_23 l D K ad mm N hNN v ar al hI  (5) (by omega) (0) (by omega) (z_1) (by omega)) (x_recv hK hP 45 (Nat.lt_of_lt_of_le (by decide) hNN) (xG_6 rfl) rfl) rfl mw_904 mw_905 mw_906 mw_119 mw_907 (by decide +kernel) ⟨by decide, by decide⟩ hl.1 rfl (Nat.le_of_ble_eq_true rfl) ⟨Nat.zero_le _, Nat.zero_le _⟩ dX8_wholesWithout_11 (fun r1 v1 ar1 al1 H locs hq1 hP hS => ?_)
  obtain ⟨⟨z1, hz1, rfl⟩, hI, hq1⟩ := hq1
  have hI : XI v1 := hI
  exact kr _ _ _ _ _ _ _ _ rfl ⟨⟨z1, by omega, rfl⟩, hI, fun i j h => (hq1 i j (fun q => h (mem_sub (by decide) q)))⟩ hP hS dX8_wholesWithout_14

theorem dX8_wholes_0 : decode cX8_wholes 0 = .ok (.aload_n 0, 1) := by decide +kernel
theorem dX8_wholes_1 : decode cX8_wholes 1 = .ok (.getfield 19, 3) := by decide +kernel
theorem dX8_wholes_4 : decode cX8_wholes 4 = .ok (.invokevirtual 157, 3) := by decide +kernel
theorem dX8_wholes_7 : decode cX8_wholes 7 = .ok (.ifCond .eq 11, 3) := by decide +kernel
theorem dX8_wholes_10 : decode cX8_wholes 10 = .ok (.aload_n 0, 1) := by decide +kernel
theorem dX8_wholes_11 : decode cX8_wholes 11 = .ok (.iconst 0, 1) := by decide +kernel
theorem dX8_wholes_12 : decode cX8_wholes 12 = .ok (.invokevirtual 211, 3) := by decide +kernel
theorem dX8_wholes_15 : decode cX8_wholes 15 = .ok (.goto 5, 3) := by decide +kernel
theorem dX8_wholes_18 : decode cX8_wholes 18 = .ok (.bipush (-2), 2) := by decide +kernel
theorem dX8_wholes_20 : decode cX8_wholes 20 = .ok (.ireturn, 1) := by decide +kernel
set_option maxHeartbeats 4000000 in
set_option maxRecDepth 100000 in
theorem s_X8_wholes_0 (l : Launch) (D : va_G) (K : Nat → ClassId) (ad : Nat → Nat) (mm : Option Nat) (N : Nat) (hNN : 132 ≤ N) (v ar : sI) (al : sL) (hI : XI v) : Met l yX8_wholes (wM yX8_wholes cX8_wholes 1 (some .int)) (rmD 17) (va_Pc [.ref (ad 0)] (wPre D K ad (xG ad K mm) N v ar al)) (va_Qi (fun (r : Int32) (u : sT) => (∃ z : Int, (-2147483648 ≤ z ∧ z ≤ 2147483647) ∧ r = iI z) ∧ XI u.1 ∧ (∀ i j : Nat, (i, j) ∉ ([(45, 4), (45, 5), (45, 6), (45, 7), (48, 2), (48, 3), (48, 4), (48, 5), (48, 8), (48, 9)] : List (Nat × Nat)) → u.1 i j = v i j)) (wB D ad (xG ad K mm) N) (inW ad N)) 0 0 (inW ad N) := by
  refine s_metI (by decide) (Nat.le_of_ble_eq_true rfl) ?_
  intro p e s m below meth c ls args Q hE hB hl kr
  have hE : CallFix p m c cX8_wholes 1 s args tbG "TaleCourt" := hE
  obtain ⟨hP, hK, hN⟩ := hB
  have hS : va_S (inW ad N) s.heap s.heap [] := va_S.rf
  have hl : lv_has ls 1 [(0, .ref (ad 0))] := hl
  refine lv_aload_n hE.1 hE.2.1 dX8_wholes_0 rfl (lv_at hl 0 rfl) ?_
  refine x_get (x := .ref (ad 3)) hE hK hP 0 (Nat.lt_of_lt_of_le (by decide) hNN) (xG_8 rfl) rfl hin8 1 (by decide) mw_481 rfl dX8_wholes_1 ?_
  refine x_vp (nn := 0) (As := []) (rest := []) hE (s_X1_stands_3 l D K ad mm N hNN v ar al hI  ) wPre_blind (wPre_now hK hN hP) (x_recv hK hP 3 (Nat.lt_of_lt_of_le (by decide) hNN) (xG_1 rfl) rfl) rfl mw_788 mw_789 mw_790 mw_116 mw_791 (by decide +kernel) ⟨by decide, by decide⟩ hl.1 rfl (Nat.le_of_ble_eq_true rfl) ⟨Nat.zero_le _, Nat.zero_le _⟩ dX8_wholes_4 (fun r1 hr1 => ?_)
  obtain ⟨z1, hz1, rfl⟩ := hr1
  refine s_if_eq (a := z1) (tgt := 18) hE.1 hE.2.1 (by omega) dX8_wholes_7 (by decide) (fun c2 => ?_) (fun c2 => ?_)
  · skip
    refine lv_bipush (v := iI (-2)) hE.1 hE.2.1 dX8_wholes_18 (by decide) ?_
    exact kr _ _ _ _ _ _ _ _ rfl ⟨⟨-2, by omega, rfl⟩, hI, fun i j h => rfl⟩ hP hS dX8_wholes_20
  · skip
    refine lv_aload_n hE.1 hE.2.1 dX8_wholes_10 rfl (lv_at hl 0 rfl) ?_
    refine lv_iconst (v := iI (0)) hE.1 hE.2.1 dX8_wholes_11 (by decide) ?_
    refine x_vi (nn := 1) (As := [.int (iI (0))]) (rest := []) hE hK hN hP hS (s_X8_wholesWithout_0 l D K ad mm N hNN v ar al hI  (0) (by omega)) (x_recv hK hP 0 (Nat.lt_of_lt_of_le (by decide) hNN) (xG_8 rfl) rfl) rfl mw_994 mw_996 mw_29 mw_114 mw_997 (by decide +kernel) ⟨by decide, by decide⟩ hl.1 rfl (Nat.le_of_ble_eq_true rfl) ⟨Nat.zero_le _, Nat.zero_le _⟩ dX8_wholes_12 (fun r3 v3 ar3 al3 H locs hq3 hP hS => ?_)
    obtain ⟨⟨z3, hz3, rfl⟩, hI, hq3⟩ := hq3
    have hI : XI v3 := hI
    refine lv_goto (tgt := 20) hE.1 hE.2.1 dX8_wholes_15 (by decide) ?_
    exact kr _ _ _ _ _ _ _ _ rfl ⟨⟨z3, by omega, rfl⟩, hI, fun i j h => (hq3 i j (fun q => h (mem_sub (by decide) q)))⟩ hP hS dX8_wholes_20

theorem dX8_ends_0 : decode cX8_ends 0 = .ok (.aload_n 0, 1) := by decide +kernel
theorem dX8_ends_1 : decode cX8_ends 1 = .ok (.getfield 19, 3) := by decide +kernel
theorem dX8_ends_4 : decode cX8_ends 4 = .ok (.iload_n 1, 1) := by decide +kernel
theorem dX8_ends_5 : decode cX8_ends 5 = .ok (.invokevirtual 102, 3) := by decide +kernel
theorem dX8_ends_8 : decode cX8_ends 8 = .ok (.ifCond .eq 21, 3) := by decide +kernel
theorem dX8_ends_11 : decode cX8_ends 11 = .ok (.aload_n 0, 1) := by decide +kernel
theorem dX8_ends_12 : decode cX8_ends 12 = .ok (.getfield 50, 3) := by decide +kernel
theorem dX8_ends_15 : decode cX8_ends 15 = .ok (.aload_n 0, 1) := by decide +kernel
theorem dX8_ends_16 : decode cX8_ends 16 = .ok (.getfield 31, 3) := by decide +kernel
theorem dX8_ends_19 : decode cX8_ends 19 = .ok (.bipush 6, 2) := by decide +kernel
theorem dX8_ends_21 : decode cX8_ends 21 = .ok (.iload_n 1, 1) := by decide +kernel
theorem dX8_ends_22 : decode cX8_ends 22 = .ok (.iconst 0, 1) := by decide +kernel
theorem dX8_ends_23 : decode cX8_ends 23 = .ok (.invokevirtual 204, 3) := by decide +kernel
theorem dX8_ends_26 : decode cX8_ends 26 = .ok (.goto 5, 3) := by decide +kernel
theorem dX8_ends_29 : decode cX8_ends 29 = .ok (.bipush (-2), 2) := by decide +kernel
theorem dX8_ends_31 : decode cX8_ends 31 = .ok (.ireturn, 1) := by decide +kernel
set_option maxHeartbeats 4000000 in
set_option maxRecDepth 100000 in
theorem s_X8_ends_0 (l : Launch) (D : va_G) (K : Nat → ClassId) (ad : Nat → Nat) (mm : Option Nat) (N : Nat) (hNN : 132 ≤ N) (v ar : sI) (al : sL) (hI : XI v) (z_1 : Int) (hz_1 : -2147483648 ≤ z_1 ∧ z_1 ≤ 2147483647) : Met l yX8_ends (wM yX8_ends cX8_ends 2 (some .int)) (rmD 16) (va_Pc [.ref (ad 0), .int (iI (z_1))] (wPre D K ad (xG ad K mm) N v ar al)) (va_Qi (fun (r : Int32) (u : sT) => (∃ z : Int, (-2147483648 ≤ z ∧ z ≤ 2147483647) ∧ r = iI z) ∧ XI u.1 ∧ (∀ i j : Nat, (i, j) ∉ ([(45, 4), (45, 5), (45, 6), (45, 7), (48, 2), (48, 3), (48, 4), (48, 5), (48, 8), (48, 9)] : List (Nat × Nat)) → u.1 i j = v i j)) (wB D ad (xG ad K mm) N) (inW ad N)) 0 0 (inW ad N) := by
  refine s_metI (by decide) (Nat.le_of_ble_eq_true rfl) ?_
  intro p e s m below meth c ls args Q hE hB hl kr
  have hE : CallFix p m c cX8_ends 2 s args tbG "TaleCourt" := hE
  obtain ⟨hP, hK, hN⟩ := hB
  have hS : va_S (inW ad N) s.heap s.heap [] := va_S.rf
  have hl : lv_has ls 2 [(0, .ref (ad 0)), (1, .int (iI (z_1)))] := hl
  refine lv_aload_n hE.1 hE.2.1 dX8_ends_0 rfl (lv_at hl 0 rfl) ?_
  refine x_get (x := .ref (ad 3)) hE hK hP 0 (Nat.lt_of_lt_of_le (by decide) hNN) (xG_8 rfl) rfl hin8 1 (by decide) mw_481 rfl dX8_ends_1 ?_
  refine lv_iload_n hE.1 hE.2.1 dX8_ends_4 rfl (lv_at hl 1 rfl) ?_
  refine x_vp (nn := 1) (As := [.int (iI (z_1))]) (rest := []) hE (s_X1_hasMotif_3 l D K ad mm N hNN v ar al hI  (z_1) (by omega)) wPre_blind (wPre_now hK hN hP) (x_recv hK hP 3 (Nat.lt_of_lt_of_le (by decide) hNN) (xG_1 rfl) rfl) rfl mw_694 mw_695 mw_696 mw_116 mw_697 (by decide +kernel) ⟨by decide, by decide⟩ hl.1 rfl (Nat.le_of_ble_eq_true rfl) ⟨Nat.zero_le _, Nat.zero_le _⟩ dX8_ends_5 (fun r1 hr1 => ?_)
  obtain ⟨z1, hz1, rfl⟩ := hr1
  refine s_if_eq (a := z1) (tgt := 29) hE.1 hE.2.1 (by omega) dX8_ends_8 (by decide) (fun c2 => ?_) (fun c2 => ?_)
  · skip
    refine lv_bipush (v := iI (-2)) hE.1 hE.2.1 dX8_ends_29 (by decide) ?_
    exact kr _ _ _ _ _ _ _ _ rfl ⟨⟨-2, by omega, rfl⟩, hI, fun i j h => rfl⟩ hP hS dX8_ends_31
  · skip
    refine lv_aload_n hE.1 hE.2.1 dX8_ends_11 rfl (lv_at hl 0 rfl) ?_
    refine x_get (x := .ref (ad 45)) hE hK hP 0 (Nat.lt_of_lt_of_le (by decide) hNN) (xG_8 rfl) rfl hin8 6 (by decide) mw_486 rfl dX8_ends_12 ?_
    refine lv_aload_n hE.1 hE.2.1 dX8_ends_15 rfl (lv_at hl 0 rfl) ?_
    refine x_get (x := .ref (ad 23)) hE hK hP 0 (Nat.lt_of_lt_of_le (by decide) hNN) (xG_8 rfl) rfl hin8 3 (by decide) mw_483 rfl dX8_ends_16 ?_
    refine lv_bipush (v := iI (6)) hE.1 hE.2.1 dX8_ends_19 (by decide) ?_
    refine lv_iload_n hE.1 hE.2.1 dX8_ends_21 rfl (lv_at hl 1 rfl) ?_
    refine lv_iconst (v := iI (0)) hE.1 hE.2.1 dX8_ends_22 (by decide) ?_
    refine x_vi (nn := 4) (As := [.ref (ad 23), .int (iI (6)), .int (iI (z_1)), .int (iI (0))]) (rest := []) hE hK hN hP hS (s_X6_ask_45_23 l D K ad mm N hNN v ar al hI  (6) (by omega) (z_1) (by omega) (0) (by omega)) (x_recv hK hP 45 (Nat.lt_of_lt_of_le (by decide) hNN) (xG_6 rfl) rfl) rfl mw_904 mw_905 mw_906 mw_119 mw_907 (by decide +kernel) ⟨by decide, by decide⟩ hl.1 rfl (Nat.le_of_ble_eq_true rfl) ⟨Nat.zero_le _, Nat.zero_le _⟩ dX8_ends_23 (fun r3 v3 ar3 al3 H locs hq3 hP hS => ?_)
    obtain ⟨⟨z3, hz3, rfl⟩, hI, hq3⟩ := hq3
    have hI : XI v3 := hI
    refine lv_goto (tgt := 31) hE.1 hE.2.1 dX8_ends_26 (by decide) ?_
    exact kr _ _ _ _ _ _ _ _ rfl ⟨⟨z3, by omega, rfl⟩, hI, fun i j h => (hq3 i j (fun q => h (mem_sub (by decide) q)))⟩ hP hS dX8_ends_31

theorem dX8_always_0 : decode cX8_always 0 = .ok (.aload_n 0, 1) := by decide +kernel
theorem dX8_always_1 : decode cX8_always 1 = .ok (.getfield 19, 3) := by decide +kernel
theorem dX8_always_4 : decode cX8_always 4 = .ok (.invokevirtual 157, 3) := by decide +kernel
theorem dX8_always_7 : decode cX8_always 7 = .ok (.ifCond .eq 12, 3) := by decide +kernel
theorem dX8_always_10 : decode cX8_always 10 = .ok (.iload_n 1, 1) := by decide +kernel
theorem dX8_always_11 : decode cX8_always 11 = .ok (.ifCond .lt 8, 3) := by decide +kernel
theorem dX8_always_14 : decode cX8_always 14 = .ok (.iload_n 1, 1) := by decide +kernel
theorem dX8_always_15 : decode cX8_always 15 = .ok (.iconst 1, 1) := by decide +kernel
theorem dX8_always_16 : decode cX8_always 16 = .ok (.if_icmp .le 6, 3) := by decide +kernel
theorem dX8_always_19 : decode cX8_always 19 = .ok (.bipush (-2), 2) := by decide +kernel
theorem dX8_always_21 : decode cX8_always 21 = .ok (.ireturn, 1) := by decide +kernel
theorem dX8_always_22 : decode cX8_always 22 = .ok (.aload_n 0, 1) := by decide +kernel
theorem dX8_always_23 : decode cX8_always 23 = .ok (.iconst 0, 1) := by decide +kernel
theorem dX8_always_24 : decode cX8_always 24 = .ok (.invokevirtual 211, 3) := by decide +kernel
theorem dX8_always_27 : decode cX8_always 27 = .ok (.istore_n 2, 1) := by decide +kernel
theorem dX8_always_28 : decode cX8_always 28 = .ok (.iload_n 2, 1) := by decide +kernel
theorem dX8_always_29 : decode cX8_always 29 = .ok (.ifCond .ne 5, 3) := by decide +kernel
theorem dX8_always_32 : decode cX8_always 32 = .ok (.iconst 0, 1) := by decide +kernel
theorem dX8_always_33 : decode cX8_always 33 = .ok (.ireturn, 1) := by decide +kernel
theorem dX8_always_34 : decode cX8_always 34 = .ok (.aload_n 0, 1) := by decide +kernel
theorem dX8_always_35 : decode cX8_always 35 = .ok (.getfield 31, 3) := by decide +kernel
theorem dX8_always_38 : decode cX8_always 38 = .ok (.getfield 214, 3) := by decide +kernel
theorem dX8_always_41 : decode cX8_always 41 = .ok (.istore_n 3, 1) := by decide +kernel
theorem dX8_always_42 : decode cX8_always 42 = .ok (.iconst 0, 1) := by decide +kernel
theorem dX8_always_43 : decode cX8_always 43 = .ok (.istore 4, 2) := by decide +kernel
theorem dX8_always_45 : decode cX8_always 45 = .ok (.iload 4, 2) := by decide +kernel
theorem dX8_always_47 : decode cX8_always 47 = .ok (.aload_n 0, 1) := by decide +kernel
theorem dX8_always_48 : decode cX8_always 48 = .ok (.getfield 19, 3) := by decide +kernel
theorem dX8_always_51 : decode cX8_always 51 = .ok (.getfield 217, 3) := by decide +kernel
theorem dX8_always_54 : decode cX8_always 54 = .ok (.if_icmp .ge 44, 3) := by decide +kernel
theorem dX8_always_57 : decode cX8_always 57 = .ok (.aload_n 0, 1) := by decide +kernel
theorem dX8_always_58 : decode cX8_always 58 = .ok (.iconst 1, 1) := by decide +kernel
theorem dX8_always_59 : decode cX8_always 59 = .ok (.iload 4, 2) := by decide +kernel
theorem dX8_always_61 : decode cX8_always 61 = .ok (.ishl, 1) := by decide +kernel
theorem dX8_always_62 : decode cX8_always 62 = .ok (.invokevirtual 211, 3) := by decide +kernel
theorem dX8_always_65 : decode cX8_always 65 = .ok (.istore 5, 2) := by decide +kernel
theorem dX8_always_67 : decode cX8_always 67 = .ok (.iload_n 1, 1) := by decide +kernel
theorem dX8_always_68 : decode cX8_always 68 = .ok (.ifCond .ne 11, 3) := by decide +kernel
theorem dX8_always_71 : decode cX8_always 71 = .ok (.iload 5, 2) := by decide +kernel
theorem dX8_always_73 : decode cX8_always 73 = .ok (.ifCond .ne 19, 3) := by decide +kernel
theorem dX8_always_76 : decode cX8_always 76 = .ok (.goto 9, 3) := by decide +kernel
theorem dX8_always_79 : decode cX8_always 79 = .ok (.iload 5, 2) := by decide +kernel
theorem dX8_always_81 : decode cX8_always 81 = .ok (.iload_n 2, 1) := by decide +kernel
theorem dX8_always_82 : decode cX8_always 82 = .ok (.if_icmp .ge 10, 3) := by decide +kernel
theorem dX8_always_85 : decode cX8_always 85 = .ok (.iload_n 3, 1) := by decide +kernel
theorem dX8_always_86 : decode cX8_always 86 = .ok (.iconst 1, 1) := by decide +kernel
theorem dX8_always_87 : decode cX8_always 87 = .ok (.iload 4, 2) := by decide +kernel
theorem dX8_always_89 : decode cX8_always 89 = .ok (.ishl, 1) := by decide +kernel
theorem dX8_always_90 : decode cX8_always 90 = .ok (.ior, 1) := by decide +kernel
theorem dX8_always_91 : decode cX8_always 91 = .ok (.istore_n 3, 1) := by decide +kernel
theorem dX8_always_92 : decode cX8_always 92 = .ok (.iinc 4 1, 3) := by decide +kernel
theorem dX8_always_95 : decode cX8_always 95 = .ok (.goto (-50), 3) := by decide +kernel
theorem dX8_always_98 : decode cX8_always 98 = .ok (.iload_n 3, 1) := by decide +kernel
theorem dX8_always_99 : decode cX8_always 99 = .ok (.ireturn, 1) := by decide +kernel
set_option maxHeartbeats 4000000 in
set_option maxRecDepth 100000 in
theorem s_X8_always_0 (l : Launch) (D : va_G) (K : Nat → ClassId) (ad : Nat → Nat) (mm : Option Nat) (N : Nat) (hNN : 132 ≤ N) (v ar : sI) (al : sL) (hI : XI v) (z_1 : Int) (hz_1 : -2147483648 ≤ z_1 ∧ z_1 ≤ 2147483647) : Met l yX8_always (wM yX8_always cX8_always 6 (some .int)) (rmD 17) (va_Pc [.ref (ad 0), .int (iI (z_1))] (wPre D K ad (xG ad K mm) N v ar al)) (va_Qi (fun (r : Int32) (u : sT) => (∃ z : Int, (-2147483648 ≤ z ∧ z ≤ 2147483647) ∧ r = iI z) ∧ XI u.1 ∧ (∀ i j : Nat, (i, j) ∉ ([(45, 4), (45, 5), (45, 6), (45, 7), (48, 2), (48, 3), (48, 4), (48, 5), (48, 8), (48, 9)] : List (Nat × Nat)) → u.1 i j = v i j)) (wB D ad (xG ad K mm) N) (inW ad N)) 0 0 (inW ad N) := by
  refine s_metI (by decide) (Nat.le_of_ble_eq_true rfl) ?_
  intro p e s m below meth c ls args Q hE hB hl kr
  have hE : CallFix p m c cX8_always 6 s args tbG "TaleCourt" := hE
  obtain ⟨hP, hK, hN⟩ := hB
  have hS : va_S (inW ad N) s.heap s.heap [] := va_S.rf
  have hl : lv_has ls 6 [(0, .ref (ad 0)), (1, .int (iI (z_1)))] := hl
  refine lv_aload_n hE.1 hE.2.1 dX8_always_0 rfl (lv_at hl 0 rfl) ?_
  refine x_get (x := .ref (ad 3)) hE hK hP 0 (Nat.lt_of_lt_of_le (by decide) hNN) (xG_8 rfl) rfl hin8 1 (by decide) mw_481 rfl dX8_always_1 ?_
  refine x_vp (nn := 0) (As := []) (rest := []) hE (s_X1_stands_3 l D K ad mm N hNN v ar al hI  ) wPre_blind (wPre_now hK hN hP) (x_recv hK hP 3 (Nat.lt_of_lt_of_le (by decide) hNN) (xG_1 rfl) rfl) rfl mw_788 mw_789 mw_790 mw_116 mw_791 (by decide +kernel) ⟨by decide, by decide⟩ hl.1 rfl (Nat.le_of_ble_eq_true rfl) ⟨Nat.zero_le _, Nat.zero_le _⟩ dX8_always_4 (fun r1 hr1 => ?_)
  obtain ⟨z1, hz1, rfl⟩ := hr1
  refine s_if_eq (a := z1) (tgt := 19) hE.1 hE.2.1 (by omega) dX8_always_7 (by decide) (fun c2 => ?_) (fun c2 => ?_)
  · skip
    refine lv_bipush (v := iI (-2)) hE.1 hE.2.1 dX8_always_19 (by decide) ?_
    exact kr _ _ _ _ _ _ _ _ rfl ⟨⟨-2, by omega, rfl⟩, hI, fun i j h => rfl⟩ hP hS dX8_always_21
  · skip
    refine lv_iload_n hE.1 hE.2.1 dX8_always_10 rfl (lv_at hl 1 rfl) ?_
    refine s_if_lt (a := z_1) (tgt := 19) hE.1 hE.2.1 (by omega) dX8_always_11 (by decide) (fun c3 => ?_) (fun c3 => ?_)
    · skip
      refine lv_bipush (v := iI (-2)) hE.1 hE.2.1 dX8_always_19 (by decide) ?_
      exact kr _ _ _ _ _ _ _ _ rfl ⟨⟨-2, by omega, rfl⟩, hI, fun i j h => rfl⟩ hP hS dX8_always_21
    · skip
      refine lv_iload_n hE.1 hE.2.1 dX8_always_14 rfl (lv_at hl 1 rfl) ?_
      refine lv_iconst (v := iI (1)) hE.1 hE.2.1 dX8_always_15 (by decide) ?_
      refine s_icmp_le (a := z_1) (b := 1) (tgt := 22) hE.1 hE.2.1 (by omega) (by omega) dX8_always_16 (by decide) (fun c4 => ?_) (fun c4 => ?_)
      · skip
        refine lv_aload_n hE.1 hE.2.1 dX8_always_22 rfl (lv_at hl 0 rfl) ?_
        refine lv_iconst (v := iI (0)) hE.1 hE.2.1 dX8_always_23 (by decide) ?_
        refine x_vi (nn := 1) (As := [.int (iI (0))]) (rest := []) hE hK hN hP hS (s_X8_wholesWithout_0 l D K ad mm N hNN v ar al hI  (0) (by omega)) (x_recv hK hP 0 (Nat.lt_of_lt_of_le (by decide) hNN) (xG_8 rfl) rfl) rfl mw_994 mw_996 mw_29 mw_114 mw_997 (by decide +kernel) ⟨by decide, by decide⟩ hl.1 rfl (Nat.le_of_ble_eq_true rfl) ⟨Nat.zero_le _, Nat.zero_le _⟩ dX8_always_24 (fun r5 v5 ar5 al5 H locs hq5 hP hS => ?_)
        obtain ⟨⟨z5, hz5, rfl⟩, hI, hq5⟩ := hq5
        have hI : XI v5 := hI
        refine lv_istore_n (lv' := [(2, .int (iI (z5))), (0, .ref (ad 0)), (1, .int (iI (z_1)))]) hE.1 hE.2.1 dX8_always_27 rfl hl (by decide) rfl (fun ls hl => ?_)
        refine lv_iload_n hE.1 hE.2.1 dX8_always_28 rfl (lv_at hl 0 rfl) ?_
        refine s_if_ne (a := z5) (tgt := 34) hE.1 hE.2.1 (by omega) dX8_always_29 (by decide) (fun c6 => ?_) (fun c6 => ?_)
        · skip
          refine lv_aload_n hE.1 hE.2.1 dX8_always_34 rfl (lv_at hl 1 rfl) ?_
          refine x_get (x := .ref (ad 23)) hE hK hP 0 (Nat.lt_of_lt_of_le (by decide) hNN) (xG_8 rfl) rfl hin8 3 (by decide) mw_483 rfl dX8_always_35 ?_
          obtain ⟨z7, hz7, ez7⟩ := iI_of (v5 23 3)
          refine x_get (x := .int (v5 23 3)) hE hK hP 23 (Nat.lt_of_lt_of_le (by decide) hNN) (xG_7 rfl) rfl hin7 3 (by decide) mw_308 rfl dX8_always_38 ?_
          refine x_top (y := iI (z7)) ez7 ?_
          refine lv_istore_n (lv' := [(3, .int (iI (z7))), (2, .int (iI (z5))), (0, .ref (ad 0)), (1, .int (iI (z_1)))]) hE.1 hE.2.1 dX8_always_41 rfl hl (by decide) rfl (fun ls hl => ?_)
          refine lv_iconst (v := iI (0)) hE.1 hE.2.1 dX8_always_42 (by decide) ?_
          refine lv_istore (lv' := [(4, .int (iI (0))), (3, .int (iI (z7))), (2, .int (iI (z5))), (0, .ref (ad 0)), (1, .int (iI (z_1)))]) hE.1 hE.2.1 dX8_always_43 hl (by decide) rfl (fun ls hl => ?_)
          have loop8 : ∀ (k8 : Nat) (y8_4 : Int) (y8_3 : Int) (vl8 arl8 : sI) (all8 : sL) (H : Heap) (locs : List Loc) (ls : Array Slot), (9 - y8_4).toNat = k8 → (0 ≤ y8_4 ∧ y8_4 ≤ 9) → (-2147483648 ≤ y8_3 ∧ y8_3 ≤ 2147483647) → XI vl8 → (∀ i j : Nat, (i, j) ∉ ([(45, 4), (45, 5), (45, 6), (45, 7), (48, 2), (48, 3), (48, 4), (48, 5), (48, 8), (48, 9)] : List (Nat × Nat)) → vl8 i j = v5 i j) → va_P D xcl (wW ad (xG ad K mm) N vl8 arl8 all8) H → va_S (inW ad N) s.heap H locs → lv_has ls 6 [(4, .int (iI (y8_4))), (3, .int (iI (y8_3))), (2, .int (iI (z5))), (0, .ref (ad 0)), (1, .int (iI (z_1)))] → W p l e (rmD 17) s m args below meth c H locs 0 0 Q (F0 m 45 ls []) := by
            intro k8
            induction k8 using Nat.strongRecOn with
            | _ k8 ih8 =>
              intro y8_4 y8_3 vl8 arl8 all8 H locs ls hk8 hb_y8_4 hb_y8_3 hI hfr8 hP hS hl
              refine lv_iload hE.1 hE.2.1 dX8_always_45 (lv_at hl 0 rfl) ?_
              refine lv_aload_n hE.1 hE.2.1 dX8_always_47 rfl (lv_at hl 3 rfl) ?_
              refine x_get (x := .ref (ad 3)) hE hK hP 0 (Nat.lt_of_lt_of_le (by decide) hNN) (xG_8 rfl) rfl hin8 1 (by decide) mw_481 rfl dX8_always_48 ?_
              obtain ⟨z9, hz9, ez9⟩ := XI_get hI 3 2 0 9 (by decide)
              refine x_get (x := .int (vl8 3 2)) hE hK hP 3 (Nat.lt_of_lt_of_le (by decide) hNN) (xG_1 rfl) rfl hin1 2 (by decide) mw_189 rfl dX8_always_51 ?_
              refine x_top (y := iI (z9)) ez9 ?_
              refine s_icmp_ge (a := y8_4) (b := z9) (tgt := 98) hE.1 hE.2.1 (by omega) (by omega) dX8_always_54 (by decide) (fun c10 => ?_) (fun c10 => ?_)
              · skip
                refine lv_iload_n hE.1 hE.2.1 dX8_always_98 rfl (lv_at hl 1 rfl) ?_
                exact kr _ _ _ _ _ _ _ _ rfl ⟨⟨y8_3, by omega, rfl⟩, hI, fun i j h => ((hfr8 i j (fun q => h (mem_sub (by decide) q))).trans (hq5 i j (fun q => h (mem_sub (by decide) q))))⟩ hP hS dX8_always_99
              · skip
                refine lv_aload_n hE.1 hE.2.1 dX8_always_57 rfl (lv_at hl 3 rfl) ?_
                refine lv_iconst (v := iI (1)) hE.1 hE.2.1 dX8_always_58 (by decide) ?_
                refine lv_iload hE.1 hE.2.1 dX8_always_59 (lv_at hl 0 rfl) ?_
                refine lv_ishl hE.1 hE.2.1 dX8_always_61 ?_
                obtain ⟨z11, hz11, ez11⟩ := iI_shl1 (a := y8_4) (by omega)
                refine x_top ez11 ?_
                refine x_vi (nn := 1) (As := [.int (iI (z11))]) (rest := []) hE hK hN hP hS (s_X8_wholesWithout_0 l D K ad mm N hNN vl8 arl8 all8 hI  (z11) (by omega)) (x_recv hK hP 0 (Nat.lt_of_lt_of_le (by decide) hNN) (xG_8 rfl) rfl) rfl mw_994 mw_996 mw_29 mw_114 mw_997 (by decide +kernel) ⟨by decide, by decide⟩ hl.1 rfl (Nat.le_of_ble_eq_true rfl) ⟨Nat.zero_le _, Nat.zero_le _⟩ dX8_always_62 (fun r12 v12 ar12 al12 H locs hq12 hP hS => ?_)
                obtain ⟨⟨z12, hz12, rfl⟩, hI, hq12⟩ := hq12
                have hI : XI v12 := hI
                refine lv_istore (lv' := [(5, .int (iI (z12))), (4, .int (iI (y8_4))), (3, .int (iI (y8_3))), (2, .int (iI (z5))), (0, .ref (ad 0)), (1, .int (iI (z_1)))]) hE.1 hE.2.1 dX8_always_65 hl (by decide) rfl (fun ls hl => ?_)
                refine lv_iload_n hE.1 hE.2.1 dX8_always_67 rfl (lv_at hl 5 rfl) ?_
                refine s_if_ne (a := z_1) (tgt := 79) hE.1 hE.2.1 (by omega) dX8_always_68 (by decide) (fun c13 => ?_) (fun c13 => ?_)
                · skip
                  refine lv_iload hE.1 hE.2.1 dX8_always_79 (lv_at hl 0 rfl) ?_
                  refine lv_iload_n hE.1 hE.2.1 dX8_always_81 rfl (lv_at hl 3 rfl) ?_
                  refine s_icmp_ge (a := z12) (b := z5) (tgt := 92) hE.1 hE.2.1 (by omega) (by omega) dX8_always_82 (by decide) (fun c14 => ?_) (fun c14 => ?_)
                  · skip
                    refine lv_iinc (v := iI (y8_4 + 1)) (lv' := [(4, .int (iI (y8_4 + 1))), (5, .int (iI (z12))), (3, .int (iI (y8_3))), (2, .int (iI (z5))), (0, .ref (ad 0)), (1, .int (iI (z_1)))]) hE.1 hE.2.1 dX8_always_92 hl (k := 1) rfl ((iI_add (y8_4) (1)).trans (congrArg iI (by omega))) (by decide) rfl (fun ls hl => ?_)
                    refine lv_goto (tgt := 45) hE.1 hE.2.1 dX8_always_95 (by decide) ?_
                    exact ih8 _ (by omega) (y8_4 + 1) (y8_3) v12 ar12 al12 _ _ _ rfl (by omega) (by omega) hI (fun i j h => ((hq12 i j (fun q => h (mem_sub (by decide) q))).trans (hfr8 i j h))) hP hS (lv_sub hl [0, 2, 3, 4, 5] rfl)
                  · skip
                    refine lv_iload_n hE.1 hE.2.1 dX8_always_85 rfl (lv_at hl 2 rfl) ?_
                    refine lv_iconst (v := iI (1)) hE.1 hE.2.1 dX8_always_86 (by decide) ?_
                    refine lv_iload hE.1 hE.2.1 dX8_always_87 (lv_at hl 1 rfl) ?_
                    refine lv_ishl hE.1 hE.2.1 dX8_always_89 ?_
                    obtain ⟨z15, hz15, ez15⟩ := iI_shl1 (a := y8_4) (by omega)
                    refine x_top ez15 ?_
                    refine lv_ior hE.1 hE.2.1 dX8_always_90 ?_
                    obtain ⟨z16, hz16, ez16⟩ := iI_of (iI (y8_3) ||| iI (z15))
                    refine x_top ez16 ?_
                    refine lv_istore_n (lv' := [(3, .int (iI (z16))), (5, .int (iI (z12))), (4, .int (iI (y8_4))), (2, .int (iI (z5))), (0, .ref (ad 0)), (1, .int (iI (z_1)))]) hE.1 hE.2.1 dX8_always_91 rfl hl (by decide) rfl (fun ls hl => ?_)
                    refine lv_iinc (v := iI (y8_4 + 1)) (lv' := [(4, .int (iI (y8_4 + 1))), (3, .int (iI (z16))), (5, .int (iI (z12))), (2, .int (iI (z5))), (0, .ref (ad 0)), (1, .int (iI (z_1)))]) hE.1 hE.2.1 dX8_always_92 hl (k := 2) rfl ((iI_add (y8_4) (1)).trans (congrArg iI (by omega))) (by decide) rfl (fun ls hl => ?_)
                    refine lv_goto (tgt := 45) hE.1 hE.2.1 dX8_always_95 (by decide) ?_
                    exact ih8 _ (by omega) (y8_4 + 1) (z16) v12 ar12 al12 _ _ _ rfl (by omega) (by omega) hI (fun i j h => ((hq12 i j (fun q => h (mem_sub (by decide) q))).trans (hfr8 i j h))) hP hS (lv_sub hl [0, 1, 3, 4, 5] rfl)
                · skip
                  refine lv_iload hE.1 hE.2.1 dX8_always_71 (lv_at hl 0 rfl) ?_
                  refine s_if_ne (a := z12) (tgt := 92) hE.1 hE.2.1 (by omega) dX8_always_73 (by decide) (fun c17 => ?_) (fun c17 => ?_)
                  · skip
                    refine lv_iinc (v := iI (y8_4 + 1)) (lv' := [(4, .int (iI (y8_4 + 1))), (5, .int (iI (z12))), (3, .int (iI (y8_3))), (2, .int (iI (z5))), (0, .ref (ad 0)), (1, .int (iI (z_1)))]) hE.1 hE.2.1 dX8_always_92 hl (k := 1) rfl ((iI_add (y8_4) (1)).trans (congrArg iI (by omega))) (by decide) rfl (fun ls hl => ?_)
                    refine lv_goto (tgt := 45) hE.1 hE.2.1 dX8_always_95 (by decide) ?_
                    exact ih8 _ (by omega) (y8_4 + 1) (y8_3) v12 ar12 al12 _ _ _ rfl (by omega) (by omega) hI (fun i j h => ((hq12 i j (fun q => h (mem_sub (by decide) q))).trans (hfr8 i j h))) hP hS (lv_sub hl [0, 2, 3, 4, 5] rfl)
                  · skip
                    refine lv_goto (tgt := 85) hE.1 hE.2.1 dX8_always_76 (by decide) ?_
                    refine lv_iload_n hE.1 hE.2.1 dX8_always_85 rfl (lv_at hl 2 rfl) ?_
                    refine lv_iconst (v := iI (1)) hE.1 hE.2.1 dX8_always_86 (by decide) ?_
                    refine lv_iload hE.1 hE.2.1 dX8_always_87 (lv_at hl 1 rfl) ?_
                    refine lv_ishl hE.1 hE.2.1 dX8_always_89 ?_
                    obtain ⟨z18, hz18, ez18⟩ := iI_shl1 (a := y8_4) (by omega)
                    refine x_top ez18 ?_
                    refine lv_ior hE.1 hE.2.1 dX8_always_90 ?_
                    obtain ⟨z19, hz19, ez19⟩ := iI_of (iI (y8_3) ||| iI (z18))
                    refine x_top ez19 ?_
                    refine lv_istore_n (lv' := [(3, .int (iI (z19))), (5, .int (iI (z12))), (4, .int (iI (y8_4))), (2, .int (iI (z5))), (0, .ref (ad 0)), (1, .int (iI (z_1)))]) hE.1 hE.2.1 dX8_always_91 rfl hl (by decide) rfl (fun ls hl => ?_)
                    refine lv_iinc (v := iI (y8_4 + 1)) (lv' := [(4, .int (iI (y8_4 + 1))), (3, .int (iI (z19))), (5, .int (iI (z12))), (2, .int (iI (z5))), (0, .ref (ad 0)), (1, .int (iI (z_1)))]) hE.1 hE.2.1 dX8_always_92 hl (k := 2) rfl ((iI_add (y8_4) (1)).trans (congrArg iI (by omega))) (by decide) rfl (fun ls hl => ?_)
                    refine lv_goto (tgt := 45) hE.1 hE.2.1 dX8_always_95 (by decide) ?_
                    exact ih8 _ (by omega) (y8_4 + 1) (z19) v12 ar12 al12 _ _ _ rfl (by omega) (by omega) hI (fun i j h => ((hq12 i j (fun q => h (mem_sub (by decide) q))).trans (hfr8 i j h))) hP hS (lv_sub hl [0, 1, 3, 4, 5] rfl)
          exact loop8 _ (0) (z7) v5 ar5 al5 _ _ _ rfl (by omega) (by omega) hI (fun _ _ _ => rfl) hP hS hl
        · skip
          refine lv_iconst (v := iI (0)) hE.1 hE.2.1 dX8_always_32 (by decide) ?_
          exact kr _ _ _ _ _ _ _ _ rfl ⟨⟨0, by omega, rfl⟩, hI, fun i j h => (hq5 i j (fun q => h (mem_sub (by decide) q)))⟩ hP hS dX8_always_33
      · skip
        refine lv_bipush (v := iI (-2)) hE.1 hE.2.1 dX8_always_19 (by decide) ?_
        exact kr _ _ _ _ _ _ _ _ rfl ⟨⟨-2, by omega, rfl⟩, hI, fun i j h => rfl⟩ hP hS dX8_always_21

theorem dX8_around_0 : decode cX8_around 0 = .ok (.aload_n 0, 1) := by decide +kernel
theorem dX8_around_1 : decode cX8_around 1 = .ok (.iload_n 1, 1) := by decide +kernel
theorem dX8_around_2 : decode cX8_around 2 = .ok (.invokevirtual 220, 3) := by decide +kernel
theorem dX8_around_5 : decode cX8_around 5 = .ok (.ireturn, 1) := by decide +kernel
set_option maxHeartbeats 4000000 in
set_option maxRecDepth 100000 in
theorem s_X8_around_0 (l : Launch) (D : va_G) (K : Nat → ClassId) (ad : Nat → Nat) (mm : Option Nat) (N : Nat) (hNN : 132 ≤ N) (v ar : sI) (al : sL) (hI : XI v) (z_1 : Int) (hz_1 : -2147483648 ≤ z_1 ∧ z_1 ≤ 2147483647) : Met l yX8_around (wM yX8_around cX8_around 2 (some .int)) (rmD 17) (va_Pc [.ref (ad 0), .int (iI (z_1))] (wPre D K ad (xG ad K mm) N v ar al)) (va_Qi (fun (r : Int32) (u : sT) => (∃ z : Int, (-2147483648 ≤ z ∧ z ≤ 2147483647) ∧ r = iI z) ∧ XI u.1 ∧ (∀ i j : Nat, (i, j) ∉ ([(45, 4), (45, 5), (45, 6), (45, 7), (48, 2), (48, 3), (48, 4), (48, 5), (48, 8), (48, 9)] : List (Nat × Nat)) → u.1 i j = v i j)) (wB D ad (xG ad K mm) N) (inW ad N)) 0 0 (inW ad N) := by
  refine s_metI (by decide) (Nat.le_of_ble_eq_true rfl) ?_
  intro p e s m below meth c ls args Q hE hB hl kr
  have hE : CallFix p m c cX8_around 2 s args tbG "TaleCourt" := hE
  obtain ⟨hP, hK, hN⟩ := hB
  have hS : va_S (inW ad N) s.heap s.heap [] := va_S.rf
  have hl : lv_has ls 2 [(0, .ref (ad 0)), (1, .int (iI (z_1)))] := hl
  refine lv_aload_n hE.1 hE.2.1 dX8_around_0 rfl (lv_at hl 0 rfl) ?_
  refine lv_iload_n hE.1 hE.2.1 dX8_around_1 rfl (lv_at hl 1 rfl) ?_
  refine x_vi (nn := 1) (As := [.int (iI (z_1))]) (rest := []) hE hK hN hP hS (s_X8_ends_0 l D K ad mm N hNN v ar al hI  (z_1) (by omega)) (x_recv hK hP 0 (Nat.lt_of_lt_of_le (by decide) hNN) (xG_8 rfl) rfl) rfl mw_1010 mw_999 mw_1000 mw_114 mw_1001 (by decide +kernel) ⟨by decide, by decide⟩ hl.1 rfl (Nat.le_of_ble_eq_true rfl) ⟨Nat.zero_le _, Nat.zero_le _⟩ dX8_around_2 (fun r1 v1 ar1 al1 H locs hq1 hP hS => ?_)
  obtain ⟨⟨z1, hz1, rfl⟩, hI, hq1⟩ := hq1
  have hI : XI v1 := hI
  exact kr _ _ _ _ _ _ _ _ rfl ⟨⟨z1, by omega, rfl⟩, hI, fun i j h => (hq1 i j (fun q => h (mem_sub (by decide) q)))⟩ hP hS dX8_around_5

theorem dX8_lack_0 : decode cX8_lack 0 = .ok (.aload_n 0, 1) := by decide +kernel
theorem dX8_lack_1 : decode cX8_lack 1 = .ok (.getfield 19, 3) := by decide +kernel
theorem dX8_lack_4 : decode cX8_lack 4 = .ok (.iload_n 1, 1) := by decide +kernel
theorem dX8_lack_5 : decode cX8_lack 5 = .ok (.invokevirtual 102, 3) := by decide +kernel
theorem dX8_lack_8 : decode cX8_lack 8 = .ok (.ifCond .eq 19, 3) := by decide +kernel
theorem dX8_lack_11 : decode cX8_lack 11 = .ok (.aload_n 0, 1) := by decide +kernel
theorem dX8_lack_12 : decode cX8_lack 12 = .ok (.iconst 0, 1) := by decide +kernel
theorem dX8_lack_13 : decode cX8_lack 13 = .ok (.invokevirtual 211, 3) := by decide +kernel
theorem dX8_lack_16 : decode cX8_lack 16 = .ok (.aload_n 0, 1) := by decide +kernel
theorem dX8_lack_17 : decode cX8_lack 17 = .ok (.iconst 1, 1) := by decide +kernel
theorem dX8_lack_18 : decode cX8_lack 18 = .ok (.iload_n 1, 1) := by decide +kernel
theorem dX8_lack_19 : decode cX8_lack 19 = .ok (.ishl, 1) := by decide +kernel
theorem dX8_lack_20 : decode cX8_lack 20 = .ok (.invokevirtual 211, 3) := by decide +kernel
theorem dX8_lack_23 : decode cX8_lack 23 = .ok (.isub, 1) := by decide +kernel
theorem dX8_lack_24 : decode cX8_lack 24 = .ok (.goto 5, 3) := by decide +kernel
theorem dX8_lack_27 : decode cX8_lack 27 = .ok (.bipush (-2), 2) := by decide +kernel
theorem dX8_lack_29 : decode cX8_lack 29 = .ok (.ireturn, 1) := by decide +kernel
set_option maxHeartbeats 4000000 in
set_option maxRecDepth 100000 in
theorem s_X8_lack_0 (l : Launch) (D : va_G) (K : Nat → ClassId) (ad : Nat → Nat) (mm : Option Nat) (N : Nat) (hNN : 132 ≤ N) (v ar : sI) (al : sL) (hI : XI v) (z_1 : Int) (hz_1 : -2147483648 ≤ z_1 ∧ z_1 ≤ 2147483647) : Met l yX8_lack (wM yX8_lack cX8_lack 2 (some .int)) (rmD 17) (va_Pc [.ref (ad 0), .int (iI (z_1))] (wPre D K ad (xG ad K mm) N v ar al)) (va_Qi (fun (r : Int32) (u : sT) => (∃ z : Int, (-2147483648 ≤ z ∧ z ≤ 2147483647) ∧ r = iI z) ∧ XI u.1 ∧ (∀ i j : Nat, (i, j) ∉ ([(45, 4), (45, 5), (45, 6), (45, 7), (48, 2), (48, 3), (48, 4), (48, 5), (48, 8), (48, 9)] : List (Nat × Nat)) → u.1 i j = v i j)) (wB D ad (xG ad K mm) N) (inW ad N)) 0 0 (inW ad N) := by
  refine s_metI (by decide) (Nat.le_of_ble_eq_true rfl) ?_
  intro p e s m below meth c ls args Q hE hB hl kr
  have hE : CallFix p m c cX8_lack 2 s args tbG "TaleCourt" := hE
  obtain ⟨hP, hK, hN⟩ := hB
  have hS : va_S (inW ad N) s.heap s.heap [] := va_S.rf
  have hl : lv_has ls 2 [(0, .ref (ad 0)), (1, .int (iI (z_1)))] := hl
  refine lv_aload_n hE.1 hE.2.1 dX8_lack_0 rfl (lv_at hl 0 rfl) ?_
  refine x_get (x := .ref (ad 3)) hE hK hP 0 (Nat.lt_of_lt_of_le (by decide) hNN) (xG_8 rfl) rfl hin8 1 (by decide) mw_481 rfl dX8_lack_1 ?_
  refine lv_iload_n hE.1 hE.2.1 dX8_lack_4 rfl (lv_at hl 1 rfl) ?_
  refine x_vp (nn := 1) (As := [.int (iI (z_1))]) (rest := []) hE (s_X1_hasMotif_3 l D K ad mm N hNN v ar al hI  (z_1) (by omega)) wPre_blind (wPre_now hK hN hP) (x_recv hK hP 3 (Nat.lt_of_lt_of_le (by decide) hNN) (xG_1 rfl) rfl) rfl mw_694 mw_695 mw_696 mw_116 mw_697 (by decide +kernel) ⟨by decide, by decide⟩ hl.1 rfl (Nat.le_of_ble_eq_true rfl) ⟨Nat.zero_le _, Nat.zero_le _⟩ dX8_lack_5 (fun r1 hr1 => ?_)
  obtain ⟨z1, hz1, rfl⟩ := hr1
  refine s_if_eq (a := z1) (tgt := 27) hE.1 hE.2.1 (by omega) dX8_lack_8 (by decide) (fun c2 => ?_) (fun c2 => ?_)
  · skip
    refine lv_bipush (v := iI (-2)) hE.1 hE.2.1 dX8_lack_27 (by decide) ?_
    exact kr _ _ _ _ _ _ _ _ rfl ⟨⟨-2, by omega, rfl⟩, hI, fun i j h => rfl⟩ hP hS dX8_lack_29
  · skip
    refine lv_aload_n hE.1 hE.2.1 dX8_lack_11 rfl (lv_at hl 0 rfl) ?_
    refine lv_iconst (v := iI (0)) hE.1 hE.2.1 dX8_lack_12 (by decide) ?_
    refine x_vi (nn := 1) (As := [.int (iI (0))]) (rest := []) hE hK hN hP hS (s_X8_wholesWithout_0 l D K ad mm N hNN v ar al hI  (0) (by omega)) (x_recv hK hP 0 (Nat.lt_of_lt_of_le (by decide) hNN) (xG_8 rfl) rfl) rfl mw_994 mw_996 mw_29 mw_114 mw_997 (by decide +kernel) ⟨by decide, by decide⟩ hl.1 rfl (Nat.le_of_ble_eq_true rfl) ⟨Nat.zero_le _, Nat.zero_le _⟩ dX8_lack_13 (fun r3 v3 ar3 al3 H locs hq3 hP hS => ?_)
    obtain ⟨⟨z3, hz3, rfl⟩, hI, hq3⟩ := hq3
    have hI : XI v3 := hI
    refine lv_aload_n hE.1 hE.2.1 dX8_lack_16 rfl (lv_at hl 0 rfl) ?_
    refine lv_iconst (v := iI (1)) hE.1 hE.2.1 dX8_lack_17 (by decide) ?_
    refine lv_iload_n hE.1 hE.2.1 dX8_lack_18 rfl (lv_at hl 1 rfl) ?_
    refine lv_ishl hE.1 hE.2.1 dX8_lack_19 ?_
    obtain ⟨z4, hz4, ez4⟩ := iI_shl1 (a := z_1) (by omega)
    refine x_top ez4 ?_
    refine x_vi (nn := 1) (As := [.int (iI (z4))]) (rest := [.int (iI (z3))]) hE hK hN hP hS (s_X8_wholesWithout_0 l D K ad mm N hNN v3 ar3 al3 hI  (z4) (by omega)) (x_recv hK hP 0 (Nat.lt_of_lt_of_le (by decide) hNN) (xG_8 rfl) rfl) rfl mw_994 mw_996 mw_29 mw_114 mw_997 (by decide +kernel) ⟨by decide, by decide⟩ hl.1 rfl (Nat.le_of_ble_eq_true rfl) ⟨Nat.zero_le _, Nat.zero_le _⟩ dX8_lack_20 (fun r5 v5 ar5 al5 H locs hq5 hP hS => ?_)
    obtain ⟨⟨z5, hz5, rfl⟩, hI, hq5⟩ := hq5
    have hI : XI v5 := hI
    refine lv_isub hE.1 hE.2.1 dX8_lack_23 ?_
    obtain ⟨z6, hz6, ez6⟩ := iI_of (iI (z3) - iI (z5))
    refine x_top ez6 ?_
    refine lv_goto (tgt := 29) hE.1 hE.2.1 dX8_lack_24 (by decide) ?_
    exact kr _ _ _ _ _ _ _ _ rfl ⟨⟨z6, by omega, rfl⟩, hI, fun i j h => ((hq5 i j (fun q => h (mem_sub (by decide) q))).trans (hq3 i j (fun q => h (mem_sub (by decide) q))))⟩ hP hS dX8_lack_29

theorem dX8_crux_0 : decode cX8_crux 0 = .ok (.aload_n 0, 1) := by decide +kernel
theorem dX8_crux_1 : decode cX8_crux 1 = .ok (.getfield 19, 3) := by decide +kernel
theorem dX8_crux_4 : decode cX8_crux 4 = .ok (.invokevirtual 157, 3) := by decide +kernel
theorem dX8_crux_7 : decode cX8_crux 7 = .ok (.ifCond .ne 6, 3) := by decide +kernel
theorem dX8_crux_10 : decode cX8_crux 10 = .ok (.bipush (-2), 2) := by decide +kernel
theorem dX8_crux_12 : decode cX8_crux 12 = .ok (.ireturn, 1) := by decide +kernel
theorem dX8_crux_13 : decode cX8_crux 13 = .ok (.iconst (-1), 1) := by decide +kernel
theorem dX8_crux_14 : decode cX8_crux 14 = .ok (.istore_n 1, 1) := by decide +kernel
theorem dX8_crux_15 : decode cX8_crux 15 = .ok (.iconst 0, 1) := by decide +kernel
theorem dX8_crux_16 : decode cX8_crux 16 = .ok (.istore_n 2, 1) := by decide +kernel
theorem dX8_crux_17 : decode cX8_crux 17 = .ok (.iconst 0, 1) := by decide +kernel
theorem dX8_crux_18 : decode cX8_crux 18 = .ok (.istore_n 3, 1) := by decide +kernel
theorem dX8_crux_19 : decode cX8_crux 19 = .ok (.iload_n 3, 1) := by decide +kernel
theorem dX8_crux_20 : decode cX8_crux 20 = .ok (.aload_n 0, 1) := by decide +kernel
theorem dX8_crux_21 : decode cX8_crux 21 = .ok (.getfield 19, 3) := by decide +kernel
theorem dX8_crux_24 : decode cX8_crux 24 = .ok (.getfield 217, 3) := by decide +kernel
theorem dX8_crux_27 : decode cX8_crux 27 = .ok (.if_icmp .ge 33, 3) := by decide +kernel
theorem dX8_crux_30 : decode cX8_crux 30 = .ok (.aload_n 0, 1) := by decide +kernel
theorem dX8_crux_31 : decode cX8_crux 31 = .ok (.iconst 1, 1) := by decide +kernel
theorem dX8_crux_32 : decode cX8_crux 32 = .ok (.iload_n 3, 1) := by decide +kernel
theorem dX8_crux_33 : decode cX8_crux 33 = .ok (.ishl, 1) := by decide +kernel
theorem dX8_crux_34 : decode cX8_crux 34 = .ok (.invokevirtual 211, 3) := by decide +kernel
theorem dX8_crux_37 : decode cX8_crux 37 = .ok (.istore 4, 2) := by decide +kernel
theorem dX8_crux_39 : decode cX8_crux 39 = .ok (.iload_n 1, 1) := by decide +kernel
theorem dX8_crux_40 : decode cX8_crux 40 = .ok (.ifCond .lt 9, 3) := by decide +kernel
theorem dX8_crux_43 : decode cX8_crux 43 = .ok (.iload 4, 2) := by decide +kernel
theorem dX8_crux_45 : decode cX8_crux 45 = .ok (.iload_n 2, 1) := by decide +kernel
theorem dX8_crux_46 : decode cX8_crux 46 = .ok (.if_icmp .ge 8, 3) := by decide +kernel
theorem dX8_crux_49 : decode cX8_crux 49 = .ok (.iload 4, 2) := by decide +kernel
theorem dX8_crux_51 : decode cX8_crux 51 = .ok (.istore_n 2, 1) := by decide +kernel
theorem dX8_crux_52 : decode cX8_crux 52 = .ok (.iload_n 3, 1) := by decide +kernel
theorem dX8_crux_53 : decode cX8_crux 53 = .ok (.istore_n 1, 1) := by decide +kernel
theorem dX8_crux_54 : decode cX8_crux 54 = .ok (.iinc 3 1, 3) := by decide +kernel
theorem dX8_crux_57 : decode cX8_crux 57 = .ok (.goto (-38), 3) := by decide +kernel
theorem dX8_crux_60 : decode cX8_crux 60 = .ok (.iload_n 1, 1) := by decide +kernel
theorem dX8_crux_61 : decode cX8_crux 61 = .ok (.ireturn, 1) := by decide +kernel
set_option maxHeartbeats 4000000 in
set_option maxRecDepth 100000 in
theorem s_X8_crux_0 (l : Launch) (D : va_G) (K : Nat → ClassId) (ad : Nat → Nat) (mm : Option Nat) (N : Nat) (hNN : 132 ≤ N) (v ar : sI) (al : sL) (hI : XI v) : Met l yX8_crux (wM yX8_crux cX8_crux 5 (some .int)) (rmD 17) (va_Pc [.ref (ad 0)] (wPre D K ad (xG ad K mm) N v ar al)) (va_Qi (fun (r : Int32) (u : sT) => (∃ z : Int, (-2147483648 ≤ z ∧ z ≤ 2147483647) ∧ r = iI z) ∧ XI u.1 ∧ (∀ i j : Nat, (i, j) ∉ ([(45, 4), (45, 5), (45, 6), (45, 7), (48, 2), (48, 3), (48, 4), (48, 5), (48, 8), (48, 9)] : List (Nat × Nat)) → u.1 i j = v i j)) (wB D ad (xG ad K mm) N) (inW ad N)) 0 0 (inW ad N) := by
  refine s_metI (by decide) (Nat.le_of_ble_eq_true rfl) ?_
  intro p e s m below meth c ls args Q hE hB hl kr
  have hE : CallFix p m c cX8_crux 5 s args tbG "TaleCourt" := hE
  obtain ⟨hP, hK, hN⟩ := hB
  have hS : va_S (inW ad N) s.heap s.heap [] := va_S.rf
  have hl : lv_has ls 5 [(0, .ref (ad 0))] := hl
  refine lv_aload_n hE.1 hE.2.1 dX8_crux_0 rfl (lv_at hl 0 rfl) ?_
  refine x_get (x := .ref (ad 3)) hE hK hP 0 (Nat.lt_of_lt_of_le (by decide) hNN) (xG_8 rfl) rfl hin8 1 (by decide) mw_481 rfl dX8_crux_1 ?_
  refine x_vp (nn := 0) (As := []) (rest := []) hE (s_X1_stands_3 l D K ad mm N hNN v ar al hI  ) wPre_blind (wPre_now hK hN hP) (x_recv hK hP 3 (Nat.lt_of_lt_of_le (by decide) hNN) (xG_1 rfl) rfl) rfl mw_788 mw_789 mw_790 mw_116 mw_791 (by decide +kernel) ⟨by decide, by decide⟩ hl.1 rfl (Nat.le_of_ble_eq_true rfl) ⟨Nat.zero_le _, Nat.zero_le _⟩ dX8_crux_4 (fun r1 hr1 => ?_)
  obtain ⟨z1, hz1, rfl⟩ := hr1
  refine s_if_ne (a := z1) (tgt := 13) hE.1 hE.2.1 (by omega) dX8_crux_7 (by decide) (fun c2 => ?_) (fun c2 => ?_)
  · skip
    refine lv_iconst (v := iI (-1)) hE.1 hE.2.1 dX8_crux_13 (by decide) ?_
    refine lv_istore_n (lv' := [(1, .int (iI (-1))), (0, .ref (ad 0))]) hE.1 hE.2.1 dX8_crux_14 rfl hl (by decide) rfl (fun ls hl => ?_)
    refine lv_iconst (v := iI (0)) hE.1 hE.2.1 dX8_crux_15 (by decide) ?_
    refine lv_istore_n (lv' := [(2, .int (iI (0))), (1, .int (iI (-1))), (0, .ref (ad 0))]) hE.1 hE.2.1 dX8_crux_16 rfl hl (by decide) rfl (fun ls hl => ?_)
    refine lv_iconst (v := iI (0)) hE.1 hE.2.1 dX8_crux_17 (by decide) ?_
    refine lv_istore_n (lv' := [(3, .int (iI (0))), (2, .int (iI (0))), (1, .int (iI (-1))), (0, .ref (ad 0))]) hE.1 hE.2.1 dX8_crux_18 rfl hl (by decide) rfl (fun ls hl => ?_)
    have loop3 : ∀ (k3 : Nat) (y3_3 : Int) (y3_2 : Int) (y3_1 : Int) (vl3 arl3 : sI) (all3 : sL) (H : Heap) (locs : List Loc) (ls : Array Slot), (9 - y3_3).toNat = k3 → (0 ≤ y3_3 ∧ y3_3 ≤ 9) → (-2147483648 ≤ y3_2 ∧ y3_2 ≤ 2147483647) → (-2147483648 ≤ y3_1 ∧ y3_1 ≤ 2147483647) → XI vl3 → (∀ i j : Nat, (i, j) ∉ ([(45, 4), (45, 5), (45, 6), (45, 7), (48, 2), (48, 3), (48, 4), (48, 5), (48, 8), (48, 9)] : List (Nat × Nat)) → vl3 i j = v i j) → va_P D xcl (wW ad (xG ad K mm) N vl3 arl3 all3) H → va_S (inW ad N) s.heap H locs → lv_has ls 5 [(3, .int (iI (y3_3))), (2, .int (iI (y3_2))), (1, .int (iI (y3_1))), (0, .ref (ad 0))] → W p l e (rmD 17) s m args below meth c H locs 0 0 Q (F0 m 19 ls []) := by
      intro k3
      induction k3 using Nat.strongRecOn with
      | _ k3 ih3 =>
        intro y3_3 y3_2 y3_1 vl3 arl3 all3 H locs ls hk3 hb_y3_3 hb_y3_2 hb_y3_1 hI hfr3 hP hS hl
        refine lv_iload_n hE.1 hE.2.1 dX8_crux_19 rfl (lv_at hl 0 rfl) ?_
        refine lv_aload_n hE.1 hE.2.1 dX8_crux_20 rfl (lv_at hl 3 rfl) ?_
        refine x_get (x := .ref (ad 3)) hE hK hP 0 (Nat.lt_of_lt_of_le (by decide) hNN) (xG_8 rfl) rfl hin8 1 (by decide) mw_481 rfl dX8_crux_21 ?_
        obtain ⟨z4, hz4, ez4⟩ := XI_get hI 3 2 0 9 (by decide)
        refine x_get (x := .int (vl3 3 2)) hE hK hP 3 (Nat.lt_of_lt_of_le (by decide) hNN) (xG_1 rfl) rfl hin1 2 (by decide) mw_189 rfl dX8_crux_24 ?_
        refine x_top (y := iI (z4)) ez4 ?_
        refine s_icmp_ge (a := y3_3) (b := z4) (tgt := 60) hE.1 hE.2.1 (by omega) (by omega) dX8_crux_27 (by decide) (fun c5 => ?_) (fun c5 => ?_)
        · skip
          refine lv_iload_n hE.1 hE.2.1 dX8_crux_60 rfl (lv_at hl 2 rfl) ?_
          exact kr _ _ _ _ _ _ _ _ rfl ⟨⟨y3_1, by omega, rfl⟩, hI, fun i j h => (hfr3 i j (fun q => h (mem_sub (by decide) q)))⟩ hP hS dX8_crux_61
        · skip
          refine lv_aload_n hE.1 hE.2.1 dX8_crux_30 rfl (lv_at hl 3 rfl) ?_
          refine lv_iconst (v := iI (1)) hE.1 hE.2.1 dX8_crux_31 (by decide) ?_
          refine lv_iload_n hE.1 hE.2.1 dX8_crux_32 rfl (lv_at hl 0 rfl) ?_
          refine lv_ishl hE.1 hE.2.1 dX8_crux_33 ?_
          obtain ⟨z6, hz6, ez6⟩ := iI_shl1 (a := y3_3) (by omega)
          refine x_top ez6 ?_
          refine x_vi (nn := 1) (As := [.int (iI (z6))]) (rest := []) hE hK hN hP hS (s_X8_wholesWithout_0 l D K ad mm N hNN vl3 arl3 all3 hI  (z6) (by omega)) (x_recv hK hP 0 (Nat.lt_of_lt_of_le (by decide) hNN) (xG_8 rfl) rfl) rfl mw_994 mw_996 mw_29 mw_114 mw_997 (by decide +kernel) ⟨by decide, by decide⟩ hl.1 rfl (Nat.le_of_ble_eq_true rfl) ⟨Nat.zero_le _, Nat.zero_le _⟩ dX8_crux_34 (fun r7 v7 ar7 al7 H locs hq7 hP hS => ?_)
          obtain ⟨⟨z7, hz7, rfl⟩, hI, hq7⟩ := hq7
          have hI : XI v7 := hI
          refine lv_istore (lv' := [(4, .int (iI (z7))), (3, .int (iI (y3_3))), (2, .int (iI (y3_2))), (1, .int (iI (y3_1))), (0, .ref (ad 0))]) hE.1 hE.2.1 dX8_crux_37 hl (by decide) rfl (fun ls hl => ?_)
          refine lv_iload_n hE.1 hE.2.1 dX8_crux_39 rfl (lv_at hl 3 rfl) ?_
          refine s_if_lt (a := y3_1) (tgt := 49) hE.1 hE.2.1 (by omega) dX8_crux_40 (by decide) (fun c8 => ?_) (fun c8 => ?_)
          · skip
            refine lv_iload hE.1 hE.2.1 dX8_crux_49 (lv_at hl 0 rfl) ?_
            refine lv_istore_n (lv' := [(2, .int (iI (z7))), (4, .int (iI (z7))), (3, .int (iI (y3_3))), (1, .int (iI (y3_1))), (0, .ref (ad 0))]) hE.1 hE.2.1 dX8_crux_51 rfl hl (by decide) rfl (fun ls hl => ?_)
            refine lv_iload_n hE.1 hE.2.1 dX8_crux_52 rfl (lv_at hl 2 rfl) ?_
            refine lv_istore_n (lv' := [(1, .int (iI (y3_3))), (2, .int (iI (z7))), (4, .int (iI (z7))), (3, .int (iI (y3_3))), (0, .ref (ad 0))]) hE.1 hE.2.1 dX8_crux_53 rfl hl (by decide) rfl (fun ls hl => ?_)
            refine lv_iinc (v := iI (y3_3 + 1)) (lv' := [(3, .int (iI (y3_3 + 1))), (1, .int (iI (y3_3))), (2, .int (iI (z7))), (4, .int (iI (z7))), (0, .ref (ad 0))]) hE.1 hE.2.1 dX8_crux_54 hl (k := 3) rfl ((iI_add (y3_3) (1)).trans (congrArg iI (by omega))) (by decide) rfl (fun ls hl => ?_)
            refine lv_goto (tgt := 19) hE.1 hE.2.1 dX8_crux_57 (by decide) ?_
            exact ih3 _ (by omega) (y3_3 + 1) (z7) (y3_3) v7 ar7 al7 _ _ _ rfl (by omega) (by omega) (by omega) hI (fun i j h => ((hq7 i j (fun q => h (mem_sub (by decide) q))).trans (hfr3 i j h))) hP hS (lv_sub hl [0, 2, 1, 4] rfl)
          · skip
            refine lv_iload hE.1 hE.2.1 dX8_crux_43 (lv_at hl 0 rfl) ?_
            refine lv_iload_n hE.1 hE.2.1 dX8_crux_45 rfl (lv_at hl 2 rfl) ?_
            refine s_icmp_ge (a := z7) (b := y3_2) (tgt := 54) hE.1 hE.2.1 (by omega) (by omega) dX8_crux_46 (by decide) (fun c9 => ?_) (fun c9 => ?_)
            · skip
              refine lv_iinc (v := iI (y3_3 + 1)) (lv' := [(3, .int (iI (y3_3 + 1))), (4, .int (iI (z7))), (2, .int (iI (y3_2))), (1, .int (iI (y3_1))), (0, .ref (ad 0))]) hE.1 hE.2.1 dX8_crux_54 hl (k := 1) rfl ((iI_add (y3_3) (1)).trans (congrArg iI (by omega))) (by decide) rfl (fun ls hl => ?_)
              refine lv_goto (tgt := 19) hE.1 hE.2.1 dX8_crux_57 (by decide) ?_
              exact ih3 _ (by omega) (y3_3 + 1) (y3_2) (y3_1) v7 ar7 al7 _ _ _ rfl (by omega) (by omega) (by omega) hI (fun i j h => ((hq7 i j (fun q => h (mem_sub (by decide) q))).trans (hfr3 i j h))) hP hS (lv_sub hl [0, 2, 3, 4] rfl)
            · skip
              refine lv_iload hE.1 hE.2.1 dX8_crux_49 (lv_at hl 0 rfl) ?_
              refine lv_istore_n (lv' := [(2, .int (iI (z7))), (4, .int (iI (z7))), (3, .int (iI (y3_3))), (1, .int (iI (y3_1))), (0, .ref (ad 0))]) hE.1 hE.2.1 dX8_crux_51 rfl hl (by decide) rfl (fun ls hl => ?_)
              refine lv_iload_n hE.1 hE.2.1 dX8_crux_52 rfl (lv_at hl 2 rfl) ?_
              refine lv_istore_n (lv' := [(1, .int (iI (y3_3))), (2, .int (iI (z7))), (4, .int (iI (z7))), (3, .int (iI (y3_3))), (0, .ref (ad 0))]) hE.1 hE.2.1 dX8_crux_53 rfl hl (by decide) rfl (fun ls hl => ?_)
              refine lv_iinc (v := iI (y3_3 + 1)) (lv' := [(3, .int (iI (y3_3 + 1))), (1, .int (iI (y3_3))), (2, .int (iI (z7))), (4, .int (iI (z7))), (0, .ref (ad 0))]) hE.1 hE.2.1 dX8_crux_54 hl (k := 3) rfl ((iI_add (y3_3) (1)).trans (congrArg iI (by omega))) (by decide) rfl (fun ls hl => ?_)
              refine lv_goto (tgt := 19) hE.1 hE.2.1 dX8_crux_57 (by decide) ?_
              exact ih3 _ (by omega) (y3_3 + 1) (z7) (y3_3) v7 ar7 al7 _ _ _ rfl (by omega) (by omega) (by omega) hI (fun i j h => ((hq7 i j (fun q => h (mem_sub (by decide) q))).trans (hfr3 i j h))) hP hS (lv_sub hl [0, 2, 1, 4] rfl)
    exact loop3 _ (0) (0) (-1) v ar al _ _ _ rfl (by omega) (by omega) (by omega) hI (fun _ _ _ => rfl) hP hS hl
  · skip
    refine lv_bipush (v := iI (-2)) hE.1 hE.2.1 dX8_crux_10 (by decide) ?_
    exact kr _ _ _ _ _ _ _ _ rfl ⟨⟨-2, by omega, rfl⟩, hI, fun i j h => rfl⟩ hP hS dX8_crux_12

theorem dX8_cost_0 : decode cX8_cost 0 = .ok (.aload_n 0, 1) := by decide +kernel
theorem dX8_cost_1 : decode cX8_cost 1 = .ok (.getfield 19, 3) := by decide +kernel
theorem dX8_cost_4 : decode cX8_cost 4 = .ok (.iload_n 1, 1) := by decide +kernel
theorem dX8_cost_5 : decode cX8_cost 5 = .ok (.invokevirtual 102, 3) := by decide +kernel
theorem dX8_cost_8 : decode cX8_cost 8 = .ok (.ifCond .ne 6, 3) := by decide +kernel
theorem dX8_cost_11 : decode cX8_cost 11 = .ok (.bipush (-2), 2) := by decide +kernel
theorem dX8_cost_13 : decode cX8_cost 13 = .ok (.ireturn, 1) := by decide +kernel
theorem dX8_cost_14 : decode cX8_cost 14 = .ok (.aload_n 0, 1) := by decide +kernel
theorem dX8_cost_15 : decode cX8_cost 15 = .ok (.getfield 50, 3) := by decide +kernel
theorem dX8_cost_18 : decode cX8_cost 18 = .ok (.aload_n 0, 1) := by decide +kernel
theorem dX8_cost_19 : decode cX8_cost 19 = .ok (.getfield 31, 3) := by decide +kernel
theorem dX8_cost_22 : decode cX8_cost 22 = .ok (.iconst 2, 1) := by decide +kernel
theorem dX8_cost_23 : decode cX8_cost 23 = .ok (.iconst 0, 1) := by decide +kernel
theorem dX8_cost_24 : decode cX8_cost 24 = .ok (.iconst 0, 1) := by decide +kernel
theorem dX8_cost_25 : decode cX8_cost 25 = .ok (.invokevirtual 204, 3) := by decide +kernel
theorem dX8_cost_28 : decode cX8_cost 28 = .ok (.istore_n 2, 1) := by decide +kernel
theorem dX8_cost_29 : decode cX8_cost 29 = .ok (.aload_n 0, 1) := by decide +kernel
theorem dX8_cost_30 : decode cX8_cost 30 = .ok (.getfield 50, 3) := by decide +kernel
theorem dX8_cost_33 : decode cX8_cost 33 = .ok (.aload_n 0, 1) := by decide +kernel
theorem dX8_cost_34 : decode cX8_cost 34 = .ok (.getfield 31, 3) := by decide +kernel
theorem dX8_cost_37 : decode cX8_cost 37 = .ok (.iconst 2, 1) := by decide +kernel
theorem dX8_cost_38 : decode cX8_cost 38 = .ok (.iconst 0, 1) := by decide +kernel
theorem dX8_cost_39 : decode cX8_cost 39 = .ok (.iconst 1, 1) := by decide +kernel
theorem dX8_cost_40 : decode cX8_cost 40 = .ok (.iload_n 1, 1) := by decide +kernel
theorem dX8_cost_41 : decode cX8_cost 41 = .ok (.ishl, 1) := by decide +kernel
theorem dX8_cost_42 : decode cX8_cost 42 = .ok (.invokevirtual 204, 3) := by decide +kernel
theorem dX8_cost_45 : decode cX8_cost 45 = .ok (.istore_n 3, 1) := by decide +kernel
theorem dX8_cost_46 : decode cX8_cost 46 = .ok (.iload_n 2, 1) := by decide +kernel
theorem dX8_cost_47 : decode cX8_cost 47 = .ok (.ifCond .lt 7, 3) := by decide +kernel
theorem dX8_cost_50 : decode cX8_cost 50 = .ok (.iload_n 3, 1) := by decide +kernel
theorem dX8_cost_51 : decode cX8_cost 51 = .ok (.ifCond .ge 7, 3) := by decide +kernel
theorem dX8_cost_54 : decode cX8_cost 54 = .ok (.iconst (-1), 1) := by decide +kernel
theorem dX8_cost_55 : decode cX8_cost 55 = .ok (.goto 6, 3) := by decide +kernel
theorem dX8_cost_58 : decode cX8_cost 58 = .ok (.iload_n 2, 1) := by decide +kernel
theorem dX8_cost_59 : decode cX8_cost 59 = .ok (.iload_n 3, 1) := by decide +kernel
theorem dX8_cost_60 : decode cX8_cost 60 = .ok (.isub, 1) := by decide +kernel
theorem dX8_cost_61 : decode cX8_cost 61 = .ok (.ireturn, 1) := by decide +kernel
set_option maxHeartbeats 4000000 in
set_option maxRecDepth 100000 in
theorem s_X8_cost_0 (l : Launch) (D : va_G) (K : Nat → ClassId) (ad : Nat → Nat) (mm : Option Nat) (N : Nat) (hNN : 132 ≤ N) (v ar : sI) (al : sL) (hI : XI v) (z_1 : Int) (hz_1 : -2147483648 ≤ z_1 ∧ z_1 ≤ 2147483647) : Met l yX8_cost (wM yX8_cost cX8_cost 4 (some .int)) (rmD 16) (va_Pc [.ref (ad 0), .int (iI (z_1))] (wPre D K ad (xG ad K mm) N v ar al)) (va_Qi (fun (r : Int32) (u : sT) => (∃ z : Int, (-2147483648 ≤ z ∧ z ≤ 2147483647) ∧ r = iI z) ∧ XI u.1 ∧ (∀ i j : Nat, (i, j) ∉ ([(45, 4), (45, 5), (45, 6), (45, 7), (48, 2), (48, 3), (48, 4), (48, 5), (48, 8), (48, 9)] : List (Nat × Nat)) → u.1 i j = v i j)) (wB D ad (xG ad K mm) N) (inW ad N)) 0 0 (inW ad N) := by
  refine s_metI (by decide) (Nat.le_of_ble_eq_true rfl) ?_
  intro p e s m below meth c ls args Q hE hB hl kr
  have hE : CallFix p m c cX8_cost 4 s args tbG "TaleCourt" := hE
  obtain ⟨hP, hK, hN⟩ := hB
  have hS : va_S (inW ad N) s.heap s.heap [] := va_S.rf
  have hl : lv_has ls 4 [(0, .ref (ad 0)), (1, .int (iI (z_1)))] := hl
  refine lv_aload_n hE.1 hE.2.1 dX8_cost_0 rfl (lv_at hl 0 rfl) ?_
  refine x_get (x := .ref (ad 3)) hE hK hP 0 (Nat.lt_of_lt_of_le (by decide) hNN) (xG_8 rfl) rfl hin8 1 (by decide) mw_481 rfl dX8_cost_1 ?_
  refine lv_iload_n hE.1 hE.2.1 dX8_cost_4 rfl (lv_at hl 1 rfl) ?_
  refine x_vp (nn := 1) (As := [.int (iI (z_1))]) (rest := []) hE (s_X1_hasMotif_3 l D K ad mm N hNN v ar al hI  (z_1) (by omega)) wPre_blind (wPre_now hK hN hP) (x_recv hK hP 3 (Nat.lt_of_lt_of_le (by decide) hNN) (xG_1 rfl) rfl) rfl mw_694 mw_695 mw_696 mw_116 mw_697 (by decide +kernel) ⟨by decide, by decide⟩ hl.1 rfl (Nat.le_of_ble_eq_true rfl) ⟨Nat.zero_le _, Nat.zero_le _⟩ dX8_cost_5 (fun r1 hr1 => ?_)
  obtain ⟨z1, hz1, rfl⟩ := hr1
  refine s_if_ne (a := z1) (tgt := 14) hE.1 hE.2.1 (by omega) dX8_cost_8 (by decide) (fun c2 => ?_) (fun c2 => ?_)
  · skip
    refine lv_aload_n hE.1 hE.2.1 dX8_cost_14 rfl (lv_at hl 0 rfl) ?_
    refine x_get (x := .ref (ad 45)) hE hK hP 0 (Nat.lt_of_lt_of_le (by decide) hNN) (xG_8 rfl) rfl hin8 6 (by decide) mw_486 rfl dX8_cost_15 ?_
    refine lv_aload_n hE.1 hE.2.1 dX8_cost_18 rfl (lv_at hl 0 rfl) ?_
    refine x_get (x := .ref (ad 23)) hE hK hP 0 (Nat.lt_of_lt_of_le (by decide) hNN) (xG_8 rfl) rfl hin8 3 (by decide) mw_483 rfl dX8_cost_19 ?_
    refine lv_iconst (v := iI (2)) hE.1 hE.2.1 dX8_cost_22 (by decide) ?_
    refine lv_iconst (v := iI (0)) hE.1 hE.2.1 dX8_cost_23 (by decide) ?_
    refine lv_iconst (v := iI (0)) hE.1 hE.2.1 dX8_cost_24 (by decide) ?_
    refine x_vi (nn := 4) (As := [.ref (ad 23), .int (iI (2)), .int (iI (0)), .int (iI (0))]) (rest := []) hE hK hN hP hS (s_X6_ask_45_23 l D K ad mm N hNN v ar al hI  (2) (by omega) (0) (by omega) (0) (by omega)) (x_recv hK hP 45 (Nat.lt_of_lt_of_le (by decide) hNN) (xG_6 rfl) rfl) rfl mw_904 mw_905 mw_906 mw_119 mw_907 (by decide +kernel) ⟨by decide, by decide⟩ hl.1 rfl (Nat.le_of_ble_eq_true rfl) ⟨Nat.zero_le _, Nat.zero_le _⟩ dX8_cost_25 (fun r3 v3 ar3 al3 H locs hq3 hP hS => ?_)
    obtain ⟨⟨z3, hz3, rfl⟩, hI, hq3⟩ := hq3
    have hI : XI v3 := hI
    refine lv_istore_n (lv' := [(2, .int (iI (z3))), (0, .ref (ad 0)), (1, .int (iI (z_1)))]) hE.1 hE.2.1 dX8_cost_28 rfl hl (by decide) rfl (fun ls hl => ?_)
    refine lv_aload_n hE.1 hE.2.1 dX8_cost_29 rfl (lv_at hl 1 rfl) ?_
    refine x_get (x := .ref (ad 45)) hE hK hP 0 (Nat.lt_of_lt_of_le (by decide) hNN) (xG_8 rfl) rfl hin8 6 (by decide) mw_486 rfl dX8_cost_30 ?_
    refine lv_aload_n hE.1 hE.2.1 dX8_cost_33 rfl (lv_at hl 1 rfl) ?_
    refine x_get (x := .ref (ad 23)) hE hK hP 0 (Nat.lt_of_lt_of_le (by decide) hNN) (xG_8 rfl) rfl hin8 3 (by decide) mw_483 rfl dX8_cost_34 ?_
    refine lv_iconst (v := iI (2)) hE.1 hE.2.1 dX8_cost_37 (by decide) ?_
    refine lv_iconst (v := iI (0)) hE.1 hE.2.1 dX8_cost_38 (by decide) ?_
    refine lv_iconst (v := iI (1)) hE.1 hE.2.1 dX8_cost_39 (by decide) ?_
    refine lv_iload_n hE.1 hE.2.1 dX8_cost_40 rfl (lv_at hl 2 rfl) ?_
    refine lv_ishl hE.1 hE.2.1 dX8_cost_41 ?_
    obtain ⟨z4, hz4, ez4⟩ := iI_shl1 (a := z_1) (by omega)
    refine x_top ez4 ?_
    refine x_vi (nn := 4) (As := [.ref (ad 23), .int (iI (2)), .int (iI (0)), .int (iI (z4))]) (rest := []) hE hK hN hP hS (s_X6_ask_45_23 l D K ad mm N hNN v3 ar3 al3 hI  (2) (by omega) (0) (by omega) (z4) (by omega)) (x_recv hK hP 45 (Nat.lt_of_lt_of_le (by decide) hNN) (xG_6 rfl) rfl) rfl mw_904 mw_905 mw_906 mw_119 mw_907 (by decide +kernel) ⟨by decide, by decide⟩ hl.1 rfl (Nat.le_of_ble_eq_true rfl) ⟨Nat.zero_le _, Nat.zero_le _⟩ dX8_cost_42 (fun r5 v5 ar5 al5 H locs hq5 hP hS => ?_)
    obtain ⟨⟨z5, hz5, rfl⟩, hI, hq5⟩ := hq5
    have hI : XI v5 := hI
    refine lv_istore_n (lv' := [(3, .int (iI (z5))), (2, .int (iI (z3))), (0, .ref (ad 0)), (1, .int (iI (z_1)))]) hE.1 hE.2.1 dX8_cost_45 rfl hl (by decide) rfl (fun ls hl => ?_)
    refine lv_iload_n hE.1 hE.2.1 dX8_cost_46 rfl (lv_at hl 1 rfl) ?_
    refine s_if_lt (a := z3) (tgt := 54) hE.1 hE.2.1 (by omega) dX8_cost_47 (by decide) (fun c6 => ?_) (fun c6 => ?_)
    · skip
      refine lv_iconst (v := iI (-1)) hE.1 hE.2.1 dX8_cost_54 (by decide) ?_
      refine lv_goto (tgt := 61) hE.1 hE.2.1 dX8_cost_55 (by decide) ?_
      exact kr _ _ _ _ _ _ _ _ rfl ⟨⟨-1, by omega, rfl⟩, hI, fun i j h => ((hq5 i j (fun q => h (mem_sub (by decide) q))).trans (hq3 i j (fun q => h (mem_sub (by decide) q))))⟩ hP hS dX8_cost_61
    · skip
      refine lv_iload_n hE.1 hE.2.1 dX8_cost_50 rfl (lv_at hl 0 rfl) ?_
      refine s_if_ge (a := z5) (tgt := 58) hE.1 hE.2.1 (by omega) dX8_cost_51 (by decide) (fun c7 => ?_) (fun c7 => ?_)
      · skip
        refine lv_iload_n hE.1 hE.2.1 dX8_cost_58 rfl (lv_at hl 1 rfl) ?_
        refine lv_iload_n hE.1 hE.2.1 dX8_cost_59 rfl (lv_at hl 0 rfl) ?_
        refine lv_isub hE.1 hE.2.1 dX8_cost_60 ?_
        refine x_top (y := iI (z3 - z5)) ((iI_sub (z3) (z5)).trans (congrArg iI (by omega))) ?_
        exact kr _ _ _ _ _ _ _ _ rfl ⟨⟨z3 - z5, by omega, rfl⟩, hI, fun i j h => ((hq5 i j (fun q => h (mem_sub (by decide) q))).trans (hq3 i j (fun q => h (mem_sub (by decide) q))))⟩ hP hS dX8_cost_61
      · skip
        refine lv_iconst (v := iI (-1)) hE.1 hE.2.1 dX8_cost_54 (by decide) ?_
        refine lv_goto (tgt := 61) hE.1 hE.2.1 dX8_cost_55 (by decide) ?_
        exact kr _ _ _ _ _ _ _ _ rfl ⟨⟨-1, by omega, rfl⟩, hI, fun i j h => ((hq5 i j (fun q => h (mem_sub (by decide) q))).trans (hq3 i j (fun q => h (mem_sub (by decide) q))))⟩ hP hS dX8_cost_61
  · skip
    refine lv_bipush (v := iI (-2)) hE.1 hE.2.1 dX8_cost_11 (by decide) ?_
    exact kr _ _ _ _ _ _ _ _ rfl ⟨⟨-2, by omega, rfl⟩, hI, fun i j h => rfl⟩ hP hS dX8_cost_13

theorem dX0_allowTale_0 : decode cX0_allowTale 0 = .ok (.iconst 0, 1) := by decide +kernel
theorem dX0_allowTale_1 : decode cX0_allowTale 1 = .ok (.istore_n 2, 1) := by decide +kernel
theorem dX0_allowTale_2 : decode cX0_allowTale 2 = .ok (.iconst 0, 1) := by decide +kernel
theorem dX0_allowTale_3 : decode cX0_allowTale 3 = .ok (.istore_n 3, 1) := by decide +kernel
theorem dX0_allowTale_4 : decode cX0_allowTale 4 = .ok (.iload_n 3, 1) := by decide +kernel
theorem dX0_allowTale_5 : decode cX0_allowTale 5 = .ok (.aload_n 1, 1) := by decide +kernel
theorem dX0_allowTale_6 : decode cX0_allowTale 6 = .ok (.getfield 63, 3) := by decide +kernel
theorem dX0_allowTale_9 : decode cX0_allowTale 9 = .ok (.if_icmp .ge 49, 3) := by decide +kernel
theorem dX0_allowTale_12 : decode cX0_allowTale 12 = .ok (.iload_n 3, 1) := by decide +kernel
theorem dX0_allowTale_13 : decode cX0_allowTale 13 = .ok (.bipush 18, 2) := by decide +kernel
theorem dX0_allowTale_15 : decode cX0_allowTale 15 = .ok (.if_icmp .ge 43, 3) := by decide +kernel
theorem dX0_allowTale_18 : decode cX0_allowTale 18 = .ok (.aload_n 1, 1) := by decide +kernel
theorem dX0_allowTale_19 : decode cX0_allowTale 19 = .ok (.getfield 68, 3) := by decide +kernel
theorem dX0_allowTale_22 : decode cX0_allowTale 22 = .ok (.iload_n 3, 1) := by decide +kernel
theorem dX0_allowTale_23 : decode cX0_allowTale 23 = .ok (.iaload, 1) := by decide +kernel
theorem dX0_allowTale_24 : decode cX0_allowTale 24 = .ok (.istore 4, 2) := by decide +kernel
theorem dX0_allowTale_26 : decode cX0_allowTale 26 = .ok (.iload 4, 2) := by decide +kernel
theorem dX0_allowTale_28 : decode cX0_allowTale 28 = .ok (.bipush 9, 2) := by decide +kernel
theorem dX0_allowTale_30 : decode cX0_allowTale 30 = .ok (.if_icmp .eq 15, 3) := by decide +kernel
theorem dX0_allowTale_33 : decode cX0_allowTale 33 = .ok (.aload_n 0, 1) := by decide +kernel
theorem dX0_allowTale_34 : decode cX0_allowTale 34 = .ok (.iload 4, 2) := by decide +kernel
theorem dX0_allowTale_36 : decode cX0_allowTale 36 = .ok (.iload_n 2, 1) := by decide +kernel
theorem dX0_allowTale_37 : decode cX0_allowTale 37 = .ok (.invokevirtual 59, 3) := by decide +kernel
theorem dX0_allowTale_40 : decode cX0_allowTale 40 = .ok (.ifCond .ne 5, 3) := by decide +kernel
theorem dX0_allowTale_43 : decode cX0_allowTale 43 = .ok (.iconst 0, 1) := by decide +kernel
theorem dX0_allowTale_44 : decode cX0_allowTale 44 = .ok (.ireturn, 1) := by decide +kernel
theorem dX0_allowTale_45 : decode cX0_allowTale 45 = .ok (.iload_n 2, 1) := by decide +kernel
theorem dX0_allowTale_46 : decode cX0_allowTale 46 = .ok (.iconst 1, 1) := by decide +kernel
theorem dX0_allowTale_47 : decode cX0_allowTale 47 = .ok (.iload 4, 2) := by decide +kernel
theorem dX0_allowTale_49 : decode cX0_allowTale 49 = .ok (.ishl, 1) := by decide +kernel
theorem dX0_allowTale_50 : decode cX0_allowTale 50 = .ok (.ior, 1) := by decide +kernel
theorem dX0_allowTale_51 : decode cX0_allowTale 51 = .ok (.istore_n 2, 1) := by decide +kernel
theorem dX0_allowTale_52 : decode cX0_allowTale 52 = .ok (.iinc 3 1, 3) := by decide +kernel
theorem dX0_allowTale_55 : decode cX0_allowTale 55 = .ok (.goto (-51), 3) := by decide +kernel
theorem dX0_allowTale_58 : decode cX0_allowTale 58 = .ok (.iconst 1, 1) := by decide +kernel
theorem dX0_allowTale_59 : decode cX0_allowTale 59 = .ok (.ireturn, 1) := by decide +kernel
set_option maxHeartbeats 4000000 in
set_option maxRecDepth 100000 in
theorem s_X0_allowTale_39_23 (l : Launch) (D : va_G) (K : Nat → ClassId) (ad : Nat → Nat) (mm : Option Nat) (N : Nat) (hNN : 132 ≤ N) (v ar : sI) (al : sL) (hI : XI v) : Met l yX0_allowTale (wM yX0_allowTale cX0_allowTale 5 (some .boolean)) (rmD 1) (va_Pc [.ref (ad 39), .ref (ad 23)] (wPre D K ad (xG ad K mm) N v ar al)) (vp_Si (fun r => ∃ z : Int, (0 ≤ z ∧ z ≤ 1) ∧ r = iI z)) 0 0 (fun _ => False) := by
  refine s_metP (by decide) (Nat.le_of_ble_eq_true rfl) ?_
  intro p e s m below meth c ls args Q hE hB hl kr
  have hE : CallFix p m c cX0_allowTale 5 s args tbG "TaleCourt$Claims" := hE
  obtain ⟨hP, hK, hN⟩ := hB
  have hl : lv_has ls 5 [(0, .ref (ad 39)), (1, .ref (ad 23))] := hl
  refine lv_iconst (v := iI (0)) hE.1 hE.2.1 dX0_allowTale_0 (by decide) ?_
  refine lv_istore_n (lv' := [(2, .int (iI (0))), (0, .ref (ad 39)), (1, .ref (ad 23))]) hE.1 hE.2.1 dX0_allowTale_1 rfl hl (by decide) rfl (fun ls hl => ?_)
  refine lv_iconst (v := iI (0)) hE.1 hE.2.1 dX0_allowTale_2 (by decide) ?_
  refine lv_istore_n (lv' := [(3, .int (iI (0))), (2, .int (iI (0))), (0, .ref (ad 39)), (1, .ref (ad 23))]) hE.1 hE.2.1 dX0_allowTale_3 rfl hl (by decide) rfl (fun ls hl => ?_)
  have loop1 : ∀ (k1 : Nat) (y1_3 : Int) (y1_2 : Int) (ls : Array Slot), (18 - y1_3).toNat = k1 → (0 ≤ y1_3 ∧ y1_3 ≤ 18) → (-2147483648 ≤ y1_2 ∧ y1_2 ≤ 2147483647) → lv_has ls 5 [(3, .int (iI (y1_3))), (2, .int (iI (y1_2))), (0, .ref (ad 39)), (1, .ref (ad 23))] → W p l e (rmD 1) s m args below meth c s.heap [] 0 0 Q (F0 m 4 ls []) := by
    intro k1
    induction k1 using Nat.strongRecOn with
    | _ k1 ih1 =>
      intro y1_3 y1_2 ls hk1 hb_y1_3 hb_y1_2 hl
      refine lv_iload_n hE.1 hE.2.1 dX0_allowTale_4 rfl (lv_at hl 0 rfl) ?_
      refine lv_aload_n hE.1 hE.2.1 dX0_allowTale_5 rfl (lv_at hl 3 rfl) ?_
      obtain ⟨z2, hz2, ez2⟩ := XI_get hI 23 2 0 18 (by decide)
      refine x_get (x := .int (v 23 2)) hE hK hP 23 (Nat.lt_of_lt_of_le (by decide) hNN) (xG_7 rfl) rfl hin7 2 (by decide) mw_302 rfl dX0_allowTale_6 ?_
      refine x_top (y := iI (z2)) ez2 ?_
      refine s_icmp_ge (a := y1_3) (b := z2) (tgt := 58) hE.1 hE.2.1 (by omega) (by omega) dX0_allowTale_9 (by decide) (fun c3 => ?_) (fun c3 => ?_)
      · skip
        refine lv_iconst (v := iI (1)) hE.1 hE.2.1 dX0_allowTale_58 (by decide) ?_
        exact kr _ _ _ (nar01 (by omega)) ⟨1, by omega, rfl⟩ dX0_allowTale_59
      · skip
        refine lv_iload_n hE.1 hE.2.1 dX0_allowTale_12 rfl (lv_at hl 0 rfl) ?_
        refine lv_bipush (v := iI (18)) hE.1 hE.2.1 dX0_allowTale_13 (by decide) ?_
        refine s_icmp_ge (a := y1_3) (b := 18) (tgt := 58) hE.1 hE.2.1 (by omega) (by omega) dX0_allowTale_15 (by decide) (fun c4 => False.elim (by omega)) (fun _ => ?_)
        refine lv_aload_n hE.1 hE.2.1 dX0_allowTale_18 rfl (lv_at hl 3 rfl) ?_
        refine x_get (x := .ref (ad 24)) hE hK hP 23 (Nat.lt_of_lt_of_le (by decide) hNN) (xG_7 rfl) rfl hin7 0 (by decide) mw_296 rfl dX0_allowTale_19 ?_
        refine lv_iload_n hE.1 hE.2.1 dX0_allowTale_22 rfl (lv_at hl 0 rfl) ?_
        refine x_iald (j := iI (y1_3)) hE hK hP 24 (Nat.lt_of_lt_of_le (by decide) hNN) (xG_10 rfl) (iI_in (n := 18) (by omega)) dX0_allowTale_23 ?_
        obtain ⟨z6, hz6, ez6⟩ := iI_of (ar 24 (iI (y1_3)).toNatClampNeg)
        refine x_top ez6 ?_
        refine lv_istore (lv' := [(4, .int (iI (z6))), (3, .int (iI (y1_3))), (2, .int (iI (y1_2))), (0, .ref (ad 39)), (1, .ref (ad 23))]) hE.1 hE.2.1 dX0_allowTale_24 hl (by decide) rfl (fun ls hl => ?_)
        refine lv_iload hE.1 hE.2.1 dX0_allowTale_26 (lv_at hl 0 rfl) ?_
        refine lv_bipush (v := iI (9)) hE.1 hE.2.1 dX0_allowTale_28 (by decide) ?_
        refine s_icmp_eq (a := z6) (b := 9) (tgt := 45) hE.1 hE.2.1 (by omega) (by omega) dX0_allowTale_30 (by decide) (fun c7 => ?_) (fun c7 => ?_)
        · skip
          refine lv_iload_n hE.1 hE.2.1 dX0_allowTale_45 rfl (lv_at hl 2 rfl) ?_
          refine lv_iconst (v := iI (1)) hE.1 hE.2.1 dX0_allowTale_46 (by decide) ?_
          refine lv_iload hE.1 hE.2.1 dX0_allowTale_47 (lv_at hl 0 rfl) ?_
          refine lv_ishl hE.1 hE.2.1 dX0_allowTale_49 ?_
          obtain ⟨z8, hz8, ez8⟩ := iI_shl1 (a := z6) (by omega)
          refine x_top ez8 ?_
          refine lv_ior hE.1 hE.2.1 dX0_allowTale_50 ?_
          obtain ⟨z9, hz9, ez9⟩ := iI_of (iI (y1_2) ||| iI (z8))
          refine x_top ez9 ?_
          refine lv_istore_n (lv' := [(2, .int (iI (z9))), (4, .int (iI (z6))), (3, .int (iI (y1_3))), (0, .ref (ad 39)), (1, .ref (ad 23))]) hE.1 hE.2.1 dX0_allowTale_51 rfl hl (by decide) rfl (fun ls hl => ?_)
          refine lv_iinc (v := iI (y1_3 + 1)) (lv' := [(3, .int (iI (y1_3 + 1))), (2, .int (iI (z9))), (4, .int (iI (z6))), (0, .ref (ad 39)), (1, .ref (ad 23))]) hE.1 hE.2.1 dX0_allowTale_52 hl (k := 2) rfl ((iI_add (y1_3) (1)).trans (congrArg iI (by omega))) (by decide) rfl (fun ls hl => ?_)
          refine lv_goto (tgt := 4) hE.1 hE.2.1 dX0_allowTale_55 (by decide) ?_
          exact ih1 _ (by omega) (y1_3 + 1) (z9) _ rfl (by omega) (by omega) (lv_sub hl [0, 1, 3, 4] rfl)
        · skip
          refine lv_aload_n hE.1 hE.2.1 dX0_allowTale_33 rfl (lv_at hl 3 rfl) ?_
          refine lv_iload hE.1 hE.2.1 dX0_allowTale_34 (lv_at hl 0 rfl) ?_
          refine lv_iload_n hE.1 hE.2.1 dX0_allowTale_36 rfl (lv_at hl 2 rfl) ?_
          refine x_vp (nn := 2) (As := [.int (iI (z6)), .int (iI (y1_2))]) (rest := []) hE (s_X0_allows_39 l D K ad mm N hNN v ar al hI  (z6) (by omega) (y1_2) (by omega)) wPre_blind (wPre_now hK hN hP) (x_recv hK hP 39 (Nat.lt_of_lt_of_le (by decide) hNN) (xG_0 rfl) rfl) rfl mw_941 mw_943 mw_26 mw_118 mw_944 (by decide +kernel) ⟨by decide, by decide⟩ hl.1 rfl (Nat.le_of_ble_eq_true rfl) ⟨Nat.zero_le _, Nat.zero_le _⟩ dX0_allowTale_37 (fun r10 hr10 => ?_)
          obtain ⟨z10, hz10, rfl⟩ := hr10
          refine s_if_ne (a := z10) (tgt := 45) hE.1 hE.2.1 (by omega) dX0_allowTale_40 (by decide) (fun c11 => ?_) (fun c11 => ?_)
          · skip
            refine lv_iload_n hE.1 hE.2.1 dX0_allowTale_45 rfl (lv_at hl 2 rfl) ?_
            refine lv_iconst (v := iI (1)) hE.1 hE.2.1 dX0_allowTale_46 (by decide) ?_
            refine lv_iload hE.1 hE.2.1 dX0_allowTale_47 (lv_at hl 0 rfl) ?_
            refine lv_ishl hE.1 hE.2.1 dX0_allowTale_49 ?_
            obtain ⟨z12, hz12, ez12⟩ := iI_of (iI (1) <<< (iI (z6) &&& 31))
            refine x_top ez12 ?_
            refine lv_ior hE.1 hE.2.1 dX0_allowTale_50 ?_
            obtain ⟨z13, hz13, ez13⟩ := iI_of (iI (y1_2) ||| iI (z12))
            refine x_top ez13 ?_
            refine lv_istore_n (lv' := [(2, .int (iI (z13))), (4, .int (iI (z6))), (3, .int (iI (y1_3))), (0, .ref (ad 39)), (1, .ref (ad 23))]) hE.1 hE.2.1 dX0_allowTale_51 rfl hl (by decide) rfl (fun ls hl => ?_)
            refine lv_iinc (v := iI (y1_3 + 1)) (lv' := [(3, .int (iI (y1_3 + 1))), (2, .int (iI (z13))), (4, .int (iI (z6))), (0, .ref (ad 39)), (1, .ref (ad 23))]) hE.1 hE.2.1 dX0_allowTale_52 hl (k := 2) rfl ((iI_add (y1_3) (1)).trans (congrArg iI (by omega))) (by decide) rfl (fun ls hl => ?_)
            refine lv_goto (tgt := 4) hE.1 hE.2.1 dX0_allowTale_55 (by decide) ?_
            exact ih1 _ (by omega) (y1_3 + 1) (z13) _ rfl (by omega) (by omega) (lv_sub hl [0, 1, 3, 4] rfl)
          · skip
            refine lv_iconst (v := iI (0)) hE.1 hE.2.1 dX0_allowTale_43 (by decide) ?_
            exact kr _ _ _ (nar01 (by omega)) ⟨0, by omega, rfl⟩ dX0_allowTale_44
  exact loop1 _ (0) (0) _ rfl (by omega) (by omega) hl

theorem dX8_fits_0 : decode cX8_fits 0 = .ok (.aload_n 0, 1) := by decide +kernel
theorem dX8_fits_1 : decode cX8_fits 1 = .ok (.iload_n 1, 1) := by decide +kernel
theorem dX8_fits_2 : decode cX8_fits 2 = .ok (.iconst 2, 1) := by decide +kernel
theorem dX8_fits_3 : decode cX8_fits 3 = .ok (.invokevirtual 289, 3) := by decide +kernel
theorem dX8_fits_6 : decode cX8_fits 6 = .ok (.istore_n 2, 1) := by decide +kernel
theorem dX8_fits_7 : decode cX8_fits 7 = .ok (.iload_n 2, 1) := by decide +kernel
theorem dX8_fits_8 : decode cX8_fits 8 = .ok (.ifCond .eq 5, 3) := by decide +kernel
theorem dX8_fits_11 : decode cX8_fits 11 = .ok (.iload_n 2, 1) := by decide +kernel
theorem dX8_fits_12 : decode cX8_fits 12 = .ok (.ireturn, 1) := by decide +kernel
theorem dX8_fits_13 : decode cX8_fits 13 = .ok (.aload_n 0, 1) := by decide +kernel
theorem dX8_fits_14 : decode cX8_fits 14 = .ok (.getfield 41, 3) := by decide +kernel
theorem dX8_fits_17 : decode cX8_fits 17 = .ok (.aload_n 0, 1) := by decide +kernel
theorem dX8_fits_18 : decode cX8_fits 18 = .ok (.getfield 31, 3) := by decide +kernel
theorem dX8_fits_21 : decode cX8_fits 21 = .ok (.invokevirtual 301, 3) := by decide +kernel
theorem dX8_fits_24 : decode cX8_fits 24 = .ok (.ifCond .eq 21, 3) := by decide +kernel
theorem dX8_fits_27 : decode cX8_fits 27 = .ok (.aload_n 0, 1) := by decide +kernel
theorem dX8_fits_28 : decode cX8_fits 28 = .ok (.getfield 50, 3) := by decide +kernel
theorem dX8_fits_31 : decode cX8_fits 31 = .ok (.aload_n 0, 1) := by decide +kernel
theorem dX8_fits_32 : decode cX8_fits 32 = .ok (.getfield 31, 3) := by decide +kernel
theorem dX8_fits_35 : decode cX8_fits 35 = .ok (.bipush 7, 2) := by decide +kernel
theorem dX8_fits_37 : decode cX8_fits 37 = .ok (.iconst 0, 1) := by decide +kernel
theorem dX8_fits_38 : decode cX8_fits 38 = .ok (.iconst 0, 1) := by decide +kernel
theorem dX8_fits_39 : decode cX8_fits 39 = .ok (.invokevirtual 204, 3) := by decide +kernel
theorem dX8_fits_42 : decode cX8_fits 42 = .ok (.goto 4, 3) := by decide +kernel
theorem dX8_fits_45 : decode cX8_fits 45 = .ok (.iconst 0, 1) := by decide +kernel
theorem dX8_fits_46 : decode cX8_fits 46 = .ok (.ireturn, 1) := by decide +kernel
set_option maxHeartbeats 4000000 in
set_option maxRecDepth 100000 in
theorem s_X8_fits_0 (l : Launch) (D : va_G) (K : Nat → ClassId) (ad : Nat → Nat) (mm : Option Nat) (N : Nat) (hNN : 132 ≤ N) (v ar : sI) (al : sL) (hI : XI v) (z_1 : Int) (hz_1 : -2147483648 ≤ z_1 ∧ z_1 ≤ 2147483647) : Met l yX8_fits (wM yX8_fits cX8_fits 3 (some .int)) (rmD 16) (va_Pc [.ref (ad 0), .int (iI (z_1))] (wPre D K ad (xG ad K mm) N v ar al)) (va_Qi (fun (r : Int32) (u : sT) => (∃ z : Int, (-2147483648 ≤ z ∧ z ≤ 2147483647) ∧ r = iI z) ∧ XI u.1 ∧ (∀ i j : Nat, (i, j) ∉ ([(39, 0), (45, 4), (45, 5), (45, 6), (45, 7), (48, 2), (48, 3), (48, 4), (48, 5), (48, 8), (48, 9)] : List (Nat × Nat)) → u.1 i j = v i j)) (wB D ad (xG ad K mm) N) (inW ad N)) 0 0 (inW ad N) := by
  refine s_metI (by decide) (Nat.le_of_ble_eq_true rfl) ?_
  intro p e s m below meth c ls args Q hE hB hl kr
  have hE : CallFix p m c cX8_fits 3 s args tbG "TaleCourt" := hE
  obtain ⟨hP, hK, hN⟩ := hB
  have hS : va_S (inW ad N) s.heap s.heap [] := va_S.rf
  have hl : lv_has ls 3 [(0, .ref (ad 0)), (1, .int (iI (z_1)))] := hl
  refine lv_aload_n hE.1 hE.2.1 dX8_fits_0 rfl (lv_at hl 0 rfl) ?_
  refine lv_iload_n hE.1 hE.2.1 dX8_fits_1 rfl (lv_at hl 1 rfl) ?_
  refine lv_iconst (v := iI (2)) hE.1 hE.2.1 dX8_fits_2 (by decide) ?_
  refine x_vi (nn := 2) (As := [.int (iI (z_1)), .int (iI (2))]) (rest := []) hE hK hN hP hS (s_X8_claimsBar_0 l D K ad mm N hNN v ar al hI  (z_1) (by omega) (2) (by omega)) (x_recv hK hP 0 (Nat.lt_of_lt_of_le (by decide) hNN) (xG_8 rfl) rfl) rfl mw_1159 mw_1161 mw_39 mw_114 mw_1162 (by decide +kernel) ⟨by decide, by decide⟩ hl.1 rfl (Nat.le_of_ble_eq_true rfl) ⟨Nat.zero_le _, Nat.zero_le _⟩ dX8_fits_3 (fun r1 v1 ar1 al1 H locs hq1 hP hS => ?_)
  obtain ⟨⟨z1, hz1, rfl⟩, hI, hq1⟩ := hq1
  have hI : XI v1 := hI
  refine lv_istore_n (lv' := [(2, .int (iI (z1))), (0, .ref (ad 0)), (1, .int (iI (z_1)))]) hE.1 hE.2.1 dX8_fits_6 rfl hl (by decide) rfl (fun ls hl => ?_)
  refine lv_iload_n hE.1 hE.2.1 dX8_fits_7 rfl (lv_at hl 0 rfl) ?_
  refine s_if_eq (a := z1) (tgt := 13) hE.1 hE.2.1 (by omega) dX8_fits_8 (by decide) (fun c2 => ?_) (fun c2 => ?_)
  · skip
    refine lv_aload_n hE.1 hE.2.1 dX8_fits_13 rfl (lv_at hl 1 rfl) ?_
    refine x_get (x := .ref (ad 39)) hE hK hP 0 (Nat.lt_of_lt_of_le (by decide) hNN) (xG_8 rfl) rfl hin8 5 (by decide) mw_485 rfl dX8_fits_14 ?_
    refine lv_aload_n hE.1 hE.2.1 dX8_fits_17 rfl (lv_at hl 1 rfl) ?_
    refine x_get (x := .ref (ad 23)) hE hK hP 0 (Nat.lt_of_lt_of_le (by decide) hNN) (xG_8 rfl) rfl hin8 3 (by decide) mw_483 rfl dX8_fits_18 ?_
    refine x_vp (nn := 1) (As := [.ref (ad 23)]) (rest := []) hE (s_X0_allowTale_39_23 l D K ad mm N hNN v1 ar1 al1 hI  ) wPre_blind (wPre_now hK hN hP) (x_recv hK hP 39 (Nat.lt_of_lt_of_le (by decide) hNN) (xG_0 rfl) rfl) rfl mw_1209 mw_1210 mw_1211 mw_118 mw_1212 (by decide +kernel) ⟨by decide, by decide⟩ hl.1 rfl (Nat.le_of_ble_eq_true rfl) ⟨Nat.zero_le _, Nat.zero_le _⟩ dX8_fits_21 (fun r3 hr3 => ?_)
    obtain ⟨z3, hz3, rfl⟩ := hr3
    refine s_if_eq (a := z3) (tgt := 45) hE.1 hE.2.1 (by omega) dX8_fits_24 (by decide) (fun c4 => ?_) (fun c4 => ?_)
    · skip
      refine lv_iconst (v := iI (0)) hE.1 hE.2.1 dX8_fits_45 (by decide) ?_
      exact kr _ _ _ _ _ _ _ _ rfl ⟨⟨0, by omega, rfl⟩, hI, fun i j h => (hq1 i j (fun q => h (mem_sub (by decide) q)))⟩ hP hS dX8_fits_46
    · skip
      refine lv_aload_n hE.1 hE.2.1 dX8_fits_27 rfl (lv_at hl 1 rfl) ?_
      refine x_get (x := .ref (ad 45)) hE hK hP 0 (Nat.lt_of_lt_of_le (by decide) hNN) (xG_8 rfl) rfl hin8 6 (by decide) mw_486 rfl dX8_fits_28 ?_
      refine lv_aload_n hE.1 hE.2.1 dX8_fits_31 rfl (lv_at hl 1 rfl) ?_
      refine x_get (x := .ref (ad 23)) hE hK hP 0 (Nat.lt_of_lt_of_le (by decide) hNN) (xG_8 rfl) rfl hin8 3 (by decide) mw_483 rfl dX8_fits_32 ?_
      refine lv_bipush (v := iI (7)) hE.1 hE.2.1 dX8_fits_35 (by decide) ?_
      refine lv_iconst (v := iI (0)) hE.1 hE.2.1 dX8_fits_37 (by decide) ?_
      refine lv_iconst (v := iI (0)) hE.1 hE.2.1 dX8_fits_38 (by decide) ?_
      refine x_vi (nn := 4) (As := [.ref (ad 23), .int (iI (7)), .int (iI (0)), .int (iI (0))]) (rest := []) hE hK hN hP hS (s_X6_ask_45_23 l D K ad mm N hNN v1 ar1 al1 hI  (7) (by omega) (0) (by omega) (0) (by omega)) (x_recv hK hP 45 (Nat.lt_of_lt_of_le (by decide) hNN) (xG_6 rfl) rfl) rfl mw_904 mw_905 mw_906 mw_119 mw_907 (by decide +kernel) ⟨by decide, by decide⟩ hl.1 rfl (Nat.le_of_ble_eq_true rfl) ⟨Nat.zero_le _, Nat.zero_le _⟩ dX8_fits_39 (fun r5 v5 ar5 al5 H locs hq5 hP hS => ?_)
      obtain ⟨⟨z5, hz5, rfl⟩, hI, hq5⟩ := hq5
      have hI : XI v5 := hI
      refine lv_goto (tgt := 46) hE.1 hE.2.1 dX8_fits_42 (by decide) ?_
      exact kr _ _ _ _ _ _ _ _ rfl ⟨⟨z5, by omega, rfl⟩, hI, fun i j h => ((hq5 i j (fun q => h (mem_sub (by decide) q))).trans (hq1 i j (fun q => h (mem_sub (by decide) q))))⟩ hP hS dX8_fits_46
  · skip
    refine lv_iload_n hE.1 hE.2.1 dX8_fits_11 rfl (lv_at hl 0 rfl) ?_
    exact kr _ _ _ _ _ _ _ _ rfl ⟨⟨z1, by omega, rfl⟩, hI, fun i j h => (hq1 i j (fun q => h (mem_sub (by decide) q)))⟩ hP hS dX8_fits_12
